/-! the law: its caller of anchor -/
set_option maxRecDepth 100000 in
set_option maxHeartbeats 4000000 in
/-- calls anchor -/
theorem h_anchor (l : Launch) (hst : l.stackTraces = false) (G : cx_G) (f : Wd) (st : St) (x : Nat) (hI : sInv st) (hR0 : RX G f st x) (u : Int64) (v : Int64) (ou : Nat) (wo : Nat → Int64) (ho : f ou = some (2000, eJ G 1 wo)) : XI l G yL_anchor wsL_anchor 9 239 4 314 [.ref x, .long u, .long v, .ref ou] f (fun r f' => r = nI (k2 (rgL u 1 5000000000 ∧ rgL v 1 100000000) (canP st (nL u) (nL v))) ∧ RX G f' (stp (k2 (rgL u 1 5000000000 ∧ rgL v 1 100000000) (canP st (nL u) (nL v))) (anchSt st (nL u) (nL v)) st) x ∧ (∃ wo2 : Nat → Int64, f' ou = some (2000, eJ G 1 wo2) ∧ ((k2 (rgL u 1 5000000000 ∧ rgL v 1 100000000) (canP st (nL u) (nL v))) = 0 → wo2 0 = (nI (st 0 3 + 1)).toInt64)) ∧ md (fun t => tX t ∨ t = 2000) f f') (fun _ => False) := by
  refine vxh_body (cc := cL_anchor) (n := 7) (ret := (some .int)) (by decide +kernel) rfl (Nat.le_of_ble_eq_true rfl) ?_
  intro p0 e0 s0 m0 b0 meth0 c0 ls X hr hnm hout S hl
  have X : cxC G p0 l _ c0 cL_anchor 7 m0 meth0 s0 _ RL wsL_anchor := X
  have hl : lv_has ls 7 [(0, .ref x), (1, .long u), (3, .long v), (5, .ref ou)] := hl
  obtain ⟨gr9, rw9, L91, L92, L93, cu9, L94, g91, g92, g93, g94, w9, hR9⟩ := id hR0
  have hx := hR9.1
  refine lv_aload X.1 X.2.1 dL_anchor_0 (lv_at hl 3 rfl) ?_
  refine lv_iconst (v := 0) X.1 X.2.1 dL_anchor_2 (by decide) ?_
  refine lv_aload_n X.1 X.2.1 dL_anchor_3 rfl (lv_at hl 0 rfl) ?_
  refine lv_lload_n X.1 X.2.1 dL_anchor_4 rfl (lv_at hl 1 rfl) ?_
  refine lv_lload_n X.1 X.2.1 dL_anchor_5 rfl (lv_at hl 2 rfl) ?_
  refine xcall_it (xrun_V X S (c_anchor l hst G f st x hI hR0 u v) 2 gL_anchor_X9_anchor rfl rfl rfl (by decide +kernel) ⟨(by exact Nat.le_of_ble_eq_true rfl), (by exact Nat.le_of_ble_eq_true rfl)⟩ ⟨_, _, hx⟩ rfl rfl rfl hl.1 rfl (by exact Nat.le_of_ble_eq_true rfl) dL_anchor_6 ⟨(by exact Nat.le_of_ble_eq_true rfl), (by exact Nat.le_of_ble_eq_true rfl)⟩) S (fun E H locs qx ce hE S hce hcv hcl => ?_) (fun r_6 f_6 H locs hr_6 S => ?_)
  · obtain ⟨i, hi, hkc⟩ := hE
    rcases i with _ | _ | i
    · obtain rfl := Option.some.inj (show some "java/lang/IllegalArgumentException" = some E from hi)
      have hkc : (k2 (rgL u 1 5000000000 ∧ rgL v 1 100000000) (canP st (nL u) (nL v))) = 1 := hkc
      refine r_catch X hout [] ⟨0, 11, 14, 15⟩ [⟨0, 11, 18, 20⟩] rfl (fun z hz => nomatch hz) rfl (by decide) (by decide +kernel) (by decide +kernel) (pc2 := 14) rfl hce hcv hcl ?_
      refine lv_astore (lv' := [(6, .ref qx), (0, .ref x), (1, .long u), (3, .long v), (5, .ref ou)]) X.1 X.2.1 dL_anchor_14 hl (by decide) rfl (fun ls hl => ?_)
      refine lv_iconst (v := 1) X.1 X.2.1 dL_anchor_16 (by decide) ?_
      refine vx_ret (e_i X hr S (Nat.le_of_ble_eq_true rfl) (Nat.le_of_ble_eq_true rfl) dL_anchor_17 ?_)
      rw [hkc]
      exact ⟨rfl, hR0, ⟨wo, ho, fun z => absurd z (by decide)⟩, md_rf _ _⟩
    · obtain rfl := Option.some.inj (show some "java/lang/IllegalStateException" = some E from hi)
      have hkc : (k2 (rgL u 1 5000000000 ∧ rgL v 1 100000000) (canP st (nL u) (nL v))) = 2 := hkc
      refine r_catch X hout [⟨0, 11, 14, 15⟩] ⟨0, 11, 18, 20⟩ [] rfl (fun z hz => by rcases List.mem_cons.mp hz with rfl | hz; exact ⟨by decide, "java/lang/IllegalArgumentException", by decide +kernel, by decide +kernel⟩; exact nomatch hz) rfl (by decide) (by decide +kernel) (by decide +kernel) (pc2 := 18) rfl hce hcv hcl ?_
      refine lv_astore (lv' := [(6, .ref qx), (0, .ref x), (1, .long u), (3, .long v), (5, .ref ou)]) X.1 X.2.1 dL_anchor_18 hl (by decide) rfl (fun ls hl => ?_)
      refine lv_iconst (v := 2) X.1 X.2.1 dL_anchor_20 (by decide) ?_
      refine vx_ret (e_i X hr S (Nat.le_of_ble_eq_true rfl) (Nat.le_of_ble_eq_true rfl) dL_anchor_21 ?_)
      rw [hkc]
      exact ⟨rfl, hR0, ⟨wo, ho, fun z => absurd z (by decide)⟩, md_rf _ _⟩
    · exact nomatch (show (none : Option String) = some E from hi)
  · obtain ⟨hk, hrr, hRR, hmm⟩ := hr_6
    have ho_6 := hmm _ _ _ ho (by unfold tX; omega)
    refine lv_i2l (v := r_6.toInt64) X.1 X.2.1 dL_anchor_9 rfl ?_
    refine r_last X S ho_6 (by decide) (pk_in 0 1 (by omega)) dL_anchor_10 (fun H locs S => ?_)
    rw [(show (0 : Int32).toNatClampNeg = 0 from rfl)] at S
    obtain ⟨f_10, ef_10⟩ : ∃ z9 : Wd, z9 = wu f_6 ou 2000 (eJ G 1 (vp_updL wo 0 r_6.toInt64)) := ⟨_, rfl⟩
    rw [← ef_10] at S
    have ho_10 : f_10 ou = some (2000, eJ G 1 (vp_updL wo 0 r_6.toInt64)) := by rw [ef_10]; exact wu_self _ _ _ _
    refine lv_goto (tgt := 22) X.1 X.2.1 dL_anchor_11 (by decide) ?_
    refine lv_iconst (v := 0) X.1 X.2.1 dL_anchor_22 (by decide) ?_
    refine vx_ret (e_i X hr S (Nat.le_of_ble_eq_true rfl) (Nat.le_of_ble_eq_true rfl) dL_anchor_23 ?_)
    have hI1 := sInv_le (j_anchor st hI u v hk)
    rw [hk]
    exact ⟨rfl, hRR.kept (by rw [ef_10]; exact md_mono (md_put ho_6) (fun t q => by unfold tX; omega)) hI1, ⟨_, ho_10, fun _ => by rw [pk_uLs]; rw [hrr]⟩, md_tr hmm (by rw [ef_10]; exact md_put ho_6) (fun t q => Or.inl q) (fun t q => Or.inr q)⟩
