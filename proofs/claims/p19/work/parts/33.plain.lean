/-! the law: plain -/
theorem hp.clean {G : cx_G} {f f' : Wd} {H H' : Heap} (hf : ∀ (b t : Nat) (e : va_E), f b = some (t, e) → t = 9999) (h0 : hp G f H) (h : hp G f' H') : hp G f H' :=
  ⟨fun a t e ha ht => absurd (hf a t e ha) ht, h0.2.1, h0.2.2.1, h0.2.2.2.1, h.2.2.2.2⟩
theorem st0_e {B i : Nat} (h : ¬ (B = 0 ∧ i = 4)) : st0 B i = 0 := if_neg h
set_option maxRecDepth 100000 in
set_option maxHeartbeats 8000000 in
/-- plain -/
theorem m_plain (l : Launch) (hst : l.stackTraces = false) (G : cx_G) (f : Wd) (hf : ∀ (b t : Nat) (e : va_E), f b = some (t, e) → t = 9999) (hL : gL G < 2 ^ 20) (t : Nat) (ht : t ≤ 240) : QI l G yL_plain wsL_plain 11 308 95000 900000 [.ref (gb G), .int (nI t)] f (fun v => v = 1) := by
  refine cx_body (cc := cL_plain) (n := 14) (ret := (some .boolean)) (by decide +kernel) rfl (Nat.le_of_ble_eq_true rfl) ?_
  intro p0 e0 s0 m0 b0 meth0 c0 ls X hr hnm S hl
  have X : cxC G p0 l _ c0 cL_plain 14 m0 meth0 s0 _ RL wsL_plain := X
  have hl : lv_has ls 14 [(0, .ref (gb G)), (1, .int (nI t))] := hl
  have in_RX9 : ∀ w ∈ u_ws RX9 TX9 6, w ∈ wsL_plain := by decide +kernel
  have hS0 := S.1
  refine r_new (C := RX9) (T := TX9) (N := 6) (ci := 9) (fs := [.null, .null, .null, .null, .null, .int 0]) X S 0 (by decide) in_RX9 tyX9 tyX9_ok (by decide +kernel) (by decide +kernel) (by decide +kernel) rfl (fun j hj => by rcases (show j = 0 ∨ j = 1 ∨ j = 2 ∨ j = 3 ∨ j = 4 ∨ j = 5 by omega) with rfl | rfl | rfl | rfl | rfl | rfl <;> rfl) (by exact Nat.le_of_ble_eq_true rfl) (by exact Nat.le_of_ble_eq_true rfl) dL_plain_0 (fun q_0 H hn_q_0 S => ?_)
  obtain ⟨f_0, ef_0⟩ : ∃ z9 : Wd, z9 = wu f q_0 0 (.inr (9, [.null, .null, .null, .null, .null, .int 0])) := ⟨_, rfl⟩
  rw [← ef_0] at S
  have hNq0 : f_0 q_0 = some (0, .inr (9, [.null, .null, .null, .null, .null, .int 0])) := by rw [ef_0]; exact wu_self _ _ _ _
  refine lv_dup X.1 X.2.1 dL_plain_3 rfl ?_
  refine call_v (run_I X S (m_Craterclock l G f_0 q_0 hNq0) 0 gL_plain_X9_init rfl rfl rfl (by decide +kernel) (by decide +kernel) (by decide +kernel) rfl (by decide +kernel) ⟨(by exact Nat.le_of_ble_eq_true rfl), (by exact Nat.le_of_ble_eq_true rfl)⟩ rfl hl.1 rfl (by exact Nat.le_of_ble_eq_true rfl) dL_plain_4 ⟨(by exact Nat.le_of_ble_eq_true rfl), (by exact Nat.le_of_ble_eq_true rfl)⟩) S (fun f_4 H locs hr_4 S => ?_)
  obtain ⟨hR_4, -⟩ := hr_4
  refine lv_astore_n (lv' := [(2, .ref q_0), (0, .ref (gb G)), (1, .int (nI t))]) X.1 X.2.1 dL_plain_7 rfl hl (by decide) rfl (fun ls hl => ?_)
  refine lv_iconst (v := 5) X.1 X.2.1 dL_plain_8 (by decide) ?_
  refine r_newI (N' := 5) X S 2001 (by decide) (by decide +kernel) (by decide) (by decide) (by decide) (by exact Nat.le_of_ble_eq_true rfl) (by exact Nat.le_of_ble_eq_true rfl) dL_plain_9 (fun q_9 H hn_q_9 S => ?_)
  obtain ⟨f_9, ef_9⟩ : ∃ z9 : Wd, z9 = wu f_4 q_9 2001 (eI G 5 (fun _ => 0)) := ⟨_, rfl⟩
  rw [← ef_9] at S
  have hNq9 : f_9 q_9 = some (2001, eI G 5 (fun _ => 0)) := by rw [ef_9]; exact wu_self _ _ _ _
  have hR_9 : RX G f_9 st0 q_0 := hR_4.kept (by rw [ef_9]; exact md_mono (md_new hn_q_9) (fun t q => q.elim)) (by decide)
  refine lv_astore_n (lv' := [(3, .ref q_9), (2, .ref q_0), (0, .ref (gb G)), (1, .int (nI t))]) X.1 X.2.1 dL_plain_11 rfl hl (by decide) rfl (fun ls hl => ?_)
  refine lv_bipush (v := 16) X.1 X.2.1 dL_plain_12 (by decide) ?_
  refine r_newI (N' := 16) X S 2002 (by decide) (by decide +kernel) (by decide) (by decide) (by decide) (by exact Nat.le_of_ble_eq_true rfl) (by exact Nat.le_of_ble_eq_true rfl) dL_plain_14 (fun q_14 H hn_q_14 S => ?_)
  obtain ⟨f_14, ef_14⟩ : ∃ z9 : Wd, z9 = wu f_9 q_14 2002 (eI G 16 (fun _ => 0)) := ⟨_, rfl⟩
  rw [← ef_14] at S
  have hNq9_14 : f_14 q_9 = some (2001, eI G 5 (fun _ => 0)) := by rw [ef_14]; exact wu_new hn_q_14 hNq9
  have hNq14 : f_14 q_14 = some (2002, eI G 16 (fun _ => 0)) := by rw [ef_14]; exact wu_self _ _ _ _
  have hR_14 : RX G f_14 st0 q_0 := hR_9.kept (by rw [ef_14]; exact md_mono (md_new hn_q_14) (fun t q => q.elim)) (by decide)
  refine lv_astore (lv' := [(4, .ref q_14), (3, .ref q_9), (2, .ref q_0), (0, .ref (gb G)), (1, .int (nI t))]) X.1 X.2.1 dL_plain_16 hl (by decide) rfl (fun ls hl => ?_)
  refine lv_bipush (v := 64) X.1 X.2.1 dL_plain_18 (by decide) ?_
  refine r_newI (N' := 64) X S 2003 (by decide) (by decide +kernel) (by decide) (by decide) (by decide) (by exact Nat.le_of_ble_eq_true rfl) (by exact Nat.le_of_ble_eq_true rfl) dL_plain_20 (fun q_20 H hn_q_20 S => ?_)
  obtain ⟨f_20, ef_20⟩ : ∃ z9 : Wd, z9 = wu f_14 q_20 2003 (eI G 64 (fun _ => 0)) := ⟨_, rfl⟩
  rw [← ef_20] at S
  have hNq9_20 : f_20 q_9 = some (2001, eI G 5 (fun _ => 0)) := by rw [ef_20]; exact wu_new hn_q_20 hNq9_14
  have hNq14_20 : f_20 q_14 = some (2002, eI G 16 (fun _ => 0)) := by rw [ef_20]; exact wu_new hn_q_20 hNq14
  have hNq20 : f_20 q_20 = some (2003, eI G 64 (fun _ => 0)) := by rw [ef_20]; exact wu_self _ _ _ _
  have hR_20 : RX G f_20 st0 q_0 := hR_14.kept (by rw [ef_20]; exact md_mono (md_new hn_q_20) (fun t q => q.elim)) (by decide)
  refine lv_astore (lv' := [(5, .ref q_20), (4, .ref q_14), (3, .ref q_9), (2, .ref q_0), (0, .ref (gb G)), (1, .int (nI t))]) X.1 X.2.1 dL_plain_22 hl (by decide) rfl (fun ls hl => ?_)
  refine lv_bipush (v := 6) X.1 X.2.1 dL_plain_24 (by decide) ?_
  refine r_newI (N' := 6) X S 2004 (by decide) (by decide +kernel) (by decide) (by decide) (by decide) (by exact Nat.le_of_ble_eq_true rfl) (by exact Nat.le_of_ble_eq_true rfl) dL_plain_26 (fun q_26 H hn_q_26 S => ?_)
  obtain ⟨f_26, ef_26⟩ : ∃ z9 : Wd, z9 = wu f_20 q_26 2004 (eI G 6 (fun _ => 0)) := ⟨_, rfl⟩
  rw [← ef_26] at S
  have hNq9_26 : f_26 q_9 = some (2001, eI G 5 (fun _ => 0)) := by rw [ef_26]; exact wu_new hn_q_26 hNq9_20
  have hNq14_26 : f_26 q_14 = some (2002, eI G 16 (fun _ => 0)) := by rw [ef_26]; exact wu_new hn_q_26 hNq14_20
  have hNq20_26 : f_26 q_20 = some (2003, eI G 64 (fun _ => 0)) := by rw [ef_26]; exact wu_new hn_q_26 hNq20
  have hNq26 : f_26 q_26 = some (2004, eI G 6 (fun _ => 0)) := by rw [ef_26]; exact wu_self _ _ _ _
  have hR_26 : RX G f_26 st0 q_0 := hR_20.kept (by rw [ef_26]; exact md_mono (md_new hn_q_26) (fun t q => q.elim)) (by decide)
  refine lv_astore (lv' := [(6, .ref q_26), (5, .ref q_20), (4, .ref q_14), (3, .ref q_9), (2, .ref q_0), (0, .ref (gb G)), (1, .int (nI t))]) X.1 X.2.1 dL_plain_28 hl (by decide) rfl (fun ls hl => ?_)
  refine lv_bipush (v := 16) X.1 X.2.1 dL_plain_30 (by decide) ?_
  refine r_newJ (N' := 16) X S 2005 (by decide) (by decide +kernel) (by decide) (by decide) (by decide) (by exact Nat.le_of_ble_eq_true rfl) (by exact Nat.le_of_ble_eq_true rfl) dL_plain_32 (fun q_32 H hn_q_32 S => ?_)
  obtain ⟨f_32, ef_32⟩ : ∃ z9 : Wd, z9 = wu f_26 q_32 2005 (eJ G 16 (fun _ => 0)) := ⟨_, rfl⟩
  rw [← ef_32] at S
  have hNq9_32 : f_32 q_9 = some (2001, eI G 5 (fun _ => 0)) := by rw [ef_32]; exact wu_new hn_q_32 hNq9_26
  have hNq14_32 : f_32 q_14 = some (2002, eI G 16 (fun _ => 0)) := by rw [ef_32]; exact wu_new hn_q_32 hNq14_26
  have hNq20_32 : f_32 q_20 = some (2003, eI G 64 (fun _ => 0)) := by rw [ef_32]; exact wu_new hn_q_32 hNq20_26
  have hNq26_32 : f_32 q_26 = some (2004, eI G 6 (fun _ => 0)) := by rw [ef_32]; exact wu_new hn_q_32 hNq26
  have hNq32 : f_32 q_32 = some (2005, eJ G 16 (fun _ => 0)) := by rw [ef_32]; exact wu_self _ _ _ _
  have hR_32 : RX G f_32 st0 q_0 := hR_26.kept (by rw [ef_32]; exact md_mono (md_new hn_q_32) (fun t q => q.elim)) (by decide)
  refine lv_astore (lv' := [(7, .ref q_32), (6, .ref q_26), (5, .ref q_20), (4, .ref q_14), (3, .ref q_9), (2, .ref q_0), (0, .ref (gb G)), (1, .int (nI t))]) X.1 X.2.1 dL_plain_34 hl (by decide) rfl (fun ls hl => ?_)
  refine lv_iconst (v := 1) X.1 X.2.1 dL_plain_36 (by decide) ?_
  refine lv_istore (lv' := [(8, .int 1), (7, .ref q_32), (6, .ref q_26), (5, .ref q_20), (4, .ref q_14), (3, .ref q_9), (2, .ref q_0), (0, .ref (gb G)), (1, .int (nI t))]) X.1 X.2.1 dL_plain_37 hl (by decide) rfl (fun ls hl => ?_)
  refine lv_aload_n X.1 X.2.1 dL_plain_39 rfl (lv_at hl 5 rfl) ?_
  refine lv_iconst (v := 1) X.1 X.2.1 dL_plain_40 (by decide) ?_
  refine lv_iconst (v := 1) X.1 X.2.1 dL_plain_41 (by decide) ?_
  refine n_iast (i := 1) (v := 1) X S hNq9_32 (by decide) dL_plain_42 (fun f_42 H locs ef_42 S => ?_)
  have hNq9_42 : f_42 q_9 = some (2001, eI G 5 (upd (fun _ => 0) 1 1)) := by rw [ef_42]; exact wu_self _ _ _ _
  have hNq14_42 : f_42 q_14 = some (2002, eI G 16 (fun _ => 0)) := by rw [ef_42]; exact wu_get hNq9_32 hNq14_32 (by decide)
  have hNq20_42 : f_42 q_20 = some (2003, eI G 64 (fun _ => 0)) := by rw [ef_42]; exact wu_get hNq9_32 hNq20_32 (by decide)
  have hNq26_42 : f_42 q_26 = some (2004, eI G 6 (fun _ => 0)) := by rw [ef_42]; exact wu_get hNq9_32 hNq26_32 (by decide)
  have hNq32_42 : f_42 q_32 = some (2005, eJ G 16 (fun _ => 0)) := by rw [ef_42]; exact wu_get hNq9_32 hNq32 (by decide)
  have hR_42 : RX G f_42 st0 q_0 := hR_32.kept (by rw [ef_42]; exact md_mono (md_put hNq9_32) (fun t q => by subst q; unfold tX; omega)) (by decide)
  refine lv_iconst (v := 0) X.1 X.2.1 dL_plain_43 (by decide) ?_
  refine lv_istore (lv' := [(9, .int 0), (8, .int 1), (7, .ref q_32), (6, .ref q_26), (5, .ref q_20), (4, .ref q_14), (3, .ref q_9), (2, .ref q_0), (0, .ref (gb G)), (1, .int (nI t))]) X.1 X.2.1 dL_plain_44 hl (by decide) rfl (fun ls hl => ?_)
  have hA0 : LAe G f_42 st0 q_0 q_9 q_14 q_20 q_26 q_32 := ⟨_, _, _, _, _, sInv_st0, hR_42, hNq9_42, hNq14_42, hNq20_42, hNq26_42, hNq32_42, ⟨(pk_un (by omega)).trans (congrArg nI (st0_e (by omega)).symm), pk_us, (pk_un (by omega)).trans (congrArg nI (st0_e (by omega)).symm), (pk_un (by omega)).trans (congrArg nI (st0_e (by omega)).symm)⟩, grdL_cong grdL_0 (fun c _ => st0_e (by omega)), fun i hi => absurd hi (by rw [st0_e (by omega)]; exact Nat.not_lt_zero i), fun i hi => absurd hi (by rw [st0_e (by omega)]; exact Nat.not_lt_zero i)⟩
  have hB0 : LB st0 0 := ⟨by rw [st0_e (by omega)]; omega, by rw [st0_e (by omega)]; omega, fun i hi => absurd hi (by rw [st0_e (by omega)]; exact Nat.not_lt_zero i)⟩
  refine W_genQ (fun Q9 hQ9 => ?_)
  have loop : ∀ (N : Nat) (j : Nat) (stk : St) (fk : Wd) (ck : Nat) (sk : Nat) (H : Heap) (locs : List Loc) (ls : Array Slot), j ≤ 60 → 60 < j + N → LAe G fk stk q_0 q_9 q_14 q_20 q_26 q_32 → LB stk j → ck ≤ 20 + 900 * j + 5000 * (j / 10) → sk ≤ 1200 + 10600 * j + 30000 * (j / 10) → cxS G s0 fk H locs → lv_has ls 14 [(0, .ref (gb G)), (1, .int (nI t)), (2, .ref q_0), (3, .ref q_9), (4, .ref q_14), (5, .ref q_20), (6, .ref q_26), (7, .ref q_32), (8, .int 1), (9, .int (nI j))] → W p0 l e0 ({ frames := 11, cells := 95000, slots := 900000, locals := 308 } : Room) s0 m0 ([.ref (gb G), .int (nI t)] : List Value).toArray b0 meth0 c0 H locs ck sk Q9 (F0 m0 46 ls []) := by
    intro N
    induction N with
    | zero =>
      intro j stk fk ck sk  H locs ls hj hN hAe hLB hcks hsks S hl
      exfalso
      omega
    | succ N ih =>
      intro j stk fk ck sk  H locs ls hj hN hAe hLB hcks hsks S hl
      obtain ⟨C, w, D, E, A, hLA⟩ := id hAe
      obtain ⟨hI, hR0, hcc, hgg, hdd, hee, haa, ⟨hC0, hC1, hC3, hC4⟩, hgr, hE, hA⟩ := id hLA
      obtain ⟨h57, hbt, hbA⟩ := id hLB
      refine lv_iload X.1 X.2.1 dL_plain_46 (lv_at hl 9 rfl) ?_
      refine lv_bipush (v := 60) X.1 X.2.1 dL_plain_48 (by decide) ?_
      refine n_ge (a := j) (b := 60) (tgt := 274) X dL_plain_50 (by decide) (fun n_50 => ?_) (fun n_50 => ?_)
      · refine lv_iload X.1 X.2.1 dL_plain_274 (lv_at hl 8 rfl) ?_
        refine lv_if_eq (x := 1) (tgt := 293) X.1 X.2.1 dL_plain_276 (by decide) (fun c_276 => by first | exact absurd c_276 (by decide) | exact absurd (by decide) c_276) (fun c_276 => ?_)
        refine lv_aload_n X.1 X.2.1 dL_plain_279 rfl (lv_at hl 2 rfl) ?_
        refine lv_bipush (v := 51) X.1 X.2.1 dL_plain_280 (by decide) ?_
        refine r_toi (show (51 : Int32) = nI 51 from rfl) ?_
        refine lv_aload_n X.1 X.2.1 dL_plain_282 rfl (lv_at hl 3 rfl) ?_
        refine call_iq (run_S X S (m_isPlain l hst G fk stk q_0 hI hR0 q_9 C hcc hC0 h57 51 (by omega)) 3 gL_plain_L_isPlain rfl rfl rfl (by decide +kernel) ⟨(by exact Nat.le_of_ble_eq_true rfl), (by exact Nat.le_of_ble_eq_true rfl)⟩ rfl hl.1 rfl (by exact Nat.le_of_ble_eq_true rfl) dL_plain_283 ⟨(show _ ≤ 95000 by omega), (show _ ≤ 900000 by omega)⟩) S (fun r_283 H locs hr_283 S => ?_)
        subst hr_283
        refine lv_if_eq (x := 1) (tgt := 293) X.1 X.2.1 dL_plain_286 (by decide) (fun c_286 => by first | exact absurd c_286 (by decide) | exact absurd (by decide) c_286) (fun c_286 => ?_)
        refine lv_iconst (v := 1) X.1 X.2.1 dL_plain_289 (by decide) ?_
        refine lv_goto (tgt := 294) X.1 X.2.1 dL_plain_290 (by decide) ?_
        replace S : cxS G s0 f H locs := ⟨hp.clean hf hS0 S.1, S.2⟩
        subst hQ9
        refine e_zq X hr S (by omega) (by omega) dL_plain_294 rfl ?_
        rfl
      · refine lv_iload X.1 X.2.1 dL_plain_53 (lv_at hl 8 rfl) ?_
        refine lv_if_eq (x := 1) (tgt := 274) X.1 X.2.1 dL_plain_55 (by decide) (fun c_55 => by first | exact absurd c_55 (by decide) | exact absurd (by decide) c_55) (fun c_55 => ?_)
        refine lv_aload_n X.1 X.2.1 dL_plain_58 rfl (lv_at hl 0 rfl) ?_
        refine lv_iload_n X.1 X.2.1 dL_plain_59 rfl (lv_at hl 1 rfl) ?_
        refine lv_iconst (v := 2) X.1 X.2.1 dL_plain_60 (by decide) ?_
        refine lv_iload X.1 X.2.1 dL_plain_61 (lv_at hl 9 rfl) ?_
        refine n_mul (a := 2) (b := j) X dL_plain_63 ?_
        refine n_add (a := t) (b := 2 * j) X dL_plain_64 ?_
        refine r_ldc (v := 1073741824) X (by decide +kernel) dL_plain_65 ?_
        refine call_ip (run_S X S (m_draw l G fk (t + (2 * j)) (by omega) hL) 3 gL_plain_L_draw rfl rfl rfl (by decide +kernel) ⟨(by exact Nat.le_of_ble_eq_true rfl), (by exact Nat.le_of_ble_eq_true rfl)⟩ rfl hl.1 rfl (by exact Nat.le_of_ble_eq_true rfl) dL_plain_67 ⟨(show ck + 0 ≤ 95000 by omega), (show sk + 0 ≤ 900000 by omega)⟩) S (fun r_67 H locs hr_67 S => ?_)
        obtain ⟨xx, hxx, rfl⟩ := hr_67
        refine lv_istore (lv' := [(10, .int (nI xx)), (0, .ref (gb G)), (1, .int (nI t)), (2, .ref q_0), (3, .ref q_9), (4, .ref q_14), (5, .ref q_20), (6, .ref q_26), (7, .ref q_32), (8, .int 1), (9, .int (nI j))]) X.1 X.2.1 dL_plain_70 hl (by decide) rfl (fun ls hl => ?_)
        refine lv_aload_n X.1 X.2.1 dL_plain_72 rfl (lv_at hl 1 rfl) ?_
        refine lv_iload_n X.1 X.2.1 dL_plain_73 rfl (lv_at hl 2 rfl) ?_
        refine lv_iconst (v := 2) X.1 X.2.1 dL_plain_74 (by decide) ?_
        refine lv_iload X.1 X.2.1 dL_plain_75 (lv_at hl 10 rfl) ?_
        refine n_mul (a := 2) (b := j) X dL_plain_77 ?_
        refine n_add (a := t) (b := 2 * j) X dL_plain_78 ?_
        refine lv_iconst (v := 1) X.1 X.2.1 dL_plain_79 (by decide) ?_
        refine n_add (a := t + (2 * j)) (b := 1) X dL_plain_80 ?_
        refine r_ldc (v := 1073741824) X (by decide +kernel) dL_plain_81 ?_
        refine call_ip (run_S X S (m_draw l G fk ((t + (2 * j)) + 1) (by omega) hL) 3 gL_plain_L_draw rfl rfl rfl (by decide +kernel) ⟨(by exact Nat.le_of_ble_eq_true rfl), (by exact Nat.le_of_ble_eq_true rfl)⟩ rfl hl.1 rfl (by exact Nat.le_of_ble_eq_true rfl) dL_plain_83 ⟨(show ck + 0 ≤ 95000 by omega), (show sk + 0 ≤ 900000 by omega)⟩) S (fun r_83 H locs hr_83 S => ?_)
        obtain ⟨yy, hyy, rfl⟩ := hr_83
        refine lv_istore (lv' := [(11, .int (nI yy)), (10, .int (nI xx)), (0, .ref (gb G)), (1, .int (nI t)), (2, .ref q_0), (3, .ref q_9), (4, .ref q_14), (5, .ref q_20), (6, .ref q_26), (7, .ref q_32), (8, .int 1), (9, .int (nI j))]) X.1 X.2.1 dL_plain_86 hl (by decide) rfl (fun ls hl => ?_)
        refine lv_iload X.1 X.2.1 dL_plain_88 (lv_at hl 1 rfl) ?_
        refine lv_bipush (v := 16) X.1 X.2.1 dL_plain_90 (by decide) ?_
        refine n_rem (a := xx) (b := 16) X dL_plain_92 ?_
        obtain ⟨wt, hwt, ewt⟩ : ∃ z9 : Nat, (z9 < 16) ∧ nI (xx % 16) = nI z9 := ⟨_, Nat.mod_lt _ (by omega), rfl⟩
        refine r_toi ewt ?_
        refine lv_istore (lv' := [(12, .int (nI wt)), (11, .int (nI yy)), (10, .int (nI xx)), (0, .ref (gb G)), (1, .int (nI t)), (2, .ref q_0), (3, .ref q_9), (4, .ref q_14), (5, .ref q_20), (6, .ref q_26), (7, .ref q_32), (8, .int 1), (9, .int (nI j))]) X.1 X.2.1 dL_plain_93 hl (by decide) rfl (fun ls hl => ?_)
        refine lv_iload X.1 X.2.1 dL_plain_95 (lv_at hl 2 rfl) ?_
        refine lv_bipush (v := 16) X.1 X.2.1 dL_plain_97 (by decide) ?_
        refine n_div (a := xx) (b := 16) X dL_plain_99 ?_
        obtain ⟨zz, hzz, ezz⟩ : ∃ z9 : Nat, (z9 < 2 ^ 30) ∧ nI (xx / 16) = nI z9 := ⟨_, (by omega), rfl⟩
        refine r_toi ezz ?_
        refine lv_istore (lv' := [(13, .int (nI zz)), (12, .int (nI wt)), (11, .int (nI yy)), (10, .int (nI xx)), (0, .ref (gb G)), (1, .int (nI t)), (2, .ref q_0), (3, .ref q_9), (4, .ref q_14), (5, .ref q_20), (6, .ref q_26), (7, .ref q_32), (8, .int 1), (9, .int (nI j))]) X.1 X.2.1 dL_plain_100 hl (by decide) rfl (fun ls hl => ?_)
        have J236 : ∀ (st2 : St) (f2 : Wd) (ck2 sk2 : Nat) (H : Heap) (locs : List Loc) (ls : Array Slot), LAe G f2 st2 q_0 q_9 q_14 q_20 q_26 q_32 → LB st2 (j + 1) → ck2 ≤ ck + 900 → sk2 ≤ sk + 10600 → cxS G s0 f2 H locs → lv_has ls 14 [(0, .ref (gb G)), (1, .int (nI t)), (2, .ref q_0), (3, .ref q_9), (4, .ref q_14), (5, .ref q_20), (6, .ref q_26), (7, .ref q_32), (8, .int 1), (9, .int (nI j)), (11, .int (nI yy))] → W p0 l e0 ({ frames := 11, cells := 95000, slots := 900000, locals := 308 } : Room) s0 m0 ([.ref (gb G), .int (nI t)] : List Value).toArray b0 meth0 c0 H locs ck2 sk2 Q9 (F0 m0 236 ls []) := by
          intro st2 f2 ck2 sk2 H locs ls hA2 hB2 hck2 hsk2 S hl
          obtain ⟨C2, w2, D2, E2, A2, hLA2⟩ := id hA2
          obtain ⟨hI2, hR2, hcc2, -, -, -, -, ⟨hC02, -⟩, -⟩ := id hLA2
          have h572 := hB2.1
          refine lv_iload X.1 X.2.1 dL_plain_236 (lv_at hl 8 rfl) ?_
          refine lv_if_eq (x := 1) (tgt := 265) X.1 X.2.1 dL_plain_238 (by decide) (fun c_238 => by first | exact absurd c_238 (by decide) | exact absurd (by decide) c_238) (fun c_238 => ?_)
          refine lv_iload X.1 X.2.1 dL_plain_241 (lv_at hl 9 rfl) ?_
          refine lv_bipush (v := 10) X.1 X.2.1 dL_plain_243 (by decide) ?_
          refine n_rem (a := j) (b := 10) X dL_plain_245 ?_
          refine lv_bipush (v := 9) X.1 X.2.1 dL_plain_246 (by decide) ?_
          refine n_lt (a := j % 10) (b := 9) (tgt := 261) X dL_plain_248 (by decide) (fun n_248 => ?_) (fun n_248 => ?_)
          · refine lv_iconst (v := 1) X.1 X.2.1 dL_plain_261 (by decide) ?_
            refine lv_goto (tgt := 266) X.1 X.2.1 dL_plain_262 (by decide) ?_
            refine lv_istore (lv' := [(8, .int 1), (0, .ref (gb G)), (1, .int (nI t)), (2, .ref q_0), (3, .ref q_9), (4, .ref q_14), (5, .ref q_20), (6, .ref q_26), (7, .ref q_32), (9, .int (nI j)), (11, .int (nI yy))]) X.1 X.2.1 dL_plain_266 hl (by decide) rfl (fun ls hl => ?_)
            refine lv_iinc (v := (nI (j + 1))) (lv' := [(9, .int (nI (j + 1))), (8, .int 1), (0, .ref (gb G)), (1, .int (nI t)), (2, .ref q_0), (3, .ref q_9), (4, .ref q_14), (5, .ref q_20), (6, .ref q_26), (7, .ref q_32), (11, .int (nI yy))]) X.1 X.2.1 dL_plain_268 hl (k := 9) rfl (nI_1 _) (by decide) rfl (fun ls hl => ?_)
            refine lv_goto (tgt := 46) X.1 X.2.1 dL_plain_271 (by decide) ?_
            exact ih (j + 1) st2 f2 _ _ H locs ls (by omega) (by omega) hA2 hB2 (by omega) (by omega) S (lv_sub hl [2, 3, 4, 5, 6, 7, 8, 9, 1, 0] rfl)
          · refine lv_aload_n X.1 X.2.1 dL_plain_251 rfl (lv_at hl 2 rfl) ?_
            refine lv_iload X.1 X.2.1 dL_plain_252 (lv_at hl 10 rfl) ?_
            refine lv_aload_n X.1 X.2.1 dL_plain_254 rfl (lv_at hl 3 rfl) ?_
            refine call_iq (run_S X S (m_isPlain l hst G f2 st2 q_0 hI2 hR2 q_9 C2 hcc2 hC02 h572 yy (by omega)) 3 gL_plain_L_isPlain rfl rfl rfl (by decide +kernel) ⟨(by exact Nat.le_of_ble_eq_true rfl), (by exact Nat.le_of_ble_eq_true rfl)⟩ rfl hl.1 rfl (by exact Nat.le_of_ble_eq_true rfl) dL_plain_255 ⟨(show _ ≤ 95000 by omega), (show _ ≤ 900000 by omega)⟩) S (fun r_255 H locs hr_255 S => ?_)
            subst hr_255
            refine lv_if_eq (x := 1) (tgt := 265) X.1 X.2.1 dL_plain_258 (by decide) (fun c_258 => by first | exact absurd c_258 (by decide) | exact absurd (by decide) c_258) (fun c_258 => ?_)
            refine lv_iconst (v := 1) X.1 X.2.1 dL_plain_261 (by decide) ?_
            refine lv_goto (tgt := 266) X.1 X.2.1 dL_plain_262 (by decide) ?_
            refine lv_istore (lv' := [(8, .int 1), (0, .ref (gb G)), (1, .int (nI t)), (2, .ref q_0), (3, .ref q_9), (4, .ref q_14), (5, .ref q_20), (6, .ref q_26), (7, .ref q_32), (9, .int (nI j)), (11, .int (nI yy))]) X.1 X.2.1 dL_plain_266 hl (by decide) rfl (fun ls hl => ?_)
            refine lv_iinc (v := (nI (j + 1))) (lv' := [(9, .int (nI (j + 1))), (8, .int 1), (0, .ref (gb G)), (1, .int (nI t)), (2, .ref q_0), (3, .ref q_9), (4, .ref q_14), (5, .ref q_20), (6, .ref q_26), (7, .ref q_32), (11, .int (nI yy))]) X.1 X.2.1 dL_plain_268 hl (k := 9) rfl (nI_1 _) (by decide) rfl (fun ls hl => ?_)
            refine lv_goto (tgt := 46) X.1 X.2.1 dL_plain_271 (by decide) ?_
            exact ih (j + 1) st2 f2 _ _ H locs ls (by omega) (by omega) hA2 hB2 (by omega) (by omega) S (lv_sub hl [2, 3, 4, 5, 6, 7, 8, 9, 1, 0] rfl)
        refine lv_iload X.1 X.2.1 dL_plain_102 (lv_at hl 1 rfl) ?_
        refine lv_bipush (v := 6) X.1 X.2.1 dL_plain_104 (by decide) ?_
        refine n_ge (a := wt) (b := 6) (tgt := 135) X dL_plain_106 (by decide) (fun n_106 => ?_) (fun n_106 => ?_)
        · refine lv_iload X.1 X.2.1 dL_plain_135 (lv_at hl 1 rfl) ?_
          refine lv_bipush (v := 6) X.1 X.2.1 dL_plain_137 (by decide) ?_
          refine n_ne (a := wt) (b := 6) (tgt := 169) X dL_plain_139 (by decide) (fun n_139 => ?_) (fun n_139 => ?_)
          · refine lv_iload X.1 X.2.1 dL_plain_169 (lv_at hl 1 rfl) ?_
            refine lv_bipush (v := 9) X.1 X.2.1 dL_plain_171 (by decide) ?_
            refine n_ge (a := wt) (b := 9) (tgt := 194) X dL_plain_173 (by decide) (fun n_173 => ?_) (fun n_173 => ?_)
            · refine lv_iload X.1 X.2.1 dL_plain_194 (lv_at hl 1 rfl) ?_
              refine lv_bipush (v := 13) X.1 X.2.1 dL_plain_196 (by decide) ?_
              refine n_ge (a := wt) (b := 13) (tgt := 221) X dL_plain_198 (by decide) (fun n_198 => ?_) (fun n_198 => ?_)
              · refine lv_aload_n X.1 X.2.1 dL_plain_221 rfl (lv_at hl 6 rfl) ?_
                refine lv_iload X.1 X.2.1 dL_plain_222 (lv_at hl 0 rfl) ?_
                refine lv_iload X.1 X.2.1 dL_plain_224 (lv_at hl 2 rfl) ?_
                refine lv_aload_n X.1 X.2.1 dL_plain_226 rfl (lv_at hl 7 rfl) ?_
                refine lv_aload X.1 X.2.1 dL_plain_227 (lv_at hl 10 rfl) ?_
                refine lv_aload X.1 X.2.1 dL_plain_229 (lv_at hl 11 rfl) ?_
                refine call_iq (run_S X S (m_isClock l hst G fk stk q_0 hI hR0 q_9 q_26 q_32 C E A hcc hee haa hC0 hC3 hC4 hE hA h57 zz yy hzz (by omega)) 6 gL_plain_L_isClock rfl rfl rfl (by decide +kernel) ⟨(by exact Nat.le_of_ble_eq_true rfl), (by exact Nat.le_of_ble_eq_true rfl)⟩ rfl hl.1 rfl (by exact Nat.le_of_ble_eq_true rfl) dL_plain_231 ⟨(show _ ≤ 95000 by omega), (show _ ≤ 900000 by omega)⟩) S (fun r_231 H locs hr_231 S => ?_)
                subst hr_231
                refine lv_istore (lv' := [(8, .int 1), (13, .int (nI zz)), (12, .int (nI wt)), (11, .int (nI yy)), (10, .int (nI xx)), (0, .ref (gb G)), (1, .int (nI t)), (2, .ref q_0), (3, .ref q_9), (4, .ref q_14), (5, .ref q_20), (6, .ref q_26), (7, .ref q_32), (9, .int (nI j))]) X.1 X.2.1 dL_plain_234 hl (by decide) rfl (fun ls hl => ?_)
                exact J236 stk fk _ _ H locs ls hAe (show LB stk (j + 1) from ⟨h57, Nat.le_succ_of_le hbt, hbA⟩) (by omega) (by omega) S (lv_sub hl [5, 6, 7, 8, 9, 10, 11, 12, 0, 13, 3] rfl)
              · refine lv_aload_n X.1 X.2.1 dL_plain_201 rfl (lv_at hl 6 rfl) ?_
                refine lv_iload X.1 X.2.1 dL_plain_202 (lv_at hl 0 rfl) ?_
                refine lv_iload X.1 X.2.1 dL_plain_204 (lv_at hl 2 rfl) ?_
                refine lv_aload_n X.1 X.2.1 dL_plain_206 rfl (lv_at hl 7 rfl) ?_
                refine lv_aload X.1 X.2.1 dL_plain_207 (lv_at hl 8 rfl) ?_
                refine lv_aload X.1 X.2.1 dL_plain_209 (lv_at hl 10 rfl) ?_
                refine lv_aload X.1 X.2.1 dL_plain_211 (lv_at hl 11 rfl) ?_
                refine call_i (run_S X S (m_others l hst G fk stk q_0 q_9 q_14 q_20 q_26 q_32 C w D E A hLA j hLB zz yy hzz (by omega)) 7 gL_plain_L_others rfl rfl rfl (by decide +kernel) ⟨(by exact Nat.le_of_ble_eq_true rfl), (by exact Nat.le_of_ble_eq_true rfl)⟩ rfl hl.1 rfl (by exact Nat.le_of_ble_eq_true rfl) dL_plain_213 ⟨(show _ ≤ 95000 by omega), (show _ ≤ 900000 by omega)⟩) S (fun r_213 f_213 H locs hr_213 S => ?_)
                obtain ⟨rfl, st_213, hA_213, hB_213⟩ := hr_213
                refine lv_istore (lv' := [(8, .int 1), (13, .int (nI zz)), (12, .int (nI wt)), (11, .int (nI yy)), (10, .int (nI xx)), (0, .ref (gb G)), (1, .int (nI t)), (2, .ref q_0), (3, .ref q_9), (4, .ref q_14), (5, .ref q_20), (6, .ref q_26), (7, .ref q_32), (9, .int (nI j))]) X.1 X.2.1 dL_plain_216 hl (by decide) rfl (fun ls hl => ?_)
                refine lv_goto (tgt := 236) X.1 X.2.1 dL_plain_218 (by decide) ?_
                exact J236 st_213 f_213 _ _ H locs ls hA_213 hB_213 (by omega) (by omega) S (lv_sub hl [5, 6, 7, 8, 9, 10, 11, 12, 0, 13, 3] rfl)
            · refine lv_aload_n X.1 X.2.1 dL_plain_176 rfl (lv_at hl 6 rfl) ?_
              refine lv_iload X.1 X.2.1 dL_plain_177 (lv_at hl 0 rfl) ?_
              refine lv_iload X.1 X.2.1 dL_plain_179 (lv_at hl 2 rfl) ?_
              refine lv_aload_n X.1 X.2.1 dL_plain_181 rfl (lv_at hl 7 rfl) ?_
              refine lv_aload X.1 X.2.1 dL_plain_182 (lv_at hl 8 rfl) ?_
              refine lv_aload X.1 X.2.1 dL_plain_184 (lv_at hl 9 rfl) ?_
              refine call_i (run_S X S (m_lessens l hst G fk stk q_0 q_9 q_14 q_20 q_26 q_32 C w D E A hLA j hLB (by omega) zz yy hzz (by omega)) 6 gL_plain_L_lessens rfl rfl rfl (by decide +kernel) ⟨(by exact Nat.le_of_ble_eq_true rfl), (by exact Nat.le_of_ble_eq_true rfl)⟩ rfl hl.1 rfl (by exact Nat.le_of_ble_eq_true rfl) dL_plain_186 ⟨(show _ ≤ 95000 by omega), (show _ ≤ 900000 by omega)⟩) S (fun r_186 f_186 H locs hr_186 S => ?_)
              obtain ⟨rfl, st_186, hA_186, hB_186⟩ := hr_186
              refine lv_istore (lv' := [(8, .int 1), (13, .int (nI zz)), (12, .int (nI wt)), (11, .int (nI yy)), (10, .int (nI xx)), (0, .ref (gb G)), (1, .int (nI t)), (2, .ref q_0), (3, .ref q_9), (4, .ref q_14), (5, .ref q_20), (6, .ref q_26), (7, .ref q_32), (9, .int (nI j))]) X.1 X.2.1 dL_plain_189 hl (by decide) rfl (fun ls hl => ?_)
              refine lv_goto (tgt := 236) X.1 X.2.1 dL_plain_191 (by decide) ?_
              exact J236 st_186 f_186 _ _ H locs ls hA_186 hB_186 (by omega) (by omega) S (lv_sub hl [5, 6, 7, 8, 9, 10, 11, 12, 0, 13, 3] rfl)
          · refine lv_aload_n X.1 X.2.1 dL_plain_142 rfl (lv_at hl 7 rfl) ?_
            refine lv_iconst (v := 0) X.1 X.2.1 dL_plain_143 (by decide) ?_
            refine n_iald (i := 0) (v := (nI (stk 0 0))) X S hcc hC0 dL_plain_144 ?_
            refine lv_bipush (v := 50) X.1 X.2.1 dL_plain_145 (by decide) ?_
            refine n_ge (a := stk 0 0) (b := 50) (tgt := 169) X dL_plain_147 (by decide) (fun n_147 => ?_) (fun n_147 => ?_)
            · refine lv_iload X.1 X.2.1 dL_plain_169 (lv_at hl 1 rfl) ?_
              refine lv_bipush (v := 9) X.1 X.2.1 dL_plain_171 (by decide) ?_
              refine n_ge (a := wt) (b := 9) (tgt := 194) X dL_plain_173 (by decide) (fun n_173 => ?_) (fun n_173 => ?_)
              · refine lv_iload X.1 X.2.1 dL_plain_194 (lv_at hl 1 rfl) ?_
                refine lv_bipush (v := 13) X.1 X.2.1 dL_plain_196 (by decide) ?_
                refine n_ge (a := wt) (b := 13) (tgt := 221) X dL_plain_198 (by decide) (fun n_198 => ?_) (fun n_198 => ?_)
                · refine lv_aload_n X.1 X.2.1 dL_plain_221 rfl (lv_at hl 6 rfl) ?_
                  refine lv_iload X.1 X.2.1 dL_plain_222 (lv_at hl 0 rfl) ?_
                  refine lv_iload X.1 X.2.1 dL_plain_224 (lv_at hl 2 rfl) ?_
                  refine lv_aload_n X.1 X.2.1 dL_plain_226 rfl (lv_at hl 7 rfl) ?_
                  refine lv_aload X.1 X.2.1 dL_plain_227 (lv_at hl 10 rfl) ?_
                  refine lv_aload X.1 X.2.1 dL_plain_229 (lv_at hl 11 rfl) ?_
                  refine call_iq (run_S X S (m_isClock l hst G fk stk q_0 hI hR0 q_9 q_26 q_32 C E A hcc hee haa hC0 hC3 hC4 hE hA h57 zz yy hzz (by omega)) 6 gL_plain_L_isClock rfl rfl rfl (by decide +kernel) ⟨(by exact Nat.le_of_ble_eq_true rfl), (by exact Nat.le_of_ble_eq_true rfl)⟩ rfl hl.1 rfl (by exact Nat.le_of_ble_eq_true rfl) dL_plain_231 ⟨(show _ ≤ 95000 by omega), (show _ ≤ 900000 by omega)⟩) S (fun r_231 H locs hr_231 S => ?_)
                  subst hr_231
                  refine lv_istore (lv' := [(8, .int 1), (13, .int (nI zz)), (12, .int (nI wt)), (11, .int (nI yy)), (10, .int (nI xx)), (0, .ref (gb G)), (1, .int (nI t)), (2, .ref q_0), (3, .ref q_9), (4, .ref q_14), (5, .ref q_20), (6, .ref q_26), (7, .ref q_32), (9, .int (nI j))]) X.1 X.2.1 dL_plain_234 hl (by decide) rfl (fun ls hl => ?_)
                  exact J236 stk fk _ _ H locs ls hAe (show LB stk (j + 1) from ⟨h57, Nat.le_succ_of_le hbt, hbA⟩) (by omega) (by omega) S (lv_sub hl [5, 6, 7, 8, 9, 10, 11, 12, 0, 13, 3] rfl)
                · refine lv_aload_n X.1 X.2.1 dL_plain_201 rfl (lv_at hl 6 rfl) ?_
                  refine lv_iload X.1 X.2.1 dL_plain_202 (lv_at hl 0 rfl) ?_
                  refine lv_iload X.1 X.2.1 dL_plain_204 (lv_at hl 2 rfl) ?_
                  refine lv_aload_n X.1 X.2.1 dL_plain_206 rfl (lv_at hl 7 rfl) ?_
                  refine lv_aload X.1 X.2.1 dL_plain_207 (lv_at hl 8 rfl) ?_
                  refine lv_aload X.1 X.2.1 dL_plain_209 (lv_at hl 10 rfl) ?_
                  refine lv_aload X.1 X.2.1 dL_plain_211 (lv_at hl 11 rfl) ?_
                  refine call_i (run_S X S (m_others l hst G fk stk q_0 q_9 q_14 q_20 q_26 q_32 C w D E A hLA j hLB zz yy hzz (by omega)) 7 gL_plain_L_others rfl rfl rfl (by decide +kernel) ⟨(by exact Nat.le_of_ble_eq_true rfl), (by exact Nat.le_of_ble_eq_true rfl)⟩ rfl hl.1 rfl (by exact Nat.le_of_ble_eq_true rfl) dL_plain_213 ⟨(show _ ≤ 95000 by omega), (show _ ≤ 900000 by omega)⟩) S (fun r_213 f_213 H locs hr_213 S => ?_)
                  obtain ⟨rfl, st_213, hA_213, hB_213⟩ := hr_213
                  refine lv_istore (lv' := [(8, .int 1), (13, .int (nI zz)), (12, .int (nI wt)), (11, .int (nI yy)), (10, .int (nI xx)), (0, .ref (gb G)), (1, .int (nI t)), (2, .ref q_0), (3, .ref q_9), (4, .ref q_14), (5, .ref q_20), (6, .ref q_26), (7, .ref q_32), (9, .int (nI j))]) X.1 X.2.1 dL_plain_216 hl (by decide) rfl (fun ls hl => ?_)
                  refine lv_goto (tgt := 236) X.1 X.2.1 dL_plain_218 (by decide) ?_
                  exact J236 st_213 f_213 _ _ H locs ls hA_213 hB_213 (by omega) (by omega) S (lv_sub hl [5, 6, 7, 8, 9, 10, 11, 12, 0, 13, 3] rfl)
              · refine lv_aload_n X.1 X.2.1 dL_plain_176 rfl (lv_at hl 6 rfl) ?_
                refine lv_iload X.1 X.2.1 dL_plain_177 (lv_at hl 0 rfl) ?_
                refine lv_iload X.1 X.2.1 dL_plain_179 (lv_at hl 2 rfl) ?_
                refine lv_aload_n X.1 X.2.1 dL_plain_181 rfl (lv_at hl 7 rfl) ?_
                refine lv_aload X.1 X.2.1 dL_plain_182 (lv_at hl 8 rfl) ?_
                refine lv_aload X.1 X.2.1 dL_plain_184 (lv_at hl 9 rfl) ?_
                refine call_i (run_S X S (m_lessens l hst G fk stk q_0 q_9 q_14 q_20 q_26 q_32 C w D E A hLA j hLB (by omega) zz yy hzz (by omega)) 6 gL_plain_L_lessens rfl rfl rfl (by decide +kernel) ⟨(by exact Nat.le_of_ble_eq_true rfl), (by exact Nat.le_of_ble_eq_true rfl)⟩ rfl hl.1 rfl (by exact Nat.le_of_ble_eq_true rfl) dL_plain_186 ⟨(show _ ≤ 95000 by omega), (show _ ≤ 900000 by omega)⟩) S (fun r_186 f_186 H locs hr_186 S => ?_)
                obtain ⟨rfl, st_186, hA_186, hB_186⟩ := hr_186
                refine lv_istore (lv' := [(8, .int 1), (13, .int (nI zz)), (12, .int (nI wt)), (11, .int (nI yy)), (10, .int (nI xx)), (0, .ref (gb G)), (1, .int (nI t)), (2, .ref q_0), (3, .ref q_9), (4, .ref q_14), (5, .ref q_20), (6, .ref q_26), (7, .ref q_32), (9, .int (nI j))]) X.1 X.2.1 dL_plain_189 hl (by decide) rfl (fun ls hl => ?_)
                refine lv_goto (tgt := 236) X.1 X.2.1 dL_plain_191 (by decide) ?_
                exact J236 st_186 f_186 _ _ H locs ls hA_186 hB_186 (by omega) (by omega) S (lv_sub hl [5, 6, 7, 8, 9, 10, 11, 12, 0, 13, 3] rfl)
            · refine lv_aload_n X.1 X.2.1 dL_plain_150 rfl (lv_at hl 6 rfl) ?_
              refine lv_iconst (v := 1) X.1 X.2.1 dL_plain_151 (by decide) ?_
              refine lv_iload X.1 X.2.1 dL_plain_152 (lv_at hl 2 rfl) ?_
              refine lv_bipush (v := 8) X.1 X.2.1 dL_plain_154 (by decide) ?_
              refine n_rem (a := yy) (b := 8) X dL_plain_156 ?_
              refine n_add (a := 1) (b := yy % 8) X dL_plain_157 ?_
              refine lv_aload_n X.1 X.2.1 dL_plain_158 rfl (lv_at hl 7 rfl) ?_
              refine lv_aload X.1 X.2.1 dL_plain_159 (lv_at hl 8 rfl) ?_
              refine call_i (run_S X S (m_rains l hst G fk stk q_0 q_9 q_14 q_20 q_26 q_32 C w D E A hLA j hLB (by omega) (1 + yy % 8) (by omega) (by omega)) 4 gL_plain_L_rains rfl rfl rfl (by decide +kernel) ⟨(by exact Nat.le_of_ble_eq_true rfl), (by exact Nat.le_of_ble_eq_true rfl)⟩ rfl hl.1 rfl (by exact Nat.le_of_ble_eq_true rfl) dL_plain_161 ⟨(show _ ≤ 95000 by omega), (show _ ≤ 900000 by omega)⟩) S (fun r_161 f_161 H locs hr_161 S => ?_)
              obtain ⟨rfl, st_161, hA_161, hB_161⟩ := hr_161
              refine lv_istore (lv' := [(8, .int 1), (13, .int (nI zz)), (12, .int (nI wt)), (11, .int (nI yy)), (10, .int (nI xx)), (0, .ref (gb G)), (1, .int (nI t)), (2, .ref q_0), (3, .ref q_9), (4, .ref q_14), (5, .ref q_20), (6, .ref q_26), (7, .ref q_32), (9, .int (nI j))]) X.1 X.2.1 dL_plain_164 hl (by decide) rfl (fun ls hl => ?_)
              refine lv_goto (tgt := 236) X.1 X.2.1 dL_plain_166 (by decide) ?_
              exact J236 st_161 f_161 _ _ H locs ls hA_161 hB_161 (by omega) (by omega) S (lv_sub hl [5, 6, 7, 8, 9, 10, 11, 12, 0, 13, 3] rfl)
        · refine lv_aload_n X.1 X.2.1 dL_plain_109 rfl (lv_at hl 7 rfl) ?_
          refine lv_iconst (v := 0) X.1 X.2.1 dL_plain_110 (by decide) ?_
          refine n_iald (i := 0) (v := (nI (stk 0 0))) X S hcc hC0 dL_plain_111 ?_
          refine lv_bipush (v := 50) X.1 X.2.1 dL_plain_112 (by decide) ?_
          refine n_ge (a := stk 0 0) (b := 50) (tgt := 135) X dL_plain_114 (by decide) (fun n_114 => ?_) (fun n_114 => ?_)
          · refine lv_iload X.1 X.2.1 dL_plain_135 (lv_at hl 1 rfl) ?_
            refine lv_bipush (v := 6) X.1 X.2.1 dL_plain_137 (by decide) ?_
            refine n_ne (a := wt) (b := 6) (tgt := 169) X dL_plain_139 (by decide) (fun n_139 => ?_) (fun n_139 => ?_)
            · refine lv_iload X.1 X.2.1 dL_plain_169 (lv_at hl 1 rfl) ?_
              refine lv_bipush (v := 9) X.1 X.2.1 dL_plain_171 (by decide) ?_
              refine n_ge (a := wt) (b := 9) (tgt := 194) X dL_plain_173 (by decide) (fun n_173 => ?_) (fun n_173 => ?_)
              · refine lv_iload X.1 X.2.1 dL_plain_194 (lv_at hl 1 rfl) ?_
                refine lv_bipush (v := 13) X.1 X.2.1 dL_plain_196 (by decide) ?_
                refine n_ge (a := wt) (b := 13) (tgt := 221) X dL_plain_198 (by decide) (fun n_198 => ?_) (fun n_198 => ?_)
                · refine lv_aload_n X.1 X.2.1 dL_plain_221 rfl (lv_at hl 6 rfl) ?_
                  refine lv_iload X.1 X.2.1 dL_plain_222 (lv_at hl 0 rfl) ?_
                  refine lv_iload X.1 X.2.1 dL_plain_224 (lv_at hl 2 rfl) ?_
                  refine lv_aload_n X.1 X.2.1 dL_plain_226 rfl (lv_at hl 7 rfl) ?_
                  refine lv_aload X.1 X.2.1 dL_plain_227 (lv_at hl 10 rfl) ?_
                  refine lv_aload X.1 X.2.1 dL_plain_229 (lv_at hl 11 rfl) ?_
                  refine call_iq (run_S X S (m_isClock l hst G fk stk q_0 hI hR0 q_9 q_26 q_32 C E A hcc hee haa hC0 hC3 hC4 hE hA h57 zz yy hzz (by omega)) 6 gL_plain_L_isClock rfl rfl rfl (by decide +kernel) ⟨(by exact Nat.le_of_ble_eq_true rfl), (by exact Nat.le_of_ble_eq_true rfl)⟩ rfl hl.1 rfl (by exact Nat.le_of_ble_eq_true rfl) dL_plain_231 ⟨(show _ ≤ 95000 by omega), (show _ ≤ 900000 by omega)⟩) S (fun r_231 H locs hr_231 S => ?_)
                  subst hr_231
                  refine lv_istore (lv' := [(8, .int 1), (13, .int (nI zz)), (12, .int (nI wt)), (11, .int (nI yy)), (10, .int (nI xx)), (0, .ref (gb G)), (1, .int (nI t)), (2, .ref q_0), (3, .ref q_9), (4, .ref q_14), (5, .ref q_20), (6, .ref q_26), (7, .ref q_32), (9, .int (nI j))]) X.1 X.2.1 dL_plain_234 hl (by decide) rfl (fun ls hl => ?_)
                  exact J236 stk fk _ _ H locs ls hAe (show LB stk (j + 1) from ⟨h57, Nat.le_succ_of_le hbt, hbA⟩) (by omega) (by omega) S (lv_sub hl [5, 6, 7, 8, 9, 10, 11, 12, 0, 13, 3] rfl)
                · refine lv_aload_n X.1 X.2.1 dL_plain_201 rfl (lv_at hl 6 rfl) ?_
                  refine lv_iload X.1 X.2.1 dL_plain_202 (lv_at hl 0 rfl) ?_
                  refine lv_iload X.1 X.2.1 dL_plain_204 (lv_at hl 2 rfl) ?_
                  refine lv_aload_n X.1 X.2.1 dL_plain_206 rfl (lv_at hl 7 rfl) ?_
                  refine lv_aload X.1 X.2.1 dL_plain_207 (lv_at hl 8 rfl) ?_
                  refine lv_aload X.1 X.2.1 dL_plain_209 (lv_at hl 10 rfl) ?_
                  refine lv_aload X.1 X.2.1 dL_plain_211 (lv_at hl 11 rfl) ?_
                  refine call_i (run_S X S (m_others l hst G fk stk q_0 q_9 q_14 q_20 q_26 q_32 C w D E A hLA j hLB zz yy hzz (by omega)) 7 gL_plain_L_others rfl rfl rfl (by decide +kernel) ⟨(by exact Nat.le_of_ble_eq_true rfl), (by exact Nat.le_of_ble_eq_true rfl)⟩ rfl hl.1 rfl (by exact Nat.le_of_ble_eq_true rfl) dL_plain_213 ⟨(show _ ≤ 95000 by omega), (show _ ≤ 900000 by omega)⟩) S (fun r_213 f_213 H locs hr_213 S => ?_)
                  obtain ⟨rfl, st_213, hA_213, hB_213⟩ := hr_213
                  refine lv_istore (lv' := [(8, .int 1), (13, .int (nI zz)), (12, .int (nI wt)), (11, .int (nI yy)), (10, .int (nI xx)), (0, .ref (gb G)), (1, .int (nI t)), (2, .ref q_0), (3, .ref q_9), (4, .ref q_14), (5, .ref q_20), (6, .ref q_26), (7, .ref q_32), (9, .int (nI j))]) X.1 X.2.1 dL_plain_216 hl (by decide) rfl (fun ls hl => ?_)
                  refine lv_goto (tgt := 236) X.1 X.2.1 dL_plain_218 (by decide) ?_
                  exact J236 st_213 f_213 _ _ H locs ls hA_213 hB_213 (by omega) (by omega) S (lv_sub hl [5, 6, 7, 8, 9, 10, 11, 12, 0, 13, 3] rfl)
              · refine lv_aload_n X.1 X.2.1 dL_plain_176 rfl (lv_at hl 6 rfl) ?_
                refine lv_iload X.1 X.2.1 dL_plain_177 (lv_at hl 0 rfl) ?_
                refine lv_iload X.1 X.2.1 dL_plain_179 (lv_at hl 2 rfl) ?_
                refine lv_aload_n X.1 X.2.1 dL_plain_181 rfl (lv_at hl 7 rfl) ?_
                refine lv_aload X.1 X.2.1 dL_plain_182 (lv_at hl 8 rfl) ?_
                refine lv_aload X.1 X.2.1 dL_plain_184 (lv_at hl 9 rfl) ?_
                refine call_i (run_S X S (m_lessens l hst G fk stk q_0 q_9 q_14 q_20 q_26 q_32 C w D E A hLA j hLB (by omega) zz yy hzz (by omega)) 6 gL_plain_L_lessens rfl rfl rfl (by decide +kernel) ⟨(by exact Nat.le_of_ble_eq_true rfl), (by exact Nat.le_of_ble_eq_true rfl)⟩ rfl hl.1 rfl (by exact Nat.le_of_ble_eq_true rfl) dL_plain_186 ⟨(show _ ≤ 95000 by omega), (show _ ≤ 900000 by omega)⟩) S (fun r_186 f_186 H locs hr_186 S => ?_)
                obtain ⟨rfl, st_186, hA_186, hB_186⟩ := hr_186
                refine lv_istore (lv' := [(8, .int 1), (13, .int (nI zz)), (12, .int (nI wt)), (11, .int (nI yy)), (10, .int (nI xx)), (0, .ref (gb G)), (1, .int (nI t)), (2, .ref q_0), (3, .ref q_9), (4, .ref q_14), (5, .ref q_20), (6, .ref q_26), (7, .ref q_32), (9, .int (nI j))]) X.1 X.2.1 dL_plain_189 hl (by decide) rfl (fun ls hl => ?_)
                refine lv_goto (tgt := 236) X.1 X.2.1 dL_plain_191 (by decide) ?_
                exact J236 st_186 f_186 _ _ H locs ls hA_186 hB_186 (by omega) (by omega) S (lv_sub hl [5, 6, 7, 8, 9, 10, 11, 12, 0, 13, 3] rfl)
            · refine lv_aload_n X.1 X.2.1 dL_plain_142 rfl (lv_at hl 7 rfl) ?_
              refine lv_iconst (v := 0) X.1 X.2.1 dL_plain_143 (by decide) ?_
              refine n_iald (i := 0) (v := (nI (stk 0 0))) X S hcc hC0 dL_plain_144 ?_
              refine lv_bipush (v := 50) X.1 X.2.1 dL_plain_145 (by decide) ?_
              refine n_ge (a := stk 0 0) (b := 50) (tgt := 169) X dL_plain_147 (by decide) (fun n_147 => ?_) (fun n_147 => ?_)
              · refine lv_iload X.1 X.2.1 dL_plain_169 (lv_at hl 1 rfl) ?_
                refine lv_bipush (v := 9) X.1 X.2.1 dL_plain_171 (by decide) ?_
                refine n_ge (a := wt) (b := 9) (tgt := 194) X dL_plain_173 (by decide) (fun n_173 => ?_) (fun n_173 => ?_)
                · refine lv_iload X.1 X.2.1 dL_plain_194 (lv_at hl 1 rfl) ?_
                  refine lv_bipush (v := 13) X.1 X.2.1 dL_plain_196 (by decide) ?_
                  refine n_ge (a := wt) (b := 13) (tgt := 221) X dL_plain_198 (by decide) (fun n_198 => ?_) (fun n_198 => ?_)
                  · refine lv_aload_n X.1 X.2.1 dL_plain_221 rfl (lv_at hl 6 rfl) ?_
                    refine lv_iload X.1 X.2.1 dL_plain_222 (lv_at hl 0 rfl) ?_
                    refine lv_iload X.1 X.2.1 dL_plain_224 (lv_at hl 2 rfl) ?_
                    refine lv_aload_n X.1 X.2.1 dL_plain_226 rfl (lv_at hl 7 rfl) ?_
                    refine lv_aload X.1 X.2.1 dL_plain_227 (lv_at hl 10 rfl) ?_
                    refine lv_aload X.1 X.2.1 dL_plain_229 (lv_at hl 11 rfl) ?_
                    refine call_iq (run_S X S (m_isClock l hst G fk stk q_0 hI hR0 q_9 q_26 q_32 C E A hcc hee haa hC0 hC3 hC4 hE hA h57 zz yy hzz (by omega)) 6 gL_plain_L_isClock rfl rfl rfl (by decide +kernel) ⟨(by exact Nat.le_of_ble_eq_true rfl), (by exact Nat.le_of_ble_eq_true rfl)⟩ rfl hl.1 rfl (by exact Nat.le_of_ble_eq_true rfl) dL_plain_231 ⟨(show _ ≤ 95000 by omega), (show _ ≤ 900000 by omega)⟩) S (fun r_231 H locs hr_231 S => ?_)
                    subst hr_231
                    refine lv_istore (lv' := [(8, .int 1), (13, .int (nI zz)), (12, .int (nI wt)), (11, .int (nI yy)), (10, .int (nI xx)), (0, .ref (gb G)), (1, .int (nI t)), (2, .ref q_0), (3, .ref q_9), (4, .ref q_14), (5, .ref q_20), (6, .ref q_26), (7, .ref q_32), (9, .int (nI j))]) X.1 X.2.1 dL_plain_234 hl (by decide) rfl (fun ls hl => ?_)
                    exact J236 stk fk _ _ H locs ls hAe (show LB stk (j + 1) from ⟨h57, Nat.le_succ_of_le hbt, hbA⟩) (by omega) (by omega) S (lv_sub hl [5, 6, 7, 8, 9, 10, 11, 12, 0, 13, 3] rfl)
                  · refine lv_aload_n X.1 X.2.1 dL_plain_201 rfl (lv_at hl 6 rfl) ?_
                    refine lv_iload X.1 X.2.1 dL_plain_202 (lv_at hl 0 rfl) ?_
                    refine lv_iload X.1 X.2.1 dL_plain_204 (lv_at hl 2 rfl) ?_
                    refine lv_aload_n X.1 X.2.1 dL_plain_206 rfl (lv_at hl 7 rfl) ?_
                    refine lv_aload X.1 X.2.1 dL_plain_207 (lv_at hl 8 rfl) ?_
                    refine lv_aload X.1 X.2.1 dL_plain_209 (lv_at hl 10 rfl) ?_
                    refine lv_aload X.1 X.2.1 dL_plain_211 (lv_at hl 11 rfl) ?_
                    refine call_i (run_S X S (m_others l hst G fk stk q_0 q_9 q_14 q_20 q_26 q_32 C w D E A hLA j hLB zz yy hzz (by omega)) 7 gL_plain_L_others rfl rfl rfl (by decide +kernel) ⟨(by exact Nat.le_of_ble_eq_true rfl), (by exact Nat.le_of_ble_eq_true rfl)⟩ rfl hl.1 rfl (by exact Nat.le_of_ble_eq_true rfl) dL_plain_213 ⟨(show _ ≤ 95000 by omega), (show _ ≤ 900000 by omega)⟩) S (fun r_213 f_213 H locs hr_213 S => ?_)
                    obtain ⟨rfl, st_213, hA_213, hB_213⟩ := hr_213
                    refine lv_istore (lv' := [(8, .int 1), (13, .int (nI zz)), (12, .int (nI wt)), (11, .int (nI yy)), (10, .int (nI xx)), (0, .ref (gb G)), (1, .int (nI t)), (2, .ref q_0), (3, .ref q_9), (4, .ref q_14), (5, .ref q_20), (6, .ref q_26), (7, .ref q_32), (9, .int (nI j))]) X.1 X.2.1 dL_plain_216 hl (by decide) rfl (fun ls hl => ?_)
                    refine lv_goto (tgt := 236) X.1 X.2.1 dL_plain_218 (by decide) ?_
                    exact J236 st_213 f_213 _ _ H locs ls hA_213 hB_213 (by omega) (by omega) S (lv_sub hl [5, 6, 7, 8, 9, 10, 11, 12, 0, 13, 3] rfl)
                · refine lv_aload_n X.1 X.2.1 dL_plain_176 rfl (lv_at hl 6 rfl) ?_
                  refine lv_iload X.1 X.2.1 dL_plain_177 (lv_at hl 0 rfl) ?_
                  refine lv_iload X.1 X.2.1 dL_plain_179 (lv_at hl 2 rfl) ?_
                  refine lv_aload_n X.1 X.2.1 dL_plain_181 rfl (lv_at hl 7 rfl) ?_
                  refine lv_aload X.1 X.2.1 dL_plain_182 (lv_at hl 8 rfl) ?_
                  refine lv_aload X.1 X.2.1 dL_plain_184 (lv_at hl 9 rfl) ?_
                  refine call_i (run_S X S (m_lessens l hst G fk stk q_0 q_9 q_14 q_20 q_26 q_32 C w D E A hLA j hLB (by omega) zz yy hzz (by omega)) 6 gL_plain_L_lessens rfl rfl rfl (by decide +kernel) ⟨(by exact Nat.le_of_ble_eq_true rfl), (by exact Nat.le_of_ble_eq_true rfl)⟩ rfl hl.1 rfl (by exact Nat.le_of_ble_eq_true rfl) dL_plain_186 ⟨(show _ ≤ 95000 by omega), (show _ ≤ 900000 by omega)⟩) S (fun r_186 f_186 H locs hr_186 S => ?_)
                  obtain ⟨rfl, st_186, hA_186, hB_186⟩ := hr_186
                  refine lv_istore (lv' := [(8, .int 1), (13, .int (nI zz)), (12, .int (nI wt)), (11, .int (nI yy)), (10, .int (nI xx)), (0, .ref (gb G)), (1, .int (nI t)), (2, .ref q_0), (3, .ref q_9), (4, .ref q_14), (5, .ref q_20), (6, .ref q_26), (7, .ref q_32), (9, .int (nI j))]) X.1 X.2.1 dL_plain_189 hl (by decide) rfl (fun ls hl => ?_)
                  refine lv_goto (tgt := 236) X.1 X.2.1 dL_plain_191 (by decide) ?_
                  exact J236 st_186 f_186 _ _ H locs ls hA_186 hB_186 (by omega) (by omega) S (lv_sub hl [5, 6, 7, 8, 9, 10, 11, 12, 0, 13, 3] rfl)
              · refine lv_aload_n X.1 X.2.1 dL_plain_150 rfl (lv_at hl 6 rfl) ?_
                refine lv_iconst (v := 1) X.1 X.2.1 dL_plain_151 (by decide) ?_
                refine lv_iload X.1 X.2.1 dL_plain_152 (lv_at hl 2 rfl) ?_
                refine lv_bipush (v := 8) X.1 X.2.1 dL_plain_154 (by decide) ?_
                refine n_rem (a := yy) (b := 8) X dL_plain_156 ?_
                refine n_add (a := 1) (b := yy % 8) X dL_plain_157 ?_
                refine lv_aload_n X.1 X.2.1 dL_plain_158 rfl (lv_at hl 7 rfl) ?_
                refine lv_aload X.1 X.2.1 dL_plain_159 (lv_at hl 8 rfl) ?_
                refine call_i (run_S X S (m_rains l hst G fk stk q_0 q_9 q_14 q_20 q_26 q_32 C w D E A hLA j hLB (by omega) (1 + yy % 8) (by omega) (by omega)) 4 gL_plain_L_rains rfl rfl rfl (by decide +kernel) ⟨(by exact Nat.le_of_ble_eq_true rfl), (by exact Nat.le_of_ble_eq_true rfl)⟩ rfl hl.1 rfl (by exact Nat.le_of_ble_eq_true rfl) dL_plain_161 ⟨(show _ ≤ 95000 by omega), (show _ ≤ 900000 by omega)⟩) S (fun r_161 f_161 H locs hr_161 S => ?_)
                obtain ⟨rfl, st_161, hA_161, hB_161⟩ := hr_161
                refine lv_istore (lv' := [(8, .int 1), (13, .int (nI zz)), (12, .int (nI wt)), (11, .int (nI yy)), (10, .int (nI xx)), (0, .ref (gb G)), (1, .int (nI t)), (2, .ref q_0), (3, .ref q_9), (4, .ref q_14), (5, .ref q_20), (6, .ref q_26), (7, .ref q_32), (9, .int (nI j))]) X.1 X.2.1 dL_plain_164 hl (by decide) rfl (fun ls hl => ?_)
                refine lv_goto (tgt := 236) X.1 X.2.1 dL_plain_166 (by decide) ?_
                exact J236 st_161 f_161 _ _ H locs ls hA_161 hB_161 (by omega) (by omega) S (lv_sub hl [5, 6, 7, 8, 9, 10, 11, 12, 0, 13, 3] rfl)
          · refine lv_aload_n X.1 X.2.1 dL_plain_117 rfl (lv_at hl 6 rfl) ?_
            refine lv_iload X.1 X.2.1 dL_plain_118 (lv_at hl 0 rfl) ?_
            refine lv_iload X.1 X.2.1 dL_plain_120 (lv_at hl 2 rfl) ?_
            refine lv_aload_n X.1 X.2.1 dL_plain_122 rfl (lv_at hl 7 rfl) ?_
            refine lv_aload X.1 X.2.1 dL_plain_123 (lv_at hl 8 rfl) ?_
            refine lv_aload X.1 X.2.1 dL_plain_125 (lv_at hl 9 rfl) ?_
            refine call_i (run_S X S (m_stones l hst G fk stk q_0 q_9 q_14 q_20 q_26 q_32 C w D E A hLA j hLB (by omega) zz yy hzz (by omega)) 6 gL_plain_L_stones rfl rfl rfl (by decide +kernel) ⟨(by exact Nat.le_of_ble_eq_true rfl), (by exact Nat.le_of_ble_eq_true rfl)⟩ rfl hl.1 rfl (by exact Nat.le_of_ble_eq_true rfl) dL_plain_127 ⟨(show _ ≤ 95000 by omega), (show _ ≤ 900000 by omega)⟩) S (fun r_127 f_127 H locs hr_127 S => ?_)
            obtain ⟨rfl, st_127, hA_127, hB_127⟩ := hr_127
            refine lv_istore (lv' := [(8, .int 1), (13, .int (nI zz)), (12, .int (nI wt)), (11, .int (nI yy)), (10, .int (nI xx)), (0, .ref (gb G)), (1, .int (nI t)), (2, .ref q_0), (3, .ref q_9), (4, .ref q_14), (5, .ref q_20), (6, .ref q_26), (7, .ref q_32), (9, .int (nI j))]) X.1 X.2.1 dL_plain_130 hl (by decide) rfl (fun ls hl => ?_)
            refine lv_goto (tgt := 236) X.1 X.2.1 dL_plain_132 (by decide) ?_
            exact J236 st_127 f_127 _ _ H locs ls hA_127 hB_127 (by omega) (by omega) S (lv_sub hl [5, 6, 7, 8, 9, 10, 11, 12, 0, 13, 3] rfl)
  exact loop 61 0 st0 f_42 _ _ H locs ls (by omega) (by omega) hA0 hB0 (by exact Nat.le_of_ble_eq_true rfl) (by exact Nat.le_of_ble_eq_true rfl) S (lv_sub hl [8, 9, 7, 6, 5, 4, 3, 2, 1, 0] rfl)
