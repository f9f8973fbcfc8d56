/-! the law: its small methods -/
theorem RX.obj {G : cx_G} {f : Wd} {st : St} {x : Nat} (h : RX G f st x) : ∃ (t : Nat) (fs : List Value), f x = some (t, .inr (9, fs)) := by
  obtain ⟨gr, rw1, L1, L2, L3, cu, L4, g1, g2, g3, g4, w, h⟩ := h
  exact ⟨_, _, h.1⟩
theorem k3_ne1 {A B C : Prop} (a : A) : ¬ k3 A B C = 1 := fun h => by
  unfold k3 at h
  rw [if_pos a] at h
  split at h
  · split at h <;> cases h
  · cases h
theorem k3_ne2 {A B C : Prop} (a : A) (b : B) : ¬ k3 A B C = 2 := fun h => by
  unfold k3 at h
  rw [if_pos a, if_pos b] at h
  split at h <;> cases h
set_option maxRecDepth 100000 in
set_option maxHeartbeats 4000000 in
/-- asks: a_about -/
theorem a_about (l : Launch) (hst : l.stackTraces = false) (G : cx_G) (f : Wd) (st : St) (x : Nat) (hI : sInv st) (hR0 : RX G f st x) : XL l G yL_asks wsL_asks 9 240 2 12 [.ref x, .int 1, .int (nI (st 0 0)), .int 0, .int 0, .int 0, .int 0] f (fun r f' => r = (-70007) ∧ f' = f) (fun _ => False) := by
  refine vxh_body (cc := cL_asks) (n := 8) (ret := (some .long)) (by decide +kernel) rfl (Nat.le_of_ble_eq_true rfl) ?_
  intro p0 e0 s0 m0 b0 meth0 c0 ls X hr hnm hout S hl
  have X : cxC G p0 l _ c0 cL_asks 8 m0 meth0 s0 _ RL wsL_asks := X
  have hl : lv_has ls 8 [(0, .ref x), (1, .int 1), (2, .int (nI (st 0 0))), (3, .int 0), (4, .int 0), (5, .int 0), (6, .int 0)] := hl
  have h200 := sInv_le hI
  have hkz : (k2 (inI (nI (st 0 0)) 0 ((st 0 0 : Int) - 1)) (inI 0 0 3)) = 1 := k2_1 (fun z => by have := z.2; rw [i_n (by omega)] at this; omega)
  refine lv_iload_n X.1 X.2.1 dL_asks_0 rfl (lv_at hl 1 rfl) ?_
  refine lv_if_ne (x := 1) (tgt := 19) X.1 X.2.1 dL_asks_1 (by decide) (fun c_1 => ?_) (fun c_1 => by first | exact absurd c_1 (by decide) | exact absurd (by decide) c_1)
  refine lv_iload_n X.1 X.2.1 dL_asks_19 rfl (lv_at hl 1 rfl) ?_
  refine lv_iconst (v := 1) X.1 X.2.1 dL_asks_20 (by decide) ?_
  refine n_ne (a := 1) (b := 1) (tgt := 34) X dL_asks_21 (by decide) (fun n_21 => by first | exact absurd n_21 (by decide) | exact absurd (by decide) n_21) (fun n_21 => ?_)
  refine lv_aload_n X.1 X.2.1 dL_asks_24 rfl (lv_at hl 0 rfl) ?_
  refine lv_iload_n X.1 X.2.1 dL_asks_25 rfl (lv_at hl 2 rfl) ?_
  refine lv_iload_n X.1 X.2.1 dL_asks_26 rfl (lv_at hl 3 rfl) ?_
  refine xcall_it (xrun_V X S (q_about l hst G f st x hI hR0 (nI (st 0 0)) 0) 2 gL_asks_X9_about rfl rfl rfl (by decide +kernel) ⟨(by exact Nat.le_of_ble_eq_true rfl), (by exact Nat.le_of_ble_eq_true rfl)⟩ (RX.obj hR0) rfl rfl rfl hl.1 rfl (by exact Nat.le_of_ble_eq_true rfl) dL_asks_27 ⟨(by exact Nat.le_of_ble_eq_true rfl), (by exact Nat.le_of_ble_eq_true rfl)⟩) S (fun E H locs qx ce hE S hce hcv hcl => ?_) (fun r_27 f_27 H locs hr_27 S => ?_)
  · obtain ⟨i, hi, hkc⟩ := hE
    rcases i with _ | _ | i
    · obtain rfl := Option.some.inj (show some "java/lang/IndexOutOfBoundsException" = some E from hi)
      have hkc : (k2 (inI (nI (st 0 0)) 0 ((st 0 0 : Int) - 1)) (inI 0 0 3)) = 1 := hkc
      refine r_catch X hout [] ⟨0, 75, 76, 31⟩ [⟨0, 75, 82, 35⟩, ⟨0, 75, 88, 39⟩] rfl (fun z hz => nomatch hz) rfl (by decide) (by decide +kernel) (by decide +kernel) (pc2 := 76) rfl hce hcv hcl ?_
      refine lv_astore (lv' := [(7, .ref qx), (0, .ref x), (1, .int 1), (2, .int (nI (st 0 0))), (3, .int 0), (4, .int 0), (5, .int 0), (6, .int 0)]) X.1 X.2.1 dL_asks_76 hl (by decide) rfl (fun ls hl => ?_)
      refine r_ldc2 (v := (-70007)) X (by decide +kernel) dL_asks_78 ?_
      refine vx_ret (e_l X hr S (Nat.le_of_ble_eq_true rfl) (Nat.le_of_ble_eq_true rfl) dL_asks_81 ?_)
      exact ⟨rfl, rfl⟩
    · exact absurd hkc (by rw [hkz]; decide)
    · exact nomatch (show (none : Option String) = some E from hi)
  · exact absurd hr_27.1 (by rw [hkz]; decide)

set_option maxRecDepth 100000 in
set_option maxHeartbeats 4000000 in
/-- asks: a_age0 -/
theorem a_age0 (l : Launch) (hst : l.stackTraces = false) (G : cx_G) (f : Wd) (st : St) (x : Nat) (hI : sInv st) (hR0 : RX G f st x) (h0 : st 0 2 = 0) : XL l G yL_asks wsL_asks 9 240 6 34 [.ref x, .int 0, .int 0, .int 0, .int 0, .int 0, .int 0] f (fun r f' => r = (-70007) ∧ f' = f) (fun _ => False) := by
  refine vxh_body (cc := cL_asks) (n := 8) (ret := (some .long)) (by decide +kernel) rfl (Nat.le_of_ble_eq_true rfl) ?_
  intro p0 e0 s0 m0 b0 meth0 c0 ls X hr hnm hout S hl
  have X : cxC G p0 l _ c0 cL_asks 8 m0 meth0 s0 _ RL wsL_asks := X
  have hl : lv_has ls 8 [(0, .ref x), (1, .int 0), (2, .int 0), (3, .int 0), (4, .int 0), (5, .int 0), (6, .int 0)] := hl
  have hkz : (k3 (eyeP st 0 0 0 0 0) (ordP 0 0 0 0) (lackN st (densN st (nN 0) (nN 0) (nN 0) (nN 0) (nN 0)) = 0)) = 1 := k3_1 (fun z => by have := z.1.2; rw [h0] at this; revert this; decide)
  refine lv_iload_n X.1 X.2.1 dL_asks_0 rfl (lv_at hl 1 rfl) ?_
  refine lv_if_ne (x := 0) (tgt := 19) X.1 X.2.1 dL_asks_1 (by decide) (fun c_1 => by first | exact absurd c_1 (by decide) | exact absurd (by decide) c_1) (fun c_1 => ?_)
  refine lv_aload_n X.1 X.2.1 dL_asks_4 rfl (lv_at hl 0 rfl) ?_
  refine lv_iload_n X.1 X.2.1 dL_asks_5 rfl (lv_at hl 2 rfl) ?_
  refine lv_iload_n X.1 X.2.1 dL_asks_6 rfl (lv_at hl 3 rfl) ?_
  refine lv_iload X.1 X.2.1 dL_asks_7 (lv_at hl 4 rfl) ?_
  refine lv_iload X.1 X.2.1 dL_asks_9 (lv_at hl 5 rfl) ?_
  refine lv_iload X.1 X.2.1 dL_asks_11 (lv_at hl 6 rfl) ?_
  refine xcall_lt (xrun_V X S (q_age l hst G f st x hI hR0 0 0 0 0 0) 5 gL_asks_X9_age rfl rfl rfl (by decide +kernel) ⟨(by exact Nat.le_of_ble_eq_true rfl), (by exact Nat.le_of_ble_eq_true rfl)⟩ (RX.obj hR0) rfl rfl rfl hl.1 rfl (by exact Nat.le_of_ble_eq_true rfl) dL_asks_13 ⟨(by exact Nat.le_of_ble_eq_true rfl), (by exact Nat.le_of_ble_eq_true rfl)⟩) S (fun E H locs qx ce hE S hce hcv hcl => ?_) (fun r_13 f_13 H locs hr_13 S => ?_)
  · obtain ⟨i, hi, hkc⟩ := hE
    rcases i with _ | _ | _ | i
    · obtain rfl := Option.some.inj (show some "java/lang/IndexOutOfBoundsException" = some E from hi)
      have hkc : (k3 (eyeP st 0 0 0 0 0) (ordP 0 0 0 0) (lackN st (densN st (nN 0) (nN 0) (nN 0) (nN 0) (nN 0)) = 0)) = 1 := hkc
      refine r_catch X hout [] ⟨0, 75, 76, 31⟩ [⟨0, 75, 82, 35⟩, ⟨0, 75, 88, 39⟩] rfl (fun z hz => nomatch hz) rfl (by decide) (by decide +kernel) (by decide +kernel) (pc2 := 76) rfl hce hcv hcl ?_
      refine lv_astore (lv' := [(7, .ref qx), (0, .ref x), (1, .int 0), (2, .int 0), (3, .int 0), (4, .int 0), (5, .int 0), (6, .int 0)]) X.1 X.2.1 dL_asks_76 hl (by decide) rfl (fun ls hl => ?_)
      refine r_ldc2 (v := (-70007)) X (by decide +kernel) dL_asks_78 ?_
      refine vx_ret (e_l X hr S (Nat.le_of_ble_eq_true rfl) (Nat.le_of_ble_eq_true rfl) dL_asks_81 ?_)
      exact ⟨rfl, rfl⟩
    · exact absurd hkc (by rw [hkz]; decide)
    · exact absurd hkc (by rw [hkz]; decide)
    · exact nomatch (show (none : Option String) = some E from hi)
  · exact absurd hr_13.1 (by rw [hkz]; decide)

set_option maxRecDepth 100000 in
set_option maxHeartbeats 4000000 in
/-- asks: a_age -/
theorem a_age (l : Launch) (hst : l.stackTraces = false) (G : cx_G) (f : Wd) (st : St) (x : Nat) (hI : sInv st) (hR0 : RX G f st x) (c x0 y0 tx ty : Nat) (hc : c < st 0 2) (hx : x0 ≤ tx) (hy : y0 ≤ ty) (h1 : tx < 16) (h2 : ty < 16) : XL l G yL_asks wsL_asks 9 240 6 34 [.ref x, .int 0, .int (nI c), .int (nI x0), .int (nI y0), .int (nI tx), .int (nI ty)] f (fun r f' => (lackN st (densN st c x0 y0 tx ty) = 0 → ageR st (densN st c x0 y0 tx ty) r) ∧ (lackN st (densN st c x0 y0 tx ty) ≠ 0 → r = (-70008)) ∧ f' = f) (fun _ => False) := by
  refine vxh_body (cc := cL_asks) (n := 8) (ret := (some .long)) (by decide +kernel) rfl (Nat.le_of_ble_eq_true rfl) ?_
  intro p0 e0 s0 m0 b0 meth0 c0 ls X hr hnm hout S hl
  have X : cxC G p0 l _ c0 cL_asks 8 m0 meth0 s0 _ RL wsL_asks := X
  have hl : lv_has ls 8 [(0, .ref x), (1, .int 0), (2, .int (nI c)), (3, .int (nI x0)), (4, .int (nI y0)), (5, .int (nI tx)), (6, .int (nI ty))] := hl
  have h6 := hI.1.2.2.1
  have hqa := q_age l hst G f st x hI hR0 (nI c) (nI x0) (nI y0) (nI tx) (nI ty)
  rw [nN_nI (by omega), nN_nI (by omega), nN_nI (by omega), nN_nI (by omega), nN_nI (by omega)] at hqa
  have hke : eyeP st (nI c) (nI x0) (nI y0) (nI tx) (nI ty) := ⟨inI_n (by omega) (by omega) (by omega), cell_n (by omega) (by omega), cell_n (by omega) (by omega)⟩
  have hko := ord_n hx hy h1 h2
  refine lv_iload_n X.1 X.2.1 dL_asks_0 rfl (lv_at hl 1 rfl) ?_
  refine lv_if_ne (x := 0) (tgt := 19) X.1 X.2.1 dL_asks_1 (by decide) (fun c_1 => by first | exact absurd c_1 (by decide) | exact absurd (by decide) c_1) (fun c_1 => ?_)
  refine lv_aload_n X.1 X.2.1 dL_asks_4 rfl (lv_at hl 0 rfl) ?_
  refine lv_iload_n X.1 X.2.1 dL_asks_5 rfl (lv_at hl 2 rfl) ?_
  refine lv_iload_n X.1 X.2.1 dL_asks_6 rfl (lv_at hl 3 rfl) ?_
  refine lv_iload X.1 X.2.1 dL_asks_7 (lv_at hl 4 rfl) ?_
  refine lv_iload X.1 X.2.1 dL_asks_9 (lv_at hl 5 rfl) ?_
  refine lv_iload X.1 X.2.1 dL_asks_11 (lv_at hl 6 rfl) ?_
  refine xcall_lt (xrun_V X S (hqa) 5 gL_asks_X9_age rfl rfl rfl (by decide +kernel) ⟨(by exact Nat.le_of_ble_eq_true rfl), (by exact Nat.le_of_ble_eq_true rfl)⟩ (RX.obj hR0) rfl rfl rfl hl.1 rfl (by exact Nat.le_of_ble_eq_true rfl) dL_asks_13 ⟨(by exact Nat.le_of_ble_eq_true rfl), (by exact Nat.le_of_ble_eq_true rfl)⟩) S (fun E H locs qx ce hE S hce hcv hcl => ?_) (fun r_13 f_13 H locs hr_13 S => ?_)
  · obtain ⟨i, hi, hkc⟩ := hE
    rcases i with _ | _ | _ | i
    · obtain rfl := Option.some.inj (show some "java/lang/IndexOutOfBoundsException" = some E from hi)
      have hkc : (k3 (eyeP st (nI c) (nI x0) (nI y0) (nI tx) (nI ty)) (ordP (nI x0) (nI y0) (nI tx) (nI ty)) (lackN st (densN st c x0 y0 tx ty) = 0)) = 1 := hkc
      refine r_catch X hout [] ⟨0, 75, 76, 31⟩ [⟨0, 75, 82, 35⟩, ⟨0, 75, 88, 39⟩] rfl (fun z hz => nomatch hz) rfl (by decide) (by decide +kernel) (by decide +kernel) (pc2 := 76) rfl hce hcv hcl ?_
      refine lv_astore (lv' := [(7, .ref qx), (0, .ref x), (1, .int 0), (2, .int (nI c)), (3, .int (nI x0)), (4, .int (nI y0)), (5, .int (nI tx)), (6, .int (nI ty))]) X.1 X.2.1 dL_asks_76 hl (by decide) rfl (fun ls hl => ?_)
      refine r_ldc2 (v := (-70007)) X (by decide +kernel) dL_asks_78 ?_
      refine vx_ret (e_l X hr S (Nat.le_of_ble_eq_true rfl) (Nat.le_of_ble_eq_true rfl) dL_asks_81 ?_)
      exact absurd hkc (fun z => by have := (k3_ne1 hke) z; exact this)
    · obtain rfl := Option.some.inj (show some "java/lang/IllegalArgumentException" = some E from hi)
      have hkc : (k3 (eyeP st (nI c) (nI x0) (nI y0) (nI tx) (nI ty)) (ordP (nI x0) (nI y0) (nI tx) (nI ty)) (lackN st (densN st c x0 y0 tx ty) = 0)) = 2 := hkc
      refine r_catch X hout [⟨0, 75, 76, 31⟩] ⟨0, 75, 82, 35⟩ [⟨0, 75, 88, 39⟩] rfl (fun z hz => by rcases List.mem_cons.mp hz with rfl | hz; exact ⟨by decide, "java/lang/IndexOutOfBoundsException", by decide +kernel, by decide +kernel⟩; exact nomatch hz) rfl (by decide) (by decide +kernel) (by decide +kernel) (pc2 := 82) rfl hce hcv hcl ?_
      refine lv_astore (lv' := [(7, .ref qx), (0, .ref x), (1, .int 0), (2, .int (nI c)), (3, .int (nI x0)), (4, .int (nI y0)), (5, .int (nI tx)), (6, .int (nI ty))]) X.1 X.2.1 dL_asks_82 hl (by decide) rfl (fun ls hl => ?_)
      refine r_ldc2 (v := (-70009)) X (by decide +kernel) dL_asks_84 ?_
      refine vx_ret (e_l X hr S (Nat.le_of_ble_eq_true rfl) (Nat.le_of_ble_eq_true rfl) dL_asks_87 ?_)
      exact absurd hkc (fun z => (k3_ne2 hke hko) z)
    · obtain rfl := Option.some.inj (show some "java/lang/IllegalStateException" = some E from hi)
      have hkc : (k3 (eyeP st (nI c) (nI x0) (nI y0) (nI tx) (nI ty)) (ordP (nI x0) (nI y0) (nI tx) (nI ty)) (lackN st (densN st c x0 y0 tx ty) = 0)) = 3 := hkc
      refine r_catch X hout [⟨0, 75, 76, 31⟩, ⟨0, 75, 82, 35⟩] ⟨0, 75, 88, 39⟩ [] rfl (fun z hz => by rcases List.mem_cons.mp hz with rfl | hz; exact ⟨by decide, "java/lang/IndexOutOfBoundsException", by decide +kernel, by decide +kernel⟩; rcases List.mem_cons.mp hz with rfl | hz; exact ⟨by decide, "java/lang/IllegalArgumentException", by decide +kernel, by decide +kernel⟩; exact nomatch hz) rfl (by decide) (by decide +kernel) (by decide +kernel) (pc2 := 88) rfl hce hcv hcl ?_
      refine lv_astore (lv' := [(7, .ref qx), (0, .ref x), (1, .int 0), (2, .int (nI c)), (3, .int (nI x0)), (4, .int (nI y0)), (5, .int (nI tx)), (6, .int (nI ty))]) X.1 X.2.1 dL_asks_88 hl (by decide) rfl (fun ls hl => ?_)
      refine r_ldc2 (v := (-70008)) X (by decide +kernel) dL_asks_90 ?_
      refine vx_ret (e_l X hr S (Nat.le_of_ble_eq_true rfl) (Nat.le_of_ble_eq_true rfl) dL_asks_93 ?_)
      exact ⟨fun z => absurd hkc (by rw [k3_0 hke hko z]; decide), fun _ => rfl, rfl⟩
    · exact nomatch (show (none : Option String) = some E from hi)
  · obtain ⟨hk, hrr, hmm⟩ := hr_13
    refine lv_goto (tgt := 75) X.1 X.2.1 dL_asks_16 (by decide) ?_
    refine vx_ret (e_l X hr S (Nat.le_of_ble_eq_true rfl) (Nat.le_of_ble_eq_true rfl) dL_asks_75 ?_)
    exact ⟨fun _ => hrr, fun z => absurd (k3_i hk).2.2 z, hmm⟩

set_option maxRecDepth 100000 in
set_option maxHeartbeats 4000000 in
/-- asks: a_soften -/
theorem a_soften (l : Launch) (hst : l.stackTraces = false) (G : cx_G) (f : Wd) (st : St) (x : Nat) (hI : sInv st) (hR0 : RX G f st x) (v : Nat) (hv1 : 1 ≤ v) (hv2 : v ≤ 40) (ht : st 0 1 < 100) : XL l G yL_asks wsL_asks 9 240 6 332 [.ref x, .int 2, .int (nI v), .int 0, .int 0, .int 0, .int 0] f (fun r f' => r = lN (cn (goneL st (softφ (st 1) v)) (st 0 0)) ∧ RX G f' (lessSt st (softφ (st 1) v)) x ∧ md tX f f') (fun _ => False) := by
  refine vxh_body (cc := cL_asks) (n := 8) (ret := (some .long)) (by decide +kernel) rfl (Nat.le_of_ble_eq_true rfl) ?_
  intro p0 e0 s0 m0 b0 meth0 c0 ls X hr hnm hout S hl
  have X : cxC G p0 l _ c0 cL_asks 8 m0 meth0 s0 _ RL wsL_asks := X
  have hl : lv_has ls 8 [(0, .ref x), (1, .int 2), (2, .int (nI v)), (3, .int 0), (4, .int 0), (5, .int 0), (6, .int 0)] := hl
  have h200 := sInv_le hI
  have hqa := c_soften l hst G f st x hI hR0 (nI v)
  rw [nN_nI (by omega)] at hqa
  have hkz : (k2 (inI (nI v) 1 40) (st 0 1 < 100)) = 0 := k2_0 (inI_n (by omega) (by omega) (by omega)) ht
  refine lv_iload_n X.1 X.2.1 dL_asks_0 rfl (lv_at hl 1 rfl) ?_
  refine lv_if_ne (x := 2) (tgt := 19) X.1 X.2.1 dL_asks_1 (by decide) (fun c_1 => ?_) (fun c_1 => by first | exact absurd c_1 (by decide) | exact absurd (by decide) c_1)
  refine lv_iload_n X.1 X.2.1 dL_asks_19 rfl (lv_at hl 1 rfl) ?_
  refine lv_iconst (v := 1) X.1 X.2.1 dL_asks_20 (by decide) ?_
  refine n_ne (a := 2) (b := 1) (tgt := 34) X dL_asks_21 (by decide) (fun n_21 => ?_) (fun n_21 => by first | exact absurd n_21 (by decide) | exact absurd (by decide) n_21)
  refine lv_iload_n X.1 X.2.1 dL_asks_34 rfl (lv_at hl 1 rfl) ?_
  refine lv_iconst (v := 2) X.1 X.2.1 dL_asks_35 (by decide) ?_
  refine n_ne (a := 2) (b := 2) (tgt := 48) X dL_asks_36 (by decide) (fun n_36 => by first | exact absurd n_36 (by decide) | exact absurd (by decide) n_36) (fun n_36 => ?_)
  refine lv_aload_n X.1 X.2.1 dL_asks_39 rfl (lv_at hl 0 rfl) ?_
  refine lv_iload_n X.1 X.2.1 dL_asks_40 rfl (lv_at hl 2 rfl) ?_
  refine xcall_it (xrun_V X S (hqa) 1 gL_asks_X9_soften rfl rfl rfl (by decide +kernel) ⟨(by exact Nat.le_of_ble_eq_true rfl), (by exact Nat.le_of_ble_eq_true rfl)⟩ (RX.obj hR0) rfl rfl rfl hl.1 rfl (by exact Nat.le_of_ble_eq_true rfl) dL_asks_41 ⟨(by exact Nat.le_of_ble_eq_true rfl), (by exact Nat.le_of_ble_eq_true rfl)⟩) S (fun E H locs qx ce hE S hce hcv hcl => ?_) (fun r_41 f_41 H locs hr_41 S => ?_)
  · obtain ⟨i, hi, hkc⟩ := hE
    rcases i with _ | _ | i
    · exact absurd hkc (by rw [hkz]; decide)
    · exact absurd hkc (by rw [hkz]; decide)
    · exact nomatch (show (none : Option String) = some E from hi)
  · obtain ⟨hk, hrr, hmm⟩ := hr_41
    refine lv_i2l (v := r_41.toInt64) X.1 X.2.1 dL_asks_44 rfl ?_
    refine lv_goto (tgt := 75) X.1 X.2.1 dL_asks_45 (by decide) ?_
    refine vx_ret (e_l X hr S (Nat.le_of_ble_eq_true rfl) (Nat.le_of_ble_eq_true rfl) dL_asks_75 ?_)
    refine ⟨?_, hmm⟩
    rw [hrr]
    exact nI_l (by have := cn_le (goneL st (softφ (st 1) v)) (st 0 0); omega)

set_option maxRecDepth 100000 in
set_option maxHeartbeats 4000000 in
/-- asks: a_flood -/
theorem a_flood (l : Launch) (hst : l.stackTraces = false) (G : cx_G) (f : Wd) (st : St) (x : Nat) (hI : sInv st) (hR0 : RX G f st x) (x0 y0 tx ty v : Nat) (hx : x0 ≤ tx) (hy : y0 ≤ ty) (h1 : tx < 16) (h2 : ty < 16) (hv1 : 1 ≤ v) (hv2 : v ≤ 40) (ht : st 0 1 < 100) : XL l G yL_asks wsL_asks 9 240 8 337 [.ref x, .int 3, .int (nI x0), .int (nI y0), .int (nI tx), .int (nI ty), .int (nI v)] f (fun r f' => r = lN (cn (goneL st (floodφ x0 y0 tx ty v)) (st 0 0)) ∧ RX G f' (lessSt st (floodφ x0 y0 tx ty v)) x ∧ md tX f f') (fun _ => False) := by
  refine vxh_body (cc := cL_asks) (n := 8) (ret := (some .long)) (by decide +kernel) rfl (Nat.le_of_ble_eq_true rfl) ?_
  intro p0 e0 s0 m0 b0 meth0 c0 ls X hr hnm hout S hl
  have X : cxC G p0 l _ c0 cL_asks 8 m0 meth0 s0 _ RL wsL_asks := X
  have hl : lv_has ls 8 [(0, .ref x), (1, .int 3), (2, .int (nI x0)), (3, .int (nI y0)), (4, .int (nI tx)), (5, .int (nI ty)), (6, .int (nI v))] := hl
  have h200 := sInv_le hI
  have hqa := c_flood l hst G f st x hI hR0 (nI x0) (nI y0) (nI tx) (nI ty) (nI v)
  rw [nN_nI (by omega), nN_nI (by omega), nN_nI (by omega), nN_nI (by omega), nN_nI (by omega)] at hqa
  have hkz : (k3 (cellP (nI x0) (nI y0) ∧ cellP (nI tx) (nI ty)) (inI (nI v) 1 40 ∧ ordP (nI x0) (nI y0) (nI tx) (nI ty)) (st 0 1 < 100)) = 0 := k3_0 ⟨cell_n (by omega) (by omega), cell_n (by omega) (by omega)⟩ ⟨inI_n (by omega) (by omega) (by omega), ord_n hx hy h1 h2⟩ ht
  refine lv_iload_n X.1 X.2.1 dL_asks_0 rfl (lv_at hl 1 rfl) ?_
  refine lv_if_ne (x := 3) (tgt := 19) X.1 X.2.1 dL_asks_1 (by decide) (fun c_1 => ?_) (fun c_1 => by first | exact absurd c_1 (by decide) | exact absurd (by decide) c_1)
  refine lv_iload_n X.1 X.2.1 dL_asks_19 rfl (lv_at hl 1 rfl) ?_
  refine lv_iconst (v := 1) X.1 X.2.1 dL_asks_20 (by decide) ?_
  refine n_ne (a := 3) (b := 1) (tgt := 34) X dL_asks_21 (by decide) (fun n_21 => ?_) (fun n_21 => by first | exact absurd n_21 (by decide) | exact absurd (by decide) n_21)
  refine lv_iload_n X.1 X.2.1 dL_asks_34 rfl (lv_at hl 1 rfl) ?_
  refine lv_iconst (v := 2) X.1 X.2.1 dL_asks_35 (by decide) ?_
  refine n_ne (a := 3) (b := 2) (tgt := 48) X dL_asks_36 (by decide) (fun n_36 => ?_) (fun n_36 => by first | exact absurd n_36 (by decide) | exact absurd (by decide) n_36)
  refine lv_iload_n X.1 X.2.1 dL_asks_48 rfl (lv_at hl 1 rfl) ?_
  refine lv_iconst (v := 3) X.1 X.2.1 dL_asks_49 (by decide) ?_
  refine n_ne (a := 3) (b := 3) (tgt := 69) X dL_asks_50 (by decide) (fun n_50 => by first | exact absurd n_50 (by decide) | exact absurd (by decide) n_50) (fun n_50 => ?_)
  refine lv_aload_n X.1 X.2.1 dL_asks_53 rfl (lv_at hl 0 rfl) ?_
  refine lv_iload_n X.1 X.2.1 dL_asks_54 rfl (lv_at hl 2 rfl) ?_
  refine lv_iload_n X.1 X.2.1 dL_asks_55 rfl (lv_at hl 3 rfl) ?_
  refine lv_iload X.1 X.2.1 dL_asks_56 (lv_at hl 4 rfl) ?_
  refine lv_iload X.1 X.2.1 dL_asks_58 (lv_at hl 5 rfl) ?_
  refine lv_iload X.1 X.2.1 dL_asks_60 (lv_at hl 6 rfl) ?_
  refine xcall_it (xrun_V X S (hqa) 5 gL_asks_X9_flood rfl rfl rfl (by decide +kernel) ⟨(by exact Nat.le_of_ble_eq_true rfl), (by exact Nat.le_of_ble_eq_true rfl)⟩ (RX.obj hR0) rfl rfl rfl hl.1 rfl (by exact Nat.le_of_ble_eq_true rfl) dL_asks_62 ⟨(by exact Nat.le_of_ble_eq_true rfl), (by exact Nat.le_of_ble_eq_true rfl)⟩) S (fun E H locs qx ce hE S hce hcv hcl => ?_) (fun r_62 f_62 H locs hr_62 S => ?_)
  · obtain ⟨i, hi, hkc⟩ := hE
    rcases i with _ | _ | _ | i
    · exact absurd hkc (by rw [hkz]; decide)
    · exact absurd hkc (by rw [hkz]; decide)
    · exact absurd hkc (by rw [hkz]; decide)
    · exact nomatch (show (none : Option String) = some E from hi)
  · obtain ⟨hk, hrr, hmm⟩ := hr_62
    refine lv_i2l (v := r_62.toInt64) X.1 X.2.1 dL_asks_65 rfl ?_
    refine lv_goto (tgt := 75) X.1 X.2.1 dL_asks_66 (by decide) ?_
    refine vx_ret (e_l X hr S (Nat.le_of_ble_eq_true rfl) (Nat.le_of_ble_eq_true rfl) dL_asks_75 ?_)
    refine ⟨?_, hmm⟩
    rw [hrr]
    exact nI_l (by have := cn_le (goneL st (floodφ x0 y0 tx ty v)) (st 0 0); omega)

set_option maxRecDepth 100000 in
set_option maxHeartbeats 4000000 in
/-- asks: a_eye -/
theorem a_eye (l : Launch) (hst : l.stackTraces = false) (G : cx_G) (f : Wd) (st : St) (x : Nat) (hI : sInv st) (hR0 : RX G f st x) (h6 : st 0 2 = 6) : XL l G yL_asks wsL_asks 9 240 3 307 [.ref x, .int 4, .int 5, .int 0, .int 0, .int 0, .int 0] f (fun r f' => r = (-70008) ∧ f' = f) (fun _ => False) := by
  refine vxh_body (cc := cL_asks) (n := 8) (ret := (some .long)) (by decide +kernel) rfl (Nat.le_of_ble_eq_true rfl) ?_
  intro p0 e0 s0 m0 b0 meth0 c0 ls X hr hnm hout S hl
  have X : cxC G p0 l _ c0 cL_asks 8 m0 meth0 s0 _ RL wsL_asks := X
  have hl : lv_has ls 8 [(0, .ref x), (1, .int 4), (2, .int 5), (3, .int 0), (4, .int 0), (5, .int 0), (6, .int 0)] := hl
  have hkz : (k2 (inI 5 1 9) (st 0 2 < 6)) = 2 := k2_2 ⟨by decide, by decide⟩ (by omega)
  refine lv_iload_n X.1 X.2.1 dL_asks_0 rfl (lv_at hl 1 rfl) ?_
  refine lv_if_ne (x := 4) (tgt := 19) X.1 X.2.1 dL_asks_1 (by decide) (fun c_1 => ?_) (fun c_1 => by first | exact absurd c_1 (by decide) | exact absurd (by decide) c_1)
  refine lv_iload_n X.1 X.2.1 dL_asks_19 rfl (lv_at hl 1 rfl) ?_
  refine lv_iconst (v := 1) X.1 X.2.1 dL_asks_20 (by decide) ?_
  refine n_ne (a := 4) (b := 1) (tgt := 34) X dL_asks_21 (by decide) (fun n_21 => ?_) (fun n_21 => by first | exact absurd n_21 (by decide) | exact absurd (by decide) n_21)
  refine lv_iload_n X.1 X.2.1 dL_asks_34 rfl (lv_at hl 1 rfl) ?_
  refine lv_iconst (v := 2) X.1 X.2.1 dL_asks_35 (by decide) ?_
  refine n_ne (a := 4) (b := 2) (tgt := 48) X dL_asks_36 (by decide) (fun n_36 => ?_) (fun n_36 => by first | exact absurd n_36 (by decide) | exact absurd (by decide) n_36)
  refine lv_iload_n X.1 X.2.1 dL_asks_48 rfl (lv_at hl 1 rfl) ?_
  refine lv_iconst (v := 3) X.1 X.2.1 dL_asks_49 (by decide) ?_
  refine n_ne (a := 4) (b := 3) (tgt := 69) X dL_asks_50 (by decide) (fun n_50 => ?_) (fun n_50 => by first | exact absurd n_50 (by decide) | exact absurd (by decide) n_50)
  refine lv_aload_n X.1 X.2.1 dL_asks_69 rfl (lv_at hl 0 rfl) ?_
  refine lv_iload_n X.1 X.2.1 dL_asks_70 rfl (lv_at hl 2 rfl) ?_
  refine xcall_it (xrun_V X S (c_eye l hst G f st x hI hR0 5) 1 gL_asks_X9_eye rfl rfl rfl (by decide +kernel) ⟨(by exact Nat.le_of_ble_eq_true rfl), (by exact Nat.le_of_ble_eq_true rfl)⟩ (RX.obj hR0) rfl rfl rfl hl.1 rfl (by exact Nat.le_of_ble_eq_true rfl) dL_asks_71 ⟨(by exact Nat.le_of_ble_eq_true rfl), (by exact Nat.le_of_ble_eq_true rfl)⟩) S (fun E H locs qx ce hE S hce hcv hcl => ?_) (fun r_71 f_71 H locs hr_71 S => ?_)
  · obtain ⟨i, hi, hkc⟩ := hE
    rcases i with _ | _ | i
    · exact absurd hkc (by rw [hkz]; decide)
    · obtain rfl := Option.some.inj (show some "java/lang/IllegalStateException" = some E from hi)
      have hkc : (k2 (inI 5 1 9) (st 0 2 < 6)) = 2 := hkc
      refine r_catch X hout [⟨0, 75, 76, 31⟩, ⟨0, 75, 82, 35⟩] ⟨0, 75, 88, 39⟩ [] rfl (fun z hz => by rcases List.mem_cons.mp hz with rfl | hz; exact ⟨by decide, "java/lang/IndexOutOfBoundsException", by decide +kernel, by decide +kernel⟩; rcases List.mem_cons.mp hz with rfl | hz; exact ⟨by decide, "java/lang/IllegalArgumentException", by decide +kernel, by decide +kernel⟩; exact nomatch hz) rfl (by decide) (by decide +kernel) (by decide +kernel) (pc2 := 88) rfl hce hcv hcl ?_
      refine lv_astore (lv' := [(7, .ref qx), (0, .ref x), (1, .int 4), (2, .int 5), (3, .int 0), (4, .int 0), (5, .int 0), (6, .int 0)]) X.1 X.2.1 dL_asks_88 hl (by decide) rfl (fun ls hl => ?_)
      refine r_ldc2 (v := (-70008)) X (by decide +kernel) dL_asks_90 ?_
      refine vx_ret (e_l X hr S (Nat.le_of_ble_eq_true rfl) (Nat.le_of_ble_eq_true rfl) dL_asks_93 ?_)
      exact ⟨rfl, rfl⟩
    · exact nomatch (show (none : Option String) = some E from hi)
  · exact absurd hr_71.1 (by rw [hkz]; decide)
