/-! the reference: its public methods, the other half; its making -/
theorem one64 : (1 : Int64).toInt = 1 := by decide +kernel
theorem big64 : (5000000000 : Int64).toInt = 5000000000 := by decide +kernel
theorem mil64 : (100000000 : Int64).toInt = 100000000 := by decide +kernel
theorem nI_nle8 {n : Nat} (h : n < 8) (c : (8 : Int32) ≤ nI n) : False := nI_ge (b := 8) h (by omega) c
def amk (q1 q2 q3 q5 q7 q9 q10 q11 : Nat) : Nat → Nat := fun b => if b = 1 then q1 else if b = 2 then q2 else if b = 3 then q3 else if b = 5 then q5 else if b = 7 then q7 else if b = 9 then q9 else if b = 10 then q10 else q11
set_option maxRecDepth 100000 in
set_option maxHeartbeats 4000000 in
/-- count -/
theorem n_count (l : Launch) (G : cx_G) (f : Wd) (st : St) (y : Nat) (A : Nat → Nat) (V : Nat → Nat → Int32) (VL : Nat → Nat → Int64) (thr : Int32) (hI : sInv st) (hM : RMx G f st y A V VL thr) (c a b p q k : Int32) : MI l G yX10_count wsX10_count 3 76 0 0 [.ref y, .int c, .int a, .int b, .int p, .int q, .int k] f (fun r f' => RM G f' (stp (k2 (eyeP st c a b p q) (inI k 1 7 ∧ ordP a b p q)) st st) y (nI (k2 (eyeP st c a b p q) (inI k 1 7 ∧ ordP a b p q))) ∧ md tM f f' ∧ ((k2 (eyeP st c a b p q) (inI k 1 7 ∧ ordP a b p q)) = 0 → r = nI (cn (seenP st (nN k) (nN c) (nN a) (nN b) (nN p) (nN q)) (st 0 0)))) := by
  refine cx_body (cc := cX10_count) (n := 9) (ret := (some .int)) (by decide +kernel) rfl (Nat.le_of_ble_eq_true rfl) ?_
  intro p0 e0 s0 m0 b0 meth0 c0 ls X hr hnm S hl
  have X : cxC G p0 l _ c0 cX10_count 9 m0 meth0 s0 _ RX10 wsX10_count := X
  have hl : lv_has ls 9 [(0, .ref y), (1, .int c), (2, .int a), (3, .int b), (4, .int p), (5, .int q), (6, .int k)] := hl
  obtain ⟨hi0, hi1, hi2, hi3, hi4, hi5, hi6, hi7⟩ := id hI
  obtain ⟨hy, ⟨hA1, hA2, hA3, hA5, hA7, hA9, hA10, hA11⟩, hv1, hvk, hv9, hvL⟩ := id hM
  have mm0 : md tM f f := md_rf _ _
  refine lv_aload_n X.1 X.2.1 dX10_count_0 rfl (lv_at hl 0 rfl) ?_
  refine lv_iload_n X.1 X.2.1 dX10_count_1 rfl (lv_at hl 1 rfl) ?_
  refine call_ip (run_V X S (n_isEye l G f y A (nI (st 0 0)) (nI (st 0 4)) (nI (st 0 1)) (nI (st 0 3)) thr (st 0 2) (by omega) hy c) 1 gX10_count_X10_isEye rfl rfl rfl (by decide +kernel) ⟨(by exact Nat.le_of_ble_eq_true rfl), (by exact Nat.le_of_ble_eq_true rfl)⟩ ⟨_, _, hy⟩ rfl rfl rfl hl.1 rfl (by exact Nat.le_of_ble_eq_true rfl) dX10_count_2 ⟨(Nat.zero_le _), (Nat.zero_le _)⟩) S (fun r_2 H locs hr_2 S => ?_)
  subst hr_2
  refine r_eqB (tgt := 24) X dX10_count_5 (by decide) (fun c_5 => ?_) (fun c_5 => ?_)
  · refine lv_iconst (v := 0) X.1 X.2.1 dX10_count_24 (by decide) ?_
    refine lv_istore (lv' := [(7, .int 0), (0, .ref y), (1, .int c), (2, .int a), (3, .int b), (4, .int p), (5, .int q), (6, .int k)]) X.1 X.2.1 dX10_count_25 hl (by decide) rfl (fun ls hl => ?_)
    refine lv_iload X.1 X.2.1 dX10_count_27 (lv_at hl 5 rfl) ?_
    refine lv_iload_n X.1 X.2.1 dX10_count_29 rfl (lv_at hl 3 rfl) ?_
    refine lv_icmp_lt (tgt := 54) X.1 X.2.1 dX10_count_30 (by decide) (fun c_30 => ?_) (fun c_30 => ?_)
    · refine lv_iconst (v := 0) X.1 X.2.1 dX10_count_54 (by decide) ?_
      refine lv_istore (lv' := [(8, .int 0), (7, .int 0), (0, .ref y), (1, .int c), (2, .int a), (3, .int b), (4, .int p), (5, .int q), (6, .int k)]) X.1 X.2.1 dX10_count_55 hl (by decide) rfl (fun ls hl => ?_)
      refine lv_aload_n X.1 X.2.1 dX10_count_57 rfl (lv_at hl 2 rfl) ?_
      refine lv_iload X.1 X.2.1 dX10_count_58 (lv_at hl 1 rfl) ?_
      refine lv_if_ne (x := 0) (tgt := 67) X.1 X.2.1 dX10_count_60 (by decide) (fun c_60 => by first | exact absurd c_60 (by decide) | exact absurd (by decide) c_60) (fun c_60 => ?_)
      refine lv_iconst (v := 1) X.1 X.2.1 dX10_count_63 (by decide) ?_
      refine lv_goto (tgt := 77) X.1 X.2.1 dX10_count_64 (by decide) ?_
      refine call_i (run_V X S (n_can l G f y A (nI (st 0 0)) (nI (st 0 4)) (nI (st 0 1)) (nI (st 0 2)) (nI (st 0 3)) thr hy 1 (by omega)) 1 gX10_count_X10_can rfl rfl rfl (by decide +kernel) ⟨(by exact Nat.le_of_ble_eq_true rfl), (by exact Nat.le_of_ble_eq_true rfl)⟩ ⟨_, _, hy⟩ rfl rfl rfl hl.1 rfl (by exact Nat.le_of_ble_eq_true rfl) dX10_count_77 ⟨(by exact Nat.le_of_ble_eq_true rfl), (by exact Nat.le_of_ble_eq_true rfl)⟩) S (fun r_77 f_77 H locs hr_77 S => ?_)
      obtain ⟨rfl, e_can⟩ := hr_77
      have hy_77 : f_77 y = some (1000, .inr (10, [.ref (A 1), .int (nI (st 0 0)), .ref (A 2), .ref (A 3), .ref (A 5), .ref (A 7), .int (nI (st 0 4)), .int (nI (st 0 1)), .int (nI (st 0 2)), .ref (A 9), .int (nI (st 0 3)), .ref (A 10), .ref (A 11), .int (nI 1)])) := by rw [e_can]; exact wu_self _ _ _ _
      have mm_77 : md tM f f_77 := by rw [e_can]; exact md_tr mm0 (md_put hy) (fun _ q => q) (fun t q => by subst q; unfold tM; omega)
      have hM0 : RMx G f_77 st y A V VL (nI 1) := by rw [e_can]; exact RMx_thr hM
      refine r_toi (y := 0) (by rfl) ?_
      have hKC : (k2 (eyeP st c a b p q) (inI k 1 7 ∧ ordP a b p q)) = 1 := k2_1 (fun z => by first | exact dF c_5 z.1 | exact dF c_17 z.2)
      refine lv_if_eq (x := 0) (tgt := 99) X.1 X.2.1 dX10_count_80 (by decide) (fun c_80 => ?_) (fun c_80 => by first | exact absurd c_80 (by decide) | exact absurd (by decide) c_80)
      refine lv_iconst (v := 0) X.1 X.2.1 dX10_count_99 (by decide) ?_
      refine e_i X hr S (Nat.le_of_ble_eq_true rfl) (Nat.le_of_ble_eq_true rfl) dX10_count_100 ?_
      rw [hKC]
      exact ⟨⟨A, V, VL, hM0⟩, mm_77, fun z => absurd z (by decide)⟩
    · refine lv_iload X.1 X.2.1 dX10_count_33 (lv_at hl 6 rfl) ?_
      refine lv_iload_n X.1 X.2.1 dX10_count_35 rfl (lv_at hl 4 rfl) ?_
      refine lv_icmp_lt (tgt := 54) X.1 X.2.1 dX10_count_36 (by decide) (fun c_36 => ?_) (fun c_36 => ?_)
      · refine lv_iconst (v := 0) X.1 X.2.1 dX10_count_54 (by decide) ?_
        refine lv_istore (lv' := [(8, .int 0), (7, .int 0), (0, .ref y), (1, .int c), (2, .int a), (3, .int b), (4, .int p), (5, .int q), (6, .int k)]) X.1 X.2.1 dX10_count_55 hl (by decide) rfl (fun ls hl => ?_)
        refine lv_aload_n X.1 X.2.1 dX10_count_57 rfl (lv_at hl 2 rfl) ?_
        refine lv_iload X.1 X.2.1 dX10_count_58 (lv_at hl 1 rfl) ?_
        refine lv_if_ne (x := 0) (tgt := 67) X.1 X.2.1 dX10_count_60 (by decide) (fun c_60 => by first | exact absurd c_60 (by decide) | exact absurd (by decide) c_60) (fun c_60 => ?_)
        refine lv_iconst (v := 1) X.1 X.2.1 dX10_count_63 (by decide) ?_
        refine lv_goto (tgt := 77) X.1 X.2.1 dX10_count_64 (by decide) ?_
        refine call_i (run_V X S (n_can l G f y A (nI (st 0 0)) (nI (st 0 4)) (nI (st 0 1)) (nI (st 0 2)) (nI (st 0 3)) thr hy 1 (by omega)) 1 gX10_count_X10_can rfl rfl rfl (by decide +kernel) ⟨(by exact Nat.le_of_ble_eq_true rfl), (by exact Nat.le_of_ble_eq_true rfl)⟩ ⟨_, _, hy⟩ rfl rfl rfl hl.1 rfl (by exact Nat.le_of_ble_eq_true rfl) dX10_count_77 ⟨(by exact Nat.le_of_ble_eq_true rfl), (by exact Nat.le_of_ble_eq_true rfl)⟩) S (fun r_77 f_77 H locs hr_77 S => ?_)
        obtain ⟨rfl, e_can⟩ := hr_77
        have hy_77 : f_77 y = some (1000, .inr (10, [.ref (A 1), .int (nI (st 0 0)), .ref (A 2), .ref (A 3), .ref (A 5), .ref (A 7), .int (nI (st 0 4)), .int (nI (st 0 1)), .int (nI (st 0 2)), .ref (A 9), .int (nI (st 0 3)), .ref (A 10), .ref (A 11), .int (nI 1)])) := by rw [e_can]; exact wu_self _ _ _ _
        have mm_77 : md tM f f_77 := by rw [e_can]; exact md_tr mm0 (md_put hy) (fun _ q => q) (fun t q => by subst q; unfold tM; omega)
        have hM0 : RMx G f_77 st y A V VL (nI 1) := by rw [e_can]; exact RMx_thr hM
        refine r_toi (y := 0) (by rfl) ?_
        have hKC : (k2 (eyeP st c a b p q) (inI k 1 7 ∧ ordP a b p q)) = 1 := k2_1 (fun z => by first | exact dF c_5 z.1 | exact dF c_17 z.2)
        refine lv_if_eq (x := 0) (tgt := 99) X.1 X.2.1 dX10_count_80 (by decide) (fun c_80 => ?_) (fun c_80 => by first | exact absurd c_80 (by decide) | exact absurd (by decide) c_80)
        refine lv_iconst (v := 0) X.1 X.2.1 dX10_count_99 (by decide) ?_
        refine e_i X hr S (Nat.le_of_ble_eq_true rfl) (Nat.le_of_ble_eq_true rfl) dX10_count_100 ?_
        rw [hKC]
        exact ⟨⟨A, V, VL, hM0⟩, mm_77, fun z => absurd z (by decide)⟩
      · refine lv_iload X.1 X.2.1 dX10_count_39 (lv_at hl 7 rfl) ?_
        refine lv_iconst (v := 1) X.1 X.2.1 dX10_count_41 (by decide) ?_
        refine lv_bipush (v := 7) X.1 X.2.1 dX10_count_42 (by decide) ?_
        refine call_ip (run_S X S (n_isIn l G f k 1 7 1 7 (by decide) (by decide)) 3 gX10_count_X10_isIn rfl rfl rfl (by decide +kernel) ⟨(by exact Nat.le_of_ble_eq_true rfl), (by exact Nat.le_of_ble_eq_true rfl)⟩ rfl hl.1 rfl (by exact Nat.le_of_ble_eq_true rfl) dX10_count_44 ⟨(Nat.zero_le _), (Nat.zero_le _)⟩) S (fun r_44 H locs hr_44 S => ?_)
        subst hr_44
        refine r_eqB (tgt := 54) X dX10_count_47 (by decide) (fun c_47 => ?_) (fun c_47 => ?_)
        · refine lv_iconst (v := 0) X.1 X.2.1 dX10_count_54 (by decide) ?_
          refine lv_istore (lv' := [(8, .int 0), (7, .int 0), (0, .ref y), (1, .int c), (2, .int a), (3, .int b), (4, .int p), (5, .int q), (6, .int k)]) X.1 X.2.1 dX10_count_55 hl (by decide) rfl (fun ls hl => ?_)
          refine lv_aload_n X.1 X.2.1 dX10_count_57 rfl (lv_at hl 2 rfl) ?_
          refine lv_iload X.1 X.2.1 dX10_count_58 (lv_at hl 1 rfl) ?_
          refine lv_if_ne (x := 0) (tgt := 67) X.1 X.2.1 dX10_count_60 (by decide) (fun c_60 => by first | exact absurd c_60 (by decide) | exact absurd (by decide) c_60) (fun c_60 => ?_)
          refine lv_iconst (v := 1) X.1 X.2.1 dX10_count_63 (by decide) ?_
          refine lv_goto (tgt := 77) X.1 X.2.1 dX10_count_64 (by decide) ?_
          refine call_i (run_V X S (n_can l G f y A (nI (st 0 0)) (nI (st 0 4)) (nI (st 0 1)) (nI (st 0 2)) (nI (st 0 3)) thr hy 1 (by omega)) 1 gX10_count_X10_can rfl rfl rfl (by decide +kernel) ⟨(by exact Nat.le_of_ble_eq_true rfl), (by exact Nat.le_of_ble_eq_true rfl)⟩ ⟨_, _, hy⟩ rfl rfl rfl hl.1 rfl (by exact Nat.le_of_ble_eq_true rfl) dX10_count_77 ⟨(by exact Nat.le_of_ble_eq_true rfl), (by exact Nat.le_of_ble_eq_true rfl)⟩) S (fun r_77 f_77 H locs hr_77 S => ?_)
          obtain ⟨rfl, e_can⟩ := hr_77
          have hy_77 : f_77 y = some (1000, .inr (10, [.ref (A 1), .int (nI (st 0 0)), .ref (A 2), .ref (A 3), .ref (A 5), .ref (A 7), .int (nI (st 0 4)), .int (nI (st 0 1)), .int (nI (st 0 2)), .ref (A 9), .int (nI (st 0 3)), .ref (A 10), .ref (A 11), .int (nI 1)])) := by rw [e_can]; exact wu_self _ _ _ _
          have mm_77 : md tM f f_77 := by rw [e_can]; exact md_tr mm0 (md_put hy) (fun _ q => q) (fun t q => by subst q; unfold tM; omega)
          have hM0 : RMx G f_77 st y A V VL (nI 1) := by rw [e_can]; exact RMx_thr hM
          refine r_toi (y := 0) (by rfl) ?_
          have hKC : (k2 (eyeP st c a b p q) (inI k 1 7 ∧ ordP a b p q)) = 1 := k2_1 (fun z => by first | exact dF c_5 z.1 | exact dF c_17 z.2)
          refine lv_if_eq (x := 0) (tgt := 99) X.1 X.2.1 dX10_count_80 (by decide) (fun c_80 => ?_) (fun c_80 => by first | exact absurd c_80 (by decide) | exact absurd (by decide) c_80)
          refine lv_iconst (v := 0) X.1 X.2.1 dX10_count_99 (by decide) ?_
          refine e_i X hr S (Nat.le_of_ble_eq_true rfl) (Nat.le_of_ble_eq_true rfl) dX10_count_100 ?_
          rw [hKC]
          exact ⟨⟨A, V, VL, hM0⟩, mm_77, fun z => absurd z (by decide)⟩
        · refine lv_iconst (v := 1) X.1 X.2.1 dX10_count_50 (by decide) ?_
          refine lv_goto (tgt := 55) X.1 X.2.1 dX10_count_51 (by decide) ?_
          refine lv_istore (lv' := [(8, .int 1), (7, .int 0), (0, .ref y), (1, .int c), (2, .int a), (3, .int b), (4, .int p), (5, .int q), (6, .int k)]) X.1 X.2.1 dX10_count_55 hl (by decide) rfl (fun ls hl => ?_)
          refine lv_aload_n X.1 X.2.1 dX10_count_57 rfl (lv_at hl 2 rfl) ?_
          refine lv_iload X.1 X.2.1 dX10_count_58 (lv_at hl 1 rfl) ?_
          refine lv_if_ne (x := 0) (tgt := 67) X.1 X.2.1 dX10_count_60 (by decide) (fun c_60 => by first | exact absurd c_60 (by decide) | exact absurd (by decide) c_60) (fun c_60 => ?_)
          refine lv_iconst (v := 1) X.1 X.2.1 dX10_count_63 (by decide) ?_
          refine lv_goto (tgt := 77) X.1 X.2.1 dX10_count_64 (by decide) ?_
          refine call_i (run_V X S (n_can l G f y A (nI (st 0 0)) (nI (st 0 4)) (nI (st 0 1)) (nI (st 0 2)) (nI (st 0 3)) thr hy 1 (by omega)) 1 gX10_count_X10_can rfl rfl rfl (by decide +kernel) ⟨(by exact Nat.le_of_ble_eq_true rfl), (by exact Nat.le_of_ble_eq_true rfl)⟩ ⟨_, _, hy⟩ rfl rfl rfl hl.1 rfl (by exact Nat.le_of_ble_eq_true rfl) dX10_count_77 ⟨(by exact Nat.le_of_ble_eq_true rfl), (by exact Nat.le_of_ble_eq_true rfl)⟩) S (fun r_77 f_77 H locs hr_77 S => ?_)
          obtain ⟨rfl, e_can⟩ := hr_77
          have hy_77 : f_77 y = some (1000, .inr (10, [.ref (A 1), .int (nI (st 0 0)), .ref (A 2), .ref (A 3), .ref (A 5), .ref (A 7), .int (nI (st 0 4)), .int (nI (st 0 1)), .int (nI (st 0 2)), .ref (A 9), .int (nI (st 0 3)), .ref (A 10), .ref (A 11), .int (nI 1)])) := by rw [e_can]; exact wu_self _ _ _ _
          have mm_77 : md tM f f_77 := by rw [e_can]; exact md_tr mm0 (md_put hy) (fun _ q => q) (fun t q => by subst q; unfold tM; omega)
          have hM0 : RMx G f_77 st y A V VL (nI 1) := by rw [e_can]; exact RMx_thr hM
          refine r_toi (y := 0) (by rfl) ?_
          have hKC : (k2 (eyeP st c a b p q) (inI k 1 7 ∧ ordP a b p q)) = 1 := k2_1 (fun z => by first | exact dF c_5 z.1 | exact dF c_17 z.2)
          refine lv_if_eq (x := 0) (tgt := 99) X.1 X.2.1 dX10_count_80 (by decide) (fun c_80 => ?_) (fun c_80 => by first | exact absurd c_80 (by decide) | exact absurd (by decide) c_80)
          refine lv_iconst (v := 0) X.1 X.2.1 dX10_count_99 (by decide) ?_
          refine e_i X hr S (Nat.le_of_ble_eq_true rfl) (Nat.le_of_ble_eq_true rfl) dX10_count_100 ?_
          rw [hKC]
          exact ⟨⟨A, V, VL, hM0⟩, mm_77, fun z => absurd z (by decide)⟩
  · refine lv_iload_n X.1 X.2.1 dX10_count_8 rfl (lv_at hl 2 rfl) ?_
    refine lv_iload_n X.1 X.2.1 dX10_count_9 rfl (lv_at hl 3 rfl) ?_
    refine lv_iload X.1 X.2.1 dX10_count_10 (lv_at hl 4 rfl) ?_
    refine lv_iload X.1 X.2.1 dX10_count_12 (lv_at hl 5 rfl) ?_
    refine call_ip (run_S X S (n_areCells l G f a b p q) 4 gX10_count_X10_areCells rfl rfl rfl (by decide +kernel) ⟨(by exact Nat.le_of_ble_eq_true rfl), (by exact Nat.le_of_ble_eq_true rfl)⟩ rfl hl.1 rfl (by exact Nat.le_of_ble_eq_true rfl) dX10_count_14 ⟨(Nat.zero_le _), (Nat.zero_le _)⟩) S (fun r_14 H locs hr_14 S => ?_)
    subst hr_14
    refine r_eqB (tgt := 24) X dX10_count_17 (by decide) (fun c_17 => ?_) (fun c_17 => ?_)
    · refine lv_iconst (v := 0) X.1 X.2.1 dX10_count_24 (by decide) ?_
      refine lv_istore (lv' := [(7, .int 0), (0, .ref y), (1, .int c), (2, .int a), (3, .int b), (4, .int p), (5, .int q), (6, .int k)]) X.1 X.2.1 dX10_count_25 hl (by decide) rfl (fun ls hl => ?_)
      refine lv_iload X.1 X.2.1 dX10_count_27 (lv_at hl 5 rfl) ?_
      refine lv_iload_n X.1 X.2.1 dX10_count_29 rfl (lv_at hl 3 rfl) ?_
      refine lv_icmp_lt (tgt := 54) X.1 X.2.1 dX10_count_30 (by decide) (fun c_30 => ?_) (fun c_30 => ?_)
      · refine lv_iconst (v := 0) X.1 X.2.1 dX10_count_54 (by decide) ?_
        refine lv_istore (lv' := [(8, .int 0), (7, .int 0), (0, .ref y), (1, .int c), (2, .int a), (3, .int b), (4, .int p), (5, .int q), (6, .int k)]) X.1 X.2.1 dX10_count_55 hl (by decide) rfl (fun ls hl => ?_)
        refine lv_aload_n X.1 X.2.1 dX10_count_57 rfl (lv_at hl 2 rfl) ?_
        refine lv_iload X.1 X.2.1 dX10_count_58 (lv_at hl 1 rfl) ?_
        refine lv_if_ne (x := 0) (tgt := 67) X.1 X.2.1 dX10_count_60 (by decide) (fun c_60 => by first | exact absurd c_60 (by decide) | exact absurd (by decide) c_60) (fun c_60 => ?_)
        refine lv_iconst (v := 1) X.1 X.2.1 dX10_count_63 (by decide) ?_
        refine lv_goto (tgt := 77) X.1 X.2.1 dX10_count_64 (by decide) ?_
        refine call_i (run_V X S (n_can l G f y A (nI (st 0 0)) (nI (st 0 4)) (nI (st 0 1)) (nI (st 0 2)) (nI (st 0 3)) thr hy 1 (by omega)) 1 gX10_count_X10_can rfl rfl rfl (by decide +kernel) ⟨(by exact Nat.le_of_ble_eq_true rfl), (by exact Nat.le_of_ble_eq_true rfl)⟩ ⟨_, _, hy⟩ rfl rfl rfl hl.1 rfl (by exact Nat.le_of_ble_eq_true rfl) dX10_count_77 ⟨(by exact Nat.le_of_ble_eq_true rfl), (by exact Nat.le_of_ble_eq_true rfl)⟩) S (fun r_77 f_77 H locs hr_77 S => ?_)
        obtain ⟨rfl, e_can⟩ := hr_77
        have hy_77 : f_77 y = some (1000, .inr (10, [.ref (A 1), .int (nI (st 0 0)), .ref (A 2), .ref (A 3), .ref (A 5), .ref (A 7), .int (nI (st 0 4)), .int (nI (st 0 1)), .int (nI (st 0 2)), .ref (A 9), .int (nI (st 0 3)), .ref (A 10), .ref (A 11), .int (nI 1)])) := by rw [e_can]; exact wu_self _ _ _ _
        have mm_77 : md tM f f_77 := by rw [e_can]; exact md_tr mm0 (md_put hy) (fun _ q => q) (fun t q => by subst q; unfold tM; omega)
        have hM0 : RMx G f_77 st y A V VL (nI 1) := by rw [e_can]; exact RMx_thr hM
        refine r_toi (y := 0) (by rfl) ?_
        have hKC : (k2 (eyeP st c a b p q) (inI k 1 7 ∧ ordP a b p q)) = 1 := k2_1 (fun z => by first | exact dF c_5 z.1 | exact dF c_17 z.2)
        refine lv_if_eq (x := 0) (tgt := 99) X.1 X.2.1 dX10_count_80 (by decide) (fun c_80 => ?_) (fun c_80 => by first | exact absurd c_80 (by decide) | exact absurd (by decide) c_80)
        refine lv_iconst (v := 0) X.1 X.2.1 dX10_count_99 (by decide) ?_
        refine e_i X hr S (Nat.le_of_ble_eq_true rfl) (Nat.le_of_ble_eq_true rfl) dX10_count_100 ?_
        rw [hKC]
        exact ⟨⟨A, V, VL, hM0⟩, mm_77, fun z => absurd z (by decide)⟩
      · refine lv_iload X.1 X.2.1 dX10_count_33 (lv_at hl 6 rfl) ?_
        refine lv_iload_n X.1 X.2.1 dX10_count_35 rfl (lv_at hl 4 rfl) ?_
        refine lv_icmp_lt (tgt := 54) X.1 X.2.1 dX10_count_36 (by decide) (fun c_36 => ?_) (fun c_36 => ?_)
        · refine lv_iconst (v := 0) X.1 X.2.1 dX10_count_54 (by decide) ?_
          refine lv_istore (lv' := [(8, .int 0), (7, .int 0), (0, .ref y), (1, .int c), (2, .int a), (3, .int b), (4, .int p), (5, .int q), (6, .int k)]) X.1 X.2.1 dX10_count_55 hl (by decide) rfl (fun ls hl => ?_)
          refine lv_aload_n X.1 X.2.1 dX10_count_57 rfl (lv_at hl 2 rfl) ?_
          refine lv_iload X.1 X.2.1 dX10_count_58 (lv_at hl 1 rfl) ?_
          refine lv_if_ne (x := 0) (tgt := 67) X.1 X.2.1 dX10_count_60 (by decide) (fun c_60 => by first | exact absurd c_60 (by decide) | exact absurd (by decide) c_60) (fun c_60 => ?_)
          refine lv_iconst (v := 1) X.1 X.2.1 dX10_count_63 (by decide) ?_
          refine lv_goto (tgt := 77) X.1 X.2.1 dX10_count_64 (by decide) ?_
          refine call_i (run_V X S (n_can l G f y A (nI (st 0 0)) (nI (st 0 4)) (nI (st 0 1)) (nI (st 0 2)) (nI (st 0 3)) thr hy 1 (by omega)) 1 gX10_count_X10_can rfl rfl rfl (by decide +kernel) ⟨(by exact Nat.le_of_ble_eq_true rfl), (by exact Nat.le_of_ble_eq_true rfl)⟩ ⟨_, _, hy⟩ rfl rfl rfl hl.1 rfl (by exact Nat.le_of_ble_eq_true rfl) dX10_count_77 ⟨(by exact Nat.le_of_ble_eq_true rfl), (by exact Nat.le_of_ble_eq_true rfl)⟩) S (fun r_77 f_77 H locs hr_77 S => ?_)
          obtain ⟨rfl, e_can⟩ := hr_77
          have hy_77 : f_77 y = some (1000, .inr (10, [.ref (A 1), .int (nI (st 0 0)), .ref (A 2), .ref (A 3), .ref (A 5), .ref (A 7), .int (nI (st 0 4)), .int (nI (st 0 1)), .int (nI (st 0 2)), .ref (A 9), .int (nI (st 0 3)), .ref (A 10), .ref (A 11), .int (nI 1)])) := by rw [e_can]; exact wu_self _ _ _ _
          have mm_77 : md tM f f_77 := by rw [e_can]; exact md_tr mm0 (md_put hy) (fun _ q => q) (fun t q => by subst q; unfold tM; omega)
          have hM0 : RMx G f_77 st y A V VL (nI 1) := by rw [e_can]; exact RMx_thr hM
          refine r_toi (y := 0) (by rfl) ?_
          have hKC : (k2 (eyeP st c a b p q) (inI k 1 7 ∧ ordP a b p q)) = 1 := k2_1 (fun z => by first | exact dF c_5 z.1 | exact dF c_17 z.2)
          refine lv_if_eq (x := 0) (tgt := 99) X.1 X.2.1 dX10_count_80 (by decide) (fun c_80 => ?_) (fun c_80 => by first | exact absurd c_80 (by decide) | exact absurd (by decide) c_80)
          refine lv_iconst (v := 0) X.1 X.2.1 dX10_count_99 (by decide) ?_
          refine e_i X hr S (Nat.le_of_ble_eq_true rfl) (Nat.le_of_ble_eq_true rfl) dX10_count_100 ?_
          rw [hKC]
          exact ⟨⟨A, V, VL, hM0⟩, mm_77, fun z => absurd z (by decide)⟩
        · refine lv_iload X.1 X.2.1 dX10_count_39 (lv_at hl 7 rfl) ?_
          refine lv_iconst (v := 1) X.1 X.2.1 dX10_count_41 (by decide) ?_
          refine lv_bipush (v := 7) X.1 X.2.1 dX10_count_42 (by decide) ?_
          refine call_ip (run_S X S (n_isIn l G f k 1 7 1 7 (by decide) (by decide)) 3 gX10_count_X10_isIn rfl rfl rfl (by decide +kernel) ⟨(by exact Nat.le_of_ble_eq_true rfl), (by exact Nat.le_of_ble_eq_true rfl)⟩ rfl hl.1 rfl (by exact Nat.le_of_ble_eq_true rfl) dX10_count_44 ⟨(Nat.zero_le _), (Nat.zero_le _)⟩) S (fun r_44 H locs hr_44 S => ?_)
          subst hr_44
          refine r_eqB (tgt := 54) X dX10_count_47 (by decide) (fun c_47 => ?_) (fun c_47 => ?_)
          · refine lv_iconst (v := 0) X.1 X.2.1 dX10_count_54 (by decide) ?_
            refine lv_istore (lv' := [(8, .int 0), (7, .int 0), (0, .ref y), (1, .int c), (2, .int a), (3, .int b), (4, .int p), (5, .int q), (6, .int k)]) X.1 X.2.1 dX10_count_55 hl (by decide) rfl (fun ls hl => ?_)
            refine lv_aload_n X.1 X.2.1 dX10_count_57 rfl (lv_at hl 2 rfl) ?_
            refine lv_iload X.1 X.2.1 dX10_count_58 (lv_at hl 1 rfl) ?_
            refine lv_if_ne (x := 0) (tgt := 67) X.1 X.2.1 dX10_count_60 (by decide) (fun c_60 => by first | exact absurd c_60 (by decide) | exact absurd (by decide) c_60) (fun c_60 => ?_)
            refine lv_iconst (v := 1) X.1 X.2.1 dX10_count_63 (by decide) ?_
            refine lv_goto (tgt := 77) X.1 X.2.1 dX10_count_64 (by decide) ?_
            refine call_i (run_V X S (n_can l G f y A (nI (st 0 0)) (nI (st 0 4)) (nI (st 0 1)) (nI (st 0 2)) (nI (st 0 3)) thr hy 1 (by omega)) 1 gX10_count_X10_can rfl rfl rfl (by decide +kernel) ⟨(by exact Nat.le_of_ble_eq_true rfl), (by exact Nat.le_of_ble_eq_true rfl)⟩ ⟨_, _, hy⟩ rfl rfl rfl hl.1 rfl (by exact Nat.le_of_ble_eq_true rfl) dX10_count_77 ⟨(by exact Nat.le_of_ble_eq_true rfl), (by exact Nat.le_of_ble_eq_true rfl)⟩) S (fun r_77 f_77 H locs hr_77 S => ?_)
            obtain ⟨rfl, e_can⟩ := hr_77
            have hy_77 : f_77 y = some (1000, .inr (10, [.ref (A 1), .int (nI (st 0 0)), .ref (A 2), .ref (A 3), .ref (A 5), .ref (A 7), .int (nI (st 0 4)), .int (nI (st 0 1)), .int (nI (st 0 2)), .ref (A 9), .int (nI (st 0 3)), .ref (A 10), .ref (A 11), .int (nI 1)])) := by rw [e_can]; exact wu_self _ _ _ _
            have mm_77 : md tM f f_77 := by rw [e_can]; exact md_tr mm0 (md_put hy) (fun _ q => q) (fun t q => by subst q; unfold tM; omega)
            have hM0 : RMx G f_77 st y A V VL (nI 1) := by rw [e_can]; exact RMx_thr hM
            refine r_toi (y := 0) (by rfl) ?_
            have hKC : (k2 (eyeP st c a b p q) (inI k 1 7 ∧ ordP a b p q)) = 1 := k2_1 (fun z => by first | exact dF c_5 z.1 | exact dF c_17 z.2)
            refine lv_if_eq (x := 0) (tgt := 99) X.1 X.2.1 dX10_count_80 (by decide) (fun c_80 => ?_) (fun c_80 => by first | exact absurd c_80 (by decide) | exact absurd (by decide) c_80)
            refine lv_iconst (v := 0) X.1 X.2.1 dX10_count_99 (by decide) ?_
            refine e_i X hr S (Nat.le_of_ble_eq_true rfl) (Nat.le_of_ble_eq_true rfl) dX10_count_100 ?_
            rw [hKC]
            exact ⟨⟨A, V, VL, hM0⟩, mm_77, fun z => absurd z (by decide)⟩
          · refine lv_iconst (v := 1) X.1 X.2.1 dX10_count_50 (by decide) ?_
            refine lv_goto (tgt := 55) X.1 X.2.1 dX10_count_51 (by decide) ?_
            refine lv_istore (lv' := [(8, .int 1), (7, .int 0), (0, .ref y), (1, .int c), (2, .int a), (3, .int b), (4, .int p), (5, .int q), (6, .int k)]) X.1 X.2.1 dX10_count_55 hl (by decide) rfl (fun ls hl => ?_)
            refine lv_aload_n X.1 X.2.1 dX10_count_57 rfl (lv_at hl 2 rfl) ?_
            refine lv_iload X.1 X.2.1 dX10_count_58 (lv_at hl 1 rfl) ?_
            refine lv_if_ne (x := 0) (tgt := 67) X.1 X.2.1 dX10_count_60 (by decide) (fun c_60 => by first | exact absurd c_60 (by decide) | exact absurd (by decide) c_60) (fun c_60 => ?_)
            refine lv_iconst (v := 1) X.1 X.2.1 dX10_count_63 (by decide) ?_
            refine lv_goto (tgt := 77) X.1 X.2.1 dX10_count_64 (by decide) ?_
            refine call_i (run_V X S (n_can l G f y A (nI (st 0 0)) (nI (st 0 4)) (nI (st 0 1)) (nI (st 0 2)) (nI (st 0 3)) thr hy 1 (by omega)) 1 gX10_count_X10_can rfl rfl rfl (by decide +kernel) ⟨(by exact Nat.le_of_ble_eq_true rfl), (by exact Nat.le_of_ble_eq_true rfl)⟩ ⟨_, _, hy⟩ rfl rfl rfl hl.1 rfl (by exact Nat.le_of_ble_eq_true rfl) dX10_count_77 ⟨(by exact Nat.le_of_ble_eq_true rfl), (by exact Nat.le_of_ble_eq_true rfl)⟩) S (fun r_77 f_77 H locs hr_77 S => ?_)
            obtain ⟨rfl, e_can⟩ := hr_77
            have hy_77 : f_77 y = some (1000, .inr (10, [.ref (A 1), .int (nI (st 0 0)), .ref (A 2), .ref (A 3), .ref (A 5), .ref (A 7), .int (nI (st 0 4)), .int (nI (st 0 1)), .int (nI (st 0 2)), .ref (A 9), .int (nI (st 0 3)), .ref (A 10), .ref (A 11), .int (nI 1)])) := by rw [e_can]; exact wu_self _ _ _ _
            have mm_77 : md tM f f_77 := by rw [e_can]; exact md_tr mm0 (md_put hy) (fun _ q => q) (fun t q => by subst q; unfold tM; omega)
            have hM0 : RMx G f_77 st y A V VL (nI 1) := by rw [e_can]; exact RMx_thr hM
            refine r_toi (y := 0) (by rfl) ?_
            have hKC : (k2 (eyeP st c a b p q) (inI k 1 7 ∧ ordP a b p q)) = 1 := k2_1 (fun z => by first | exact dF c_5 z.1 | exact dF c_17 z.2)
            refine lv_if_eq (x := 0) (tgt := 99) X.1 X.2.1 dX10_count_80 (by decide) (fun c_80 => ?_) (fun c_80 => by first | exact absurd c_80 (by decide) | exact absurd (by decide) c_80)
            refine lv_iconst (v := 0) X.1 X.2.1 dX10_count_99 (by decide) ?_
            refine e_i X hr S (Nat.le_of_ble_eq_true rfl) (Nat.le_of_ble_eq_true rfl) dX10_count_100 ?_
            rw [hKC]
            exact ⟨⟨A, V, VL, hM0⟩, mm_77, fun z => absurd z (by decide)⟩
    · refine lv_iconst (v := 1) X.1 X.2.1 dX10_count_20 (by decide) ?_
      refine lv_goto (tgt := 25) X.1 X.2.1 dX10_count_21 (by decide) ?_
      refine lv_istore (lv' := [(7, .int 1), (0, .ref y), (1, .int c), (2, .int a), (3, .int b), (4, .int p), (5, .int q), (6, .int k)]) X.1 X.2.1 dX10_count_25 hl (by decide) rfl (fun ls hl => ?_)
      refine lv_iload X.1 X.2.1 dX10_count_27 (lv_at hl 5 rfl) ?_
      refine lv_iload_n X.1 X.2.1 dX10_count_29 rfl (lv_at hl 3 rfl) ?_
      refine lv_icmp_lt (tgt := 54) X.1 X.2.1 dX10_count_30 (by decide) (fun c_30 => ?_) (fun c_30 => ?_)
      · refine lv_iconst (v := 0) X.1 X.2.1 dX10_count_54 (by decide) ?_
        refine lv_istore (lv' := [(8, .int 0), (7, .int 1), (0, .ref y), (1, .int c), (2, .int a), (3, .int b), (4, .int p), (5, .int q), (6, .int k)]) X.1 X.2.1 dX10_count_55 hl (by decide) rfl (fun ls hl => ?_)
        refine lv_aload_n X.1 X.2.1 dX10_count_57 rfl (lv_at hl 2 rfl) ?_
        refine lv_iload X.1 X.2.1 dX10_count_58 (lv_at hl 1 rfl) ?_
        refine lv_if_ne (x := 1) (tgt := 67) X.1 X.2.1 dX10_count_60 (by decide) (fun c_60 => ?_) (fun c_60 => by first | exact absurd c_60 (by decide) | exact absurd (by decide) c_60)
        refine lv_iload X.1 X.2.1 dX10_count_67 (lv_at hl 0 rfl) ?_
        refine lv_if_eq (x := 0) (tgt := 76) X.1 X.2.1 dX10_count_69 (by decide) (fun c_69 => ?_) (fun c_69 => by first | exact absurd c_69 (by decide) | exact absurd (by decide) c_69)
        refine lv_iconst (v := 2) X.1 X.2.1 dX10_count_76 (by decide) ?_
        refine call_i (run_V X S (n_can l G f y A (nI (st 0 0)) (nI (st 0 4)) (nI (st 0 1)) (nI (st 0 2)) (nI (st 0 3)) thr hy 2 (by omega)) 1 gX10_count_X10_can rfl rfl rfl (by decide +kernel) ⟨(by exact Nat.le_of_ble_eq_true rfl), (by exact Nat.le_of_ble_eq_true rfl)⟩ ⟨_, _, hy⟩ rfl rfl rfl hl.1 rfl (by exact Nat.le_of_ble_eq_true rfl) dX10_count_77 ⟨(by exact Nat.le_of_ble_eq_true rfl), (by exact Nat.le_of_ble_eq_true rfl)⟩) S (fun r_77 f_77 H locs hr_77 S => ?_)
        obtain ⟨rfl, e_can⟩ := hr_77
        have hy_77 : f_77 y = some (1000, .inr (10, [.ref (A 1), .int (nI (st 0 0)), .ref (A 2), .ref (A 3), .ref (A 5), .ref (A 7), .int (nI (st 0 4)), .int (nI (st 0 1)), .int (nI (st 0 2)), .ref (A 9), .int (nI (st 0 3)), .ref (A 10), .ref (A 11), .int (nI 2)])) := by rw [e_can]; exact wu_self _ _ _ _
        have mm_77 : md tM f f_77 := by rw [e_can]; exact md_tr mm0 (md_put hy) (fun _ q => q) (fun t q => by subst q; unfold tM; omega)
        have hM0 : RMx G f_77 st y A V VL (nI 2) := by rw [e_can]; exact RMx_thr hM
        refine r_toi (y := 0) (by rfl) ?_
        have hKC : (k2 (eyeP st c a b p q) (inI k 1 7 ∧ ordP a b p q)) = 2 := k2_2 ⟨dT c_5, dT c_17⟩ (fun z => by first | exact dF c_47 z.1 | (rw [i_lt] at c_30; have := z.2.1; omega) | (rw [i_lt] at c_36; have := z.2.2; omega))
        refine lv_if_eq (x := 0) (tgt := 99) X.1 X.2.1 dX10_count_80 (by decide) (fun c_80 => ?_) (fun c_80 => by first | exact absurd c_80 (by decide) | exact absurd (by decide) c_80)
        refine lv_iconst (v := 0) X.1 X.2.1 dX10_count_99 (by decide) ?_
        refine e_i X hr S (Nat.le_of_ble_eq_true rfl) (Nat.le_of_ble_eq_true rfl) dX10_count_100 ?_
        rw [hKC]
        exact ⟨⟨A, V, VL, hM0⟩, mm_77, fun z => absurd z (by decide)⟩
      · refine lv_iload X.1 X.2.1 dX10_count_33 (lv_at hl 6 rfl) ?_
        refine lv_iload_n X.1 X.2.1 dX10_count_35 rfl (lv_at hl 4 rfl) ?_
        refine lv_icmp_lt (tgt := 54) X.1 X.2.1 dX10_count_36 (by decide) (fun c_36 => ?_) (fun c_36 => ?_)
        · refine lv_iconst (v := 0) X.1 X.2.1 dX10_count_54 (by decide) ?_
          refine lv_istore (lv' := [(8, .int 0), (7, .int 1), (0, .ref y), (1, .int c), (2, .int a), (3, .int b), (4, .int p), (5, .int q), (6, .int k)]) X.1 X.2.1 dX10_count_55 hl (by decide) rfl (fun ls hl => ?_)
          refine lv_aload_n X.1 X.2.1 dX10_count_57 rfl (lv_at hl 2 rfl) ?_
          refine lv_iload X.1 X.2.1 dX10_count_58 (lv_at hl 1 rfl) ?_
          refine lv_if_ne (x := 1) (tgt := 67) X.1 X.2.1 dX10_count_60 (by decide) (fun c_60 => ?_) (fun c_60 => by first | exact absurd c_60 (by decide) | exact absurd (by decide) c_60)
          refine lv_iload X.1 X.2.1 dX10_count_67 (lv_at hl 0 rfl) ?_
          refine lv_if_eq (x := 0) (tgt := 76) X.1 X.2.1 dX10_count_69 (by decide) (fun c_69 => ?_) (fun c_69 => by first | exact absurd c_69 (by decide) | exact absurd (by decide) c_69)
          refine lv_iconst (v := 2) X.1 X.2.1 dX10_count_76 (by decide) ?_
          refine call_i (run_V X S (n_can l G f y A (nI (st 0 0)) (nI (st 0 4)) (nI (st 0 1)) (nI (st 0 2)) (nI (st 0 3)) thr hy 2 (by omega)) 1 gX10_count_X10_can rfl rfl rfl (by decide +kernel) ⟨(by exact Nat.le_of_ble_eq_true rfl), (by exact Nat.le_of_ble_eq_true rfl)⟩ ⟨_, _, hy⟩ rfl rfl rfl hl.1 rfl (by exact Nat.le_of_ble_eq_true rfl) dX10_count_77 ⟨(by exact Nat.le_of_ble_eq_true rfl), (by exact Nat.le_of_ble_eq_true rfl)⟩) S (fun r_77 f_77 H locs hr_77 S => ?_)
          obtain ⟨rfl, e_can⟩ := hr_77
          have hy_77 : f_77 y = some (1000, .inr (10, [.ref (A 1), .int (nI (st 0 0)), .ref (A 2), .ref (A 3), .ref (A 5), .ref (A 7), .int (nI (st 0 4)), .int (nI (st 0 1)), .int (nI (st 0 2)), .ref (A 9), .int (nI (st 0 3)), .ref (A 10), .ref (A 11), .int (nI 2)])) := by rw [e_can]; exact wu_self _ _ _ _
          have mm_77 : md tM f f_77 := by rw [e_can]; exact md_tr mm0 (md_put hy) (fun _ q => q) (fun t q => by subst q; unfold tM; omega)
          have hM0 : RMx G f_77 st y A V VL (nI 2) := by rw [e_can]; exact RMx_thr hM
          refine r_toi (y := 0) (by rfl) ?_
          have hKC : (k2 (eyeP st c a b p q) (inI k 1 7 ∧ ordP a b p q)) = 2 := k2_2 ⟨dT c_5, dT c_17⟩ (fun z => by first | exact dF c_47 z.1 | (rw [i_lt] at c_30; have := z.2.1; omega) | (rw [i_lt] at c_36; have := z.2.2; omega))
          refine lv_if_eq (x := 0) (tgt := 99) X.1 X.2.1 dX10_count_80 (by decide) (fun c_80 => ?_) (fun c_80 => by first | exact absurd c_80 (by decide) | exact absurd (by decide) c_80)
          refine lv_iconst (v := 0) X.1 X.2.1 dX10_count_99 (by decide) ?_
          refine e_i X hr S (Nat.le_of_ble_eq_true rfl) (Nat.le_of_ble_eq_true rfl) dX10_count_100 ?_
          rw [hKC]
          exact ⟨⟨A, V, VL, hM0⟩, mm_77, fun z => absurd z (by decide)⟩
        · refine lv_iload X.1 X.2.1 dX10_count_39 (lv_at hl 7 rfl) ?_
          refine lv_iconst (v := 1) X.1 X.2.1 dX10_count_41 (by decide) ?_
          refine lv_bipush (v := 7) X.1 X.2.1 dX10_count_42 (by decide) ?_
          refine call_ip (run_S X S (n_isIn l G f k 1 7 1 7 (by decide) (by decide)) 3 gX10_count_X10_isIn rfl rfl rfl (by decide +kernel) ⟨(by exact Nat.le_of_ble_eq_true rfl), (by exact Nat.le_of_ble_eq_true rfl)⟩ rfl hl.1 rfl (by exact Nat.le_of_ble_eq_true rfl) dX10_count_44 ⟨(Nat.zero_le _), (Nat.zero_le _)⟩) S (fun r_44 H locs hr_44 S => ?_)
          subst hr_44
          refine r_eqB (tgt := 54) X dX10_count_47 (by decide) (fun c_47 => ?_) (fun c_47 => ?_)
          · refine lv_iconst (v := 0) X.1 X.2.1 dX10_count_54 (by decide) ?_
            refine lv_istore (lv' := [(8, .int 0), (7, .int 1), (0, .ref y), (1, .int c), (2, .int a), (3, .int b), (4, .int p), (5, .int q), (6, .int k)]) X.1 X.2.1 dX10_count_55 hl (by decide) rfl (fun ls hl => ?_)
            refine lv_aload_n X.1 X.2.1 dX10_count_57 rfl (lv_at hl 2 rfl) ?_
            refine lv_iload X.1 X.2.1 dX10_count_58 (lv_at hl 1 rfl) ?_
            refine lv_if_ne (x := 1) (tgt := 67) X.1 X.2.1 dX10_count_60 (by decide) (fun c_60 => ?_) (fun c_60 => by first | exact absurd c_60 (by decide) | exact absurd (by decide) c_60)
            refine lv_iload X.1 X.2.1 dX10_count_67 (lv_at hl 0 rfl) ?_
            refine lv_if_eq (x := 0) (tgt := 76) X.1 X.2.1 dX10_count_69 (by decide) (fun c_69 => ?_) (fun c_69 => by first | exact absurd c_69 (by decide) | exact absurd (by decide) c_69)
            refine lv_iconst (v := 2) X.1 X.2.1 dX10_count_76 (by decide) ?_
            refine call_i (run_V X S (n_can l G f y A (nI (st 0 0)) (nI (st 0 4)) (nI (st 0 1)) (nI (st 0 2)) (nI (st 0 3)) thr hy 2 (by omega)) 1 gX10_count_X10_can rfl rfl rfl (by decide +kernel) ⟨(by exact Nat.le_of_ble_eq_true rfl), (by exact Nat.le_of_ble_eq_true rfl)⟩ ⟨_, _, hy⟩ rfl rfl rfl hl.1 rfl (by exact Nat.le_of_ble_eq_true rfl) dX10_count_77 ⟨(by exact Nat.le_of_ble_eq_true rfl), (by exact Nat.le_of_ble_eq_true rfl)⟩) S (fun r_77 f_77 H locs hr_77 S => ?_)
            obtain ⟨rfl, e_can⟩ := hr_77
            have hy_77 : f_77 y = some (1000, .inr (10, [.ref (A 1), .int (nI (st 0 0)), .ref (A 2), .ref (A 3), .ref (A 5), .ref (A 7), .int (nI (st 0 4)), .int (nI (st 0 1)), .int (nI (st 0 2)), .ref (A 9), .int (nI (st 0 3)), .ref (A 10), .ref (A 11), .int (nI 2)])) := by rw [e_can]; exact wu_self _ _ _ _
            have mm_77 : md tM f f_77 := by rw [e_can]; exact md_tr mm0 (md_put hy) (fun _ q => q) (fun t q => by subst q; unfold tM; omega)
            have hM0 : RMx G f_77 st y A V VL (nI 2) := by rw [e_can]; exact RMx_thr hM
            refine r_toi (y := 0) (by rfl) ?_
            have hKC : (k2 (eyeP st c a b p q) (inI k 1 7 ∧ ordP a b p q)) = 2 := k2_2 ⟨dT c_5, dT c_17⟩ (fun z => by first | exact dF c_47 z.1 | (rw [i_lt] at c_30; have := z.2.1; omega) | (rw [i_lt] at c_36; have := z.2.2; omega))
            refine lv_if_eq (x := 0) (tgt := 99) X.1 X.2.1 dX10_count_80 (by decide) (fun c_80 => ?_) (fun c_80 => by first | exact absurd c_80 (by decide) | exact absurd (by decide) c_80)
            refine lv_iconst (v := 0) X.1 X.2.1 dX10_count_99 (by decide) ?_
            refine e_i X hr S (Nat.le_of_ble_eq_true rfl) (Nat.le_of_ble_eq_true rfl) dX10_count_100 ?_
            rw [hKC]
            exact ⟨⟨A, V, VL, hM0⟩, mm_77, fun z => absurd z (by decide)⟩
          · refine lv_iconst (v := 1) X.1 X.2.1 dX10_count_50 (by decide) ?_
            refine lv_goto (tgt := 55) X.1 X.2.1 dX10_count_51 (by decide) ?_
            refine lv_istore (lv' := [(8, .int 1), (7, .int 1), (0, .ref y), (1, .int c), (2, .int a), (3, .int b), (4, .int p), (5, .int q), (6, .int k)]) X.1 X.2.1 dX10_count_55 hl (by decide) rfl (fun ls hl => ?_)
            refine lv_aload_n X.1 X.2.1 dX10_count_57 rfl (lv_at hl 2 rfl) ?_
            refine lv_iload X.1 X.2.1 dX10_count_58 (lv_at hl 1 rfl) ?_
            refine lv_if_ne (x := 1) (tgt := 67) X.1 X.2.1 dX10_count_60 (by decide) (fun c_60 => ?_) (fun c_60 => by first | exact absurd c_60 (by decide) | exact absurd (by decide) c_60)
            refine lv_iload X.1 X.2.1 dX10_count_67 (lv_at hl 0 rfl) ?_
            refine lv_if_eq (x := 1) (tgt := 76) X.1 X.2.1 dX10_count_69 (by decide) (fun c_69 => by first | exact absurd c_69 (by decide) | exact absurd (by decide) c_69) (fun c_69 => ?_)
            refine lv_iconst (v := 0) X.1 X.2.1 dX10_count_72 (by decide) ?_
            refine lv_goto (tgt := 77) X.1 X.2.1 dX10_count_73 (by decide) ?_
            refine call_i (run_V X S (n_can l G f y A (nI (st 0 0)) (nI (st 0 4)) (nI (st 0 1)) (nI (st 0 2)) (nI (st 0 3)) thr hy 0 (by omega)) 1 gX10_count_X10_can rfl rfl rfl (by decide +kernel) ⟨(by exact Nat.le_of_ble_eq_true rfl), (by exact Nat.le_of_ble_eq_true rfl)⟩ ⟨_, _, hy⟩ rfl rfl rfl hl.1 rfl (by exact Nat.le_of_ble_eq_true rfl) dX10_count_77 ⟨(by exact Nat.le_of_ble_eq_true rfl), (by exact Nat.le_of_ble_eq_true rfl)⟩) S (fun r_77 f_77 H locs hr_77 S => ?_)
            obtain ⟨rfl, e_can⟩ := hr_77
            have hy_77 : f_77 y = some (1000, .inr (10, [.ref (A 1), .int (nI (st 0 0)), .ref (A 2), .ref (A 3), .ref (A 5), .ref (A 7), .int (nI (st 0 4)), .int (nI (st 0 1)), .int (nI (st 0 2)), .ref (A 9), .int (nI (st 0 3)), .ref (A 10), .ref (A 11), .int (nI 0)])) := by rw [e_can]; exact wu_self _ _ _ _
            have mm_77 : md tM f f_77 := by rw [e_can]; exact md_tr mm0 (md_put hy) (fun _ q => q) (fun t q => by subst q; unfold tM; omega)
            have hM0 : RMx G f_77 st y A V VL (nI 0) := by rw [e_can]; exact RMx_thr hM
            refine r_toi (y := 1) (by rfl) ?_
            have hP1 : (eyeP st c a b p q) := ⟨dT c_5, dT c_17⟩
            have hP2 : inI k 1 7 ∧ ordP a b p q := ⟨dT c_47, by rw [i_lt] at c_30 c_36; exact ⟨by omega, by omega⟩⟩
            have hKC : (k2 (eyeP st c a b p q) (inI k 1 7 ∧ ordP a b p q)) = 0 := k2_0 hP1 hP2
            obtain ⟨c1, rfl, clo, cup, cbd⟩ := inI_sub hP1.1 (by omega)
            have nc : nN (nI c1) = c1 := nN_nI cbd
            obtain ⟨a1, rfl, alo, aup, abd⟩ := inI_sub hP1.2.1.1 (by omega)
            have na : nN (nI a1) = a1 := nN_nI abd
            obtain ⟨b1, rfl, blo, bup, bbd⟩ := inI_sub hP1.2.1.2 (by omega)
            have nb : nN (nI b1) = b1 := nN_nI bbd
            obtain ⟨p1, rfl, plo, pup, pbd⟩ := inI_sub hP1.2.2.1 (by omega)
            have np : nN (nI p1) = p1 := nN_nI pbd
            obtain ⟨q1, rfl, qlo, qup, qbd⟩ := inI_sub hP1.2.2.2 (by omega)
            have nq : nN (nI q1) = q1 := nN_nI qbd
            obtain ⟨k1, rfl, klo, kup, kbd⟩ := inI_sub hP2.1 (by omega)
            have nk : nN (nI k1) = k1 := nN_nI kbd
            refine lv_if_eq (x := 1) (tgt := 99) X.1 X.2.1 dX10_count_80 (by decide) (fun c_80 => by first | exact absurd c_80 (by decide) | exact absurd (by decide) c_80) (fun c_80 => ?_)
            refine lv_aload_n X.1 X.2.1 dX10_count_83 rfl (lv_at hl 2 rfl) ?_
            refine lv_iload_n X.1 X.2.1 dX10_count_84 rfl (lv_at hl 3 rfl) ?_
            refine lv_iload_n X.1 X.2.1 dX10_count_85 rfl (lv_at hl 4 rfl) ?_
            refine lv_iload_n X.1 X.2.1 dX10_count_86 rfl (lv_at hl 5 rfl) ?_
            refine lv_iload X.1 X.2.1 dX10_count_87 (lv_at hl 6 rfl) ?_
            refine lv_iload X.1 X.2.1 dX10_count_89 (lv_at hl 7 rfl) ?_
            refine lv_iload X.1 X.2.1 dX10_count_91 (lv_at hl 8 rfl) ?_
            refine call_ip (run_V X S (n_counts l G f_77 st y A V VL (nI 0) hI hM0 c1 a1 b1 p1 q1 k1 (by omega) (by omega) (by omega) (by omega) (by omega) (by omega)) 6 gX10_count_X10_counts rfl rfl rfl (by decide +kernel) ⟨(by exact Nat.le_of_ble_eq_true rfl), (by exact Nat.le_of_ble_eq_true rfl)⟩ ⟨_, _, hy_77⟩ rfl rfl rfl hl.1 rfl (by exact Nat.le_of_ble_eq_true rfl) dX10_count_93 ⟨(Nat.zero_le _), (Nat.zero_le _)⟩) S (fun r_93 H locs hr_93 S => ?_)
            subst hr_93
            refine lv_goto (tgt := 100) X.1 X.2.1 dX10_count_96 (by decide) ?_
            refine e_i X hr S (Nat.le_of_ble_eq_true rfl) (Nat.le_of_ble_eq_true rfl) dX10_count_100 ?_
            rw [hKC]
            refine ⟨?_, mm_77, fun _ => ?_⟩
            · exact ⟨A, V, VL, hM0⟩
            · rw [nc, na, nb, np, nq, nk]

set_option maxRecDepth 100000 in
set_option maxHeartbeats 4000000 in
/-- whyNot -/
theorem n_whyNot (l : Launch) (G : cx_G) (f : Wd) (st : St) (y : Nat) (A : Nat → Nat) (V : Nat → Nat → Int32) (VL : Nat → Nat → Int64) (thr : Int32) (hI : sInv st) (hM : RMx G f st y A V VL thr) (c a b p q : Int32) : MI l G yX10_whyNot wsX10_whyNot 5 126 0 0 [.ref y, .int c, .int a, .int b, .int p, .int q] f (fun r f' => RM G f' (stp (k2 (eyeP st c a b p q) (ordP a b p q)) st st) y (nI (k2 (eyeP st c a b p q) (ordP a b p q))) ∧ md tM f f' ∧ ((k2 (eyeP st c a b p q) (ordP a b p q)) = 0 → r = nI (lackN st (densN st (nN c) (nN a) (nN b) (nN p) (nN q))))) := by
  refine cx_body (cc := cX10_whyNot) (n := 8) (ret := (some .int)) (by decide +kernel) rfl (Nat.le_of_ble_eq_true rfl) ?_
  intro p0 e0 s0 m0 b0 meth0 c0 ls X hr hnm S hl
  have X : cxC G p0 l _ c0 cX10_whyNot 8 m0 meth0 s0 _ RX10 wsX10_whyNot := X
  have hl : lv_has ls 8 [(0, .ref y), (1, .int c), (2, .int a), (3, .int b), (4, .int p), (5, .int q)] := hl
  obtain ⟨hi0, hi1, hi2, hi3, hi4, hi5, hi6, hi7⟩ := id hI
  obtain ⟨hy, ⟨hA1, hA2, hA3, hA5, hA7, hA9, hA10, hA11⟩, hv1, hvk, hv9, hvL⟩ := id hM
  have mm0 : md tM f f := md_rf _ _
  refine lv_aload_n X.1 X.2.1 dX10_whyNot_0 rfl (lv_at hl 0 rfl) ?_
  refine lv_iload_n X.1 X.2.1 dX10_whyNot_1 rfl (lv_at hl 1 rfl) ?_
  refine call_ip (run_V X S (n_isEye l G f y A (nI (st 0 0)) (nI (st 0 4)) (nI (st 0 1)) (nI (st 0 3)) thr (st 0 2) (by omega) hy c) 1 gX10_whyNot_X10_isEye rfl rfl rfl (by decide +kernel) ⟨(by exact Nat.le_of_ble_eq_true rfl), (by exact Nat.le_of_ble_eq_true rfl)⟩ ⟨_, _, hy⟩ rfl rfl rfl hl.1 rfl (by exact Nat.le_of_ble_eq_true rfl) dX10_whyNot_2 ⟨(Nat.zero_le _), (Nat.zero_le _)⟩) S (fun r_2 H locs hr_2 S => ?_)
  subst hr_2
  refine r_eqB (tgt := 24) X dX10_whyNot_5 (by decide) (fun c_5 => ?_) (fun c_5 => ?_)
  · refine lv_iconst (v := 0) X.1 X.2.1 dX10_whyNot_24 (by decide) ?_
    refine lv_istore (lv' := [(6, .int 0), (0, .ref y), (1, .int c), (2, .int a), (3, .int b), (4, .int p), (5, .int q)]) X.1 X.2.1 dX10_whyNot_25 hl (by decide) rfl (fun ls hl => ?_)
    refine lv_iload X.1 X.2.1 dX10_whyNot_27 (lv_at hl 5 rfl) ?_
    refine lv_iload_n X.1 X.2.1 dX10_whyNot_29 rfl (lv_at hl 3 rfl) ?_
    refine lv_icmp_lt (tgt := 43) X.1 X.2.1 dX10_whyNot_30 (by decide) (fun c_30 => ?_) (fun c_30 => ?_)
    · refine lv_iconst (v := 0) X.1 X.2.1 dX10_whyNot_43 (by decide) ?_
      refine lv_istore (lv' := [(7, .int 0), (6, .int 0), (0, .ref y), (1, .int c), (2, .int a), (3, .int b), (4, .int p), (5, .int q)]) X.1 X.2.1 dX10_whyNot_44 hl (by decide) rfl (fun ls hl => ?_)
      refine lv_aload_n X.1 X.2.1 dX10_whyNot_46 rfl (lv_at hl 2 rfl) ?_
      refine lv_iload X.1 X.2.1 dX10_whyNot_47 (lv_at hl 1 rfl) ?_
      refine lv_if_ne (x := 0) (tgt := 56) X.1 X.2.1 dX10_whyNot_49 (by decide) (fun c_49 => by first | exact absurd c_49 (by decide) | exact absurd (by decide) c_49) (fun c_49 => ?_)
      refine lv_iconst (v := 1) X.1 X.2.1 dX10_whyNot_52 (by decide) ?_
      refine lv_goto (tgt := 66) X.1 X.2.1 dX10_whyNot_53 (by decide) ?_
      refine call_i (run_V X S (n_can l G f y A (nI (st 0 0)) (nI (st 0 4)) (nI (st 0 1)) (nI (st 0 2)) (nI (st 0 3)) thr hy 1 (by omega)) 1 gX10_whyNot_X10_can rfl rfl rfl (by decide +kernel) ⟨(by exact Nat.le_of_ble_eq_true rfl), (by exact Nat.le_of_ble_eq_true rfl)⟩ ⟨_, _, hy⟩ rfl rfl rfl hl.1 rfl (by exact Nat.le_of_ble_eq_true rfl) dX10_whyNot_66 ⟨(by exact Nat.le_of_ble_eq_true rfl), (by exact Nat.le_of_ble_eq_true rfl)⟩) S (fun r_66 f_66 H locs hr_66 S => ?_)
      obtain ⟨rfl, e_can⟩ := hr_66
      have hy_66 : f_66 y = some (1000, .inr (10, [.ref (A 1), .int (nI (st 0 0)), .ref (A 2), .ref (A 3), .ref (A 5), .ref (A 7), .int (nI (st 0 4)), .int (nI (st 0 1)), .int (nI (st 0 2)), .ref (A 9), .int (nI (st 0 3)), .ref (A 10), .ref (A 11), .int (nI 1)])) := by rw [e_can]; exact wu_self _ _ _ _
      have mm_66 : md tM f f_66 := by rw [e_can]; exact md_tr mm0 (md_put hy) (fun _ q => q) (fun t q => by subst q; unfold tM; omega)
      have hM0 : RMx G f_66 st y A V VL (nI 1) := by rw [e_can]; exact RMx_thr hM
      refine r_toi (y := 0) (by rfl) ?_
      have hKC : (k2 (eyeP st c a b p q) (ordP a b p q)) = 1 := k2_1 (fun z => by first | exact dF c_5 z.1 | exact dF c_17 z.2)
      refine lv_if_eq (x := 0) (tgt := 86) X.1 X.2.1 dX10_whyNot_69 (by decide) (fun c_69 => ?_) (fun c_69 => by first | exact absurd c_69 (by decide) | exact absurd (by decide) c_69)
      refine lv_iconst (v := 0) X.1 X.2.1 dX10_whyNot_86 (by decide) ?_
      refine e_i X hr S (Nat.le_of_ble_eq_true rfl) (Nat.le_of_ble_eq_true rfl) dX10_whyNot_87 ?_
      rw [hKC]
      exact ⟨⟨A, V, VL, hM0⟩, mm_66, fun z => absurd z (by decide)⟩
    · refine lv_iload X.1 X.2.1 dX10_whyNot_33 (lv_at hl 6 rfl) ?_
      refine lv_iload_n X.1 X.2.1 dX10_whyNot_35 rfl (lv_at hl 4 rfl) ?_
      refine lv_icmp_lt (tgt := 43) X.1 X.2.1 dX10_whyNot_36 (by decide) (fun c_36 => ?_) (fun c_36 => ?_)
      · refine lv_iconst (v := 0) X.1 X.2.1 dX10_whyNot_43 (by decide) ?_
        refine lv_istore (lv' := [(7, .int 0), (6, .int 0), (0, .ref y), (1, .int c), (2, .int a), (3, .int b), (4, .int p), (5, .int q)]) X.1 X.2.1 dX10_whyNot_44 hl (by decide) rfl (fun ls hl => ?_)
        refine lv_aload_n X.1 X.2.1 dX10_whyNot_46 rfl (lv_at hl 2 rfl) ?_
        refine lv_iload X.1 X.2.1 dX10_whyNot_47 (lv_at hl 1 rfl) ?_
        refine lv_if_ne (x := 0) (tgt := 56) X.1 X.2.1 dX10_whyNot_49 (by decide) (fun c_49 => by first | exact absurd c_49 (by decide) | exact absurd (by decide) c_49) (fun c_49 => ?_)
        refine lv_iconst (v := 1) X.1 X.2.1 dX10_whyNot_52 (by decide) ?_
        refine lv_goto (tgt := 66) X.1 X.2.1 dX10_whyNot_53 (by decide) ?_
        refine call_i (run_V X S (n_can l G f y A (nI (st 0 0)) (nI (st 0 4)) (nI (st 0 1)) (nI (st 0 2)) (nI (st 0 3)) thr hy 1 (by omega)) 1 gX10_whyNot_X10_can rfl rfl rfl (by decide +kernel) ⟨(by exact Nat.le_of_ble_eq_true rfl), (by exact Nat.le_of_ble_eq_true rfl)⟩ ⟨_, _, hy⟩ rfl rfl rfl hl.1 rfl (by exact Nat.le_of_ble_eq_true rfl) dX10_whyNot_66 ⟨(by exact Nat.le_of_ble_eq_true rfl), (by exact Nat.le_of_ble_eq_true rfl)⟩) S (fun r_66 f_66 H locs hr_66 S => ?_)
        obtain ⟨rfl, e_can⟩ := hr_66
        have hy_66 : f_66 y = some (1000, .inr (10, [.ref (A 1), .int (nI (st 0 0)), .ref (A 2), .ref (A 3), .ref (A 5), .ref (A 7), .int (nI (st 0 4)), .int (nI (st 0 1)), .int (nI (st 0 2)), .ref (A 9), .int (nI (st 0 3)), .ref (A 10), .ref (A 11), .int (nI 1)])) := by rw [e_can]; exact wu_self _ _ _ _
        have mm_66 : md tM f f_66 := by rw [e_can]; exact md_tr mm0 (md_put hy) (fun _ q => q) (fun t q => by subst q; unfold tM; omega)
        have hM0 : RMx G f_66 st y A V VL (nI 1) := by rw [e_can]; exact RMx_thr hM
        refine r_toi (y := 0) (by rfl) ?_
        have hKC : (k2 (eyeP st c a b p q) (ordP a b p q)) = 1 := k2_1 (fun z => by first | exact dF c_5 z.1 | exact dF c_17 z.2)
        refine lv_if_eq (x := 0) (tgt := 86) X.1 X.2.1 dX10_whyNot_69 (by decide) (fun c_69 => ?_) (fun c_69 => by first | exact absurd c_69 (by decide) | exact absurd (by decide) c_69)
        refine lv_iconst (v := 0) X.1 X.2.1 dX10_whyNot_86 (by decide) ?_
        refine e_i X hr S (Nat.le_of_ble_eq_true rfl) (Nat.le_of_ble_eq_true rfl) dX10_whyNot_87 ?_
        rw [hKC]
        exact ⟨⟨A, V, VL, hM0⟩, mm_66, fun z => absurd z (by decide)⟩
      · refine lv_iconst (v := 1) X.1 X.2.1 dX10_whyNot_39 (by decide) ?_
        refine lv_goto (tgt := 44) X.1 X.2.1 dX10_whyNot_40 (by decide) ?_
        refine lv_istore (lv' := [(7, .int 1), (6, .int 0), (0, .ref y), (1, .int c), (2, .int a), (3, .int b), (4, .int p), (5, .int q)]) X.1 X.2.1 dX10_whyNot_44 hl (by decide) rfl (fun ls hl => ?_)
        refine lv_aload_n X.1 X.2.1 dX10_whyNot_46 rfl (lv_at hl 2 rfl) ?_
        refine lv_iload X.1 X.2.1 dX10_whyNot_47 (lv_at hl 1 rfl) ?_
        refine lv_if_ne (x := 0) (tgt := 56) X.1 X.2.1 dX10_whyNot_49 (by decide) (fun c_49 => by first | exact absurd c_49 (by decide) | exact absurd (by decide) c_49) (fun c_49 => ?_)
        refine lv_iconst (v := 1) X.1 X.2.1 dX10_whyNot_52 (by decide) ?_
        refine lv_goto (tgt := 66) X.1 X.2.1 dX10_whyNot_53 (by decide) ?_
        refine call_i (run_V X S (n_can l G f y A (nI (st 0 0)) (nI (st 0 4)) (nI (st 0 1)) (nI (st 0 2)) (nI (st 0 3)) thr hy 1 (by omega)) 1 gX10_whyNot_X10_can rfl rfl rfl (by decide +kernel) ⟨(by exact Nat.le_of_ble_eq_true rfl), (by exact Nat.le_of_ble_eq_true rfl)⟩ ⟨_, _, hy⟩ rfl rfl rfl hl.1 rfl (by exact Nat.le_of_ble_eq_true rfl) dX10_whyNot_66 ⟨(by exact Nat.le_of_ble_eq_true rfl), (by exact Nat.le_of_ble_eq_true rfl)⟩) S (fun r_66 f_66 H locs hr_66 S => ?_)
        obtain ⟨rfl, e_can⟩ := hr_66
        have hy_66 : f_66 y = some (1000, .inr (10, [.ref (A 1), .int (nI (st 0 0)), .ref (A 2), .ref (A 3), .ref (A 5), .ref (A 7), .int (nI (st 0 4)), .int (nI (st 0 1)), .int (nI (st 0 2)), .ref (A 9), .int (nI (st 0 3)), .ref (A 10), .ref (A 11), .int (nI 1)])) := by rw [e_can]; exact wu_self _ _ _ _
        have mm_66 : md tM f f_66 := by rw [e_can]; exact md_tr mm0 (md_put hy) (fun _ q => q) (fun t q => by subst q; unfold tM; omega)
        have hM0 : RMx G f_66 st y A V VL (nI 1) := by rw [e_can]; exact RMx_thr hM
        refine r_toi (y := 0) (by rfl) ?_
        have hKC : (k2 (eyeP st c a b p q) (ordP a b p q)) = 1 := k2_1 (fun z => by first | exact dF c_5 z.1 | exact dF c_17 z.2)
        refine lv_if_eq (x := 0) (tgt := 86) X.1 X.2.1 dX10_whyNot_69 (by decide) (fun c_69 => ?_) (fun c_69 => by first | exact absurd c_69 (by decide) | exact absurd (by decide) c_69)
        refine lv_iconst (v := 0) X.1 X.2.1 dX10_whyNot_86 (by decide) ?_
        refine e_i X hr S (Nat.le_of_ble_eq_true rfl) (Nat.le_of_ble_eq_true rfl) dX10_whyNot_87 ?_
        rw [hKC]
        exact ⟨⟨A, V, VL, hM0⟩, mm_66, fun z => absurd z (by decide)⟩
  · refine lv_iload_n X.1 X.2.1 dX10_whyNot_8 rfl (lv_at hl 2 rfl) ?_
    refine lv_iload_n X.1 X.2.1 dX10_whyNot_9 rfl (lv_at hl 3 rfl) ?_
    refine lv_iload X.1 X.2.1 dX10_whyNot_10 (lv_at hl 4 rfl) ?_
    refine lv_iload X.1 X.2.1 dX10_whyNot_12 (lv_at hl 5 rfl) ?_
    refine call_ip (run_S X S (n_areCells l G f a b p q) 4 gX10_whyNot_X10_areCells rfl rfl rfl (by decide +kernel) ⟨(by exact Nat.le_of_ble_eq_true rfl), (by exact Nat.le_of_ble_eq_true rfl)⟩ rfl hl.1 rfl (by exact Nat.le_of_ble_eq_true rfl) dX10_whyNot_14 ⟨(Nat.zero_le _), (Nat.zero_le _)⟩) S (fun r_14 H locs hr_14 S => ?_)
    subst hr_14
    refine r_eqB (tgt := 24) X dX10_whyNot_17 (by decide) (fun c_17 => ?_) (fun c_17 => ?_)
    · refine lv_iconst (v := 0) X.1 X.2.1 dX10_whyNot_24 (by decide) ?_
      refine lv_istore (lv' := [(6, .int 0), (0, .ref y), (1, .int c), (2, .int a), (3, .int b), (4, .int p), (5, .int q)]) X.1 X.2.1 dX10_whyNot_25 hl (by decide) rfl (fun ls hl => ?_)
      refine lv_iload X.1 X.2.1 dX10_whyNot_27 (lv_at hl 5 rfl) ?_
      refine lv_iload_n X.1 X.2.1 dX10_whyNot_29 rfl (lv_at hl 3 rfl) ?_
      refine lv_icmp_lt (tgt := 43) X.1 X.2.1 dX10_whyNot_30 (by decide) (fun c_30 => ?_) (fun c_30 => ?_)
      · refine lv_iconst (v := 0) X.1 X.2.1 dX10_whyNot_43 (by decide) ?_
        refine lv_istore (lv' := [(7, .int 0), (6, .int 0), (0, .ref y), (1, .int c), (2, .int a), (3, .int b), (4, .int p), (5, .int q)]) X.1 X.2.1 dX10_whyNot_44 hl (by decide) rfl (fun ls hl => ?_)
        refine lv_aload_n X.1 X.2.1 dX10_whyNot_46 rfl (lv_at hl 2 rfl) ?_
        refine lv_iload X.1 X.2.1 dX10_whyNot_47 (lv_at hl 1 rfl) ?_
        refine lv_if_ne (x := 0) (tgt := 56) X.1 X.2.1 dX10_whyNot_49 (by decide) (fun c_49 => by first | exact absurd c_49 (by decide) | exact absurd (by decide) c_49) (fun c_49 => ?_)
        refine lv_iconst (v := 1) X.1 X.2.1 dX10_whyNot_52 (by decide) ?_
        refine lv_goto (tgt := 66) X.1 X.2.1 dX10_whyNot_53 (by decide) ?_
        refine call_i (run_V X S (n_can l G f y A (nI (st 0 0)) (nI (st 0 4)) (nI (st 0 1)) (nI (st 0 2)) (nI (st 0 3)) thr hy 1 (by omega)) 1 gX10_whyNot_X10_can rfl rfl rfl (by decide +kernel) ⟨(by exact Nat.le_of_ble_eq_true rfl), (by exact Nat.le_of_ble_eq_true rfl)⟩ ⟨_, _, hy⟩ rfl rfl rfl hl.1 rfl (by exact Nat.le_of_ble_eq_true rfl) dX10_whyNot_66 ⟨(by exact Nat.le_of_ble_eq_true rfl), (by exact Nat.le_of_ble_eq_true rfl)⟩) S (fun r_66 f_66 H locs hr_66 S => ?_)
        obtain ⟨rfl, e_can⟩ := hr_66
        have hy_66 : f_66 y = some (1000, .inr (10, [.ref (A 1), .int (nI (st 0 0)), .ref (A 2), .ref (A 3), .ref (A 5), .ref (A 7), .int (nI (st 0 4)), .int (nI (st 0 1)), .int (nI (st 0 2)), .ref (A 9), .int (nI (st 0 3)), .ref (A 10), .ref (A 11), .int (nI 1)])) := by rw [e_can]; exact wu_self _ _ _ _
        have mm_66 : md tM f f_66 := by rw [e_can]; exact md_tr mm0 (md_put hy) (fun _ q => q) (fun t q => by subst q; unfold tM; omega)
        have hM0 : RMx G f_66 st y A V VL (nI 1) := by rw [e_can]; exact RMx_thr hM
        refine r_toi (y := 0) (by rfl) ?_
        have hKC : (k2 (eyeP st c a b p q) (ordP a b p q)) = 1 := k2_1 (fun z => by first | exact dF c_5 z.1 | exact dF c_17 z.2)
        refine lv_if_eq (x := 0) (tgt := 86) X.1 X.2.1 dX10_whyNot_69 (by decide) (fun c_69 => ?_) (fun c_69 => by first | exact absurd c_69 (by decide) | exact absurd (by decide) c_69)
        refine lv_iconst (v := 0) X.1 X.2.1 dX10_whyNot_86 (by decide) ?_
        refine e_i X hr S (Nat.le_of_ble_eq_true rfl) (Nat.le_of_ble_eq_true rfl) dX10_whyNot_87 ?_
        rw [hKC]
        exact ⟨⟨A, V, VL, hM0⟩, mm_66, fun z => absurd z (by decide)⟩
      · refine lv_iload X.1 X.2.1 dX10_whyNot_33 (lv_at hl 6 rfl) ?_
        refine lv_iload_n X.1 X.2.1 dX10_whyNot_35 rfl (lv_at hl 4 rfl) ?_
        refine lv_icmp_lt (tgt := 43) X.1 X.2.1 dX10_whyNot_36 (by decide) (fun c_36 => ?_) (fun c_36 => ?_)
        · refine lv_iconst (v := 0) X.1 X.2.1 dX10_whyNot_43 (by decide) ?_
          refine lv_istore (lv' := [(7, .int 0), (6, .int 0), (0, .ref y), (1, .int c), (2, .int a), (3, .int b), (4, .int p), (5, .int q)]) X.1 X.2.1 dX10_whyNot_44 hl (by decide) rfl (fun ls hl => ?_)
          refine lv_aload_n X.1 X.2.1 dX10_whyNot_46 rfl (lv_at hl 2 rfl) ?_
          refine lv_iload X.1 X.2.1 dX10_whyNot_47 (lv_at hl 1 rfl) ?_
          refine lv_if_ne (x := 0) (tgt := 56) X.1 X.2.1 dX10_whyNot_49 (by decide) (fun c_49 => by first | exact absurd c_49 (by decide) | exact absurd (by decide) c_49) (fun c_49 => ?_)
          refine lv_iconst (v := 1) X.1 X.2.1 dX10_whyNot_52 (by decide) ?_
          refine lv_goto (tgt := 66) X.1 X.2.1 dX10_whyNot_53 (by decide) ?_
          refine call_i (run_V X S (n_can l G f y A (nI (st 0 0)) (nI (st 0 4)) (nI (st 0 1)) (nI (st 0 2)) (nI (st 0 3)) thr hy 1 (by omega)) 1 gX10_whyNot_X10_can rfl rfl rfl (by decide +kernel) ⟨(by exact Nat.le_of_ble_eq_true rfl), (by exact Nat.le_of_ble_eq_true rfl)⟩ ⟨_, _, hy⟩ rfl rfl rfl hl.1 rfl (by exact Nat.le_of_ble_eq_true rfl) dX10_whyNot_66 ⟨(by exact Nat.le_of_ble_eq_true rfl), (by exact Nat.le_of_ble_eq_true rfl)⟩) S (fun r_66 f_66 H locs hr_66 S => ?_)
          obtain ⟨rfl, e_can⟩ := hr_66
          have hy_66 : f_66 y = some (1000, .inr (10, [.ref (A 1), .int (nI (st 0 0)), .ref (A 2), .ref (A 3), .ref (A 5), .ref (A 7), .int (nI (st 0 4)), .int (nI (st 0 1)), .int (nI (st 0 2)), .ref (A 9), .int (nI (st 0 3)), .ref (A 10), .ref (A 11), .int (nI 1)])) := by rw [e_can]; exact wu_self _ _ _ _
          have mm_66 : md tM f f_66 := by rw [e_can]; exact md_tr mm0 (md_put hy) (fun _ q => q) (fun t q => by subst q; unfold tM; omega)
          have hM0 : RMx G f_66 st y A V VL (nI 1) := by rw [e_can]; exact RMx_thr hM
          refine r_toi (y := 0) (by rfl) ?_
          have hKC : (k2 (eyeP st c a b p q) (ordP a b p q)) = 1 := k2_1 (fun z => by first | exact dF c_5 z.1 | exact dF c_17 z.2)
          refine lv_if_eq (x := 0) (tgt := 86) X.1 X.2.1 dX10_whyNot_69 (by decide) (fun c_69 => ?_) (fun c_69 => by first | exact absurd c_69 (by decide) | exact absurd (by decide) c_69)
          refine lv_iconst (v := 0) X.1 X.2.1 dX10_whyNot_86 (by decide) ?_
          refine e_i X hr S (Nat.le_of_ble_eq_true rfl) (Nat.le_of_ble_eq_true rfl) dX10_whyNot_87 ?_
          rw [hKC]
          exact ⟨⟨A, V, VL, hM0⟩, mm_66, fun z => absurd z (by decide)⟩
        · refine lv_iconst (v := 1) X.1 X.2.1 dX10_whyNot_39 (by decide) ?_
          refine lv_goto (tgt := 44) X.1 X.2.1 dX10_whyNot_40 (by decide) ?_
          refine lv_istore (lv' := [(7, .int 1), (6, .int 0), (0, .ref y), (1, .int c), (2, .int a), (3, .int b), (4, .int p), (5, .int q)]) X.1 X.2.1 dX10_whyNot_44 hl (by decide) rfl (fun ls hl => ?_)
          refine lv_aload_n X.1 X.2.1 dX10_whyNot_46 rfl (lv_at hl 2 rfl) ?_
          refine lv_iload X.1 X.2.1 dX10_whyNot_47 (lv_at hl 1 rfl) ?_
          refine lv_if_ne (x := 0) (tgt := 56) X.1 X.2.1 dX10_whyNot_49 (by decide) (fun c_49 => by first | exact absurd c_49 (by decide) | exact absurd (by decide) c_49) (fun c_49 => ?_)
          refine lv_iconst (v := 1) X.1 X.2.1 dX10_whyNot_52 (by decide) ?_
          refine lv_goto (tgt := 66) X.1 X.2.1 dX10_whyNot_53 (by decide) ?_
          refine call_i (run_V X S (n_can l G f y A (nI (st 0 0)) (nI (st 0 4)) (nI (st 0 1)) (nI (st 0 2)) (nI (st 0 3)) thr hy 1 (by omega)) 1 gX10_whyNot_X10_can rfl rfl rfl (by decide +kernel) ⟨(by exact Nat.le_of_ble_eq_true rfl), (by exact Nat.le_of_ble_eq_true rfl)⟩ ⟨_, _, hy⟩ rfl rfl rfl hl.1 rfl (by exact Nat.le_of_ble_eq_true rfl) dX10_whyNot_66 ⟨(by exact Nat.le_of_ble_eq_true rfl), (by exact Nat.le_of_ble_eq_true rfl)⟩) S (fun r_66 f_66 H locs hr_66 S => ?_)
          obtain ⟨rfl, e_can⟩ := hr_66
          have hy_66 : f_66 y = some (1000, .inr (10, [.ref (A 1), .int (nI (st 0 0)), .ref (A 2), .ref (A 3), .ref (A 5), .ref (A 7), .int (nI (st 0 4)), .int (nI (st 0 1)), .int (nI (st 0 2)), .ref (A 9), .int (nI (st 0 3)), .ref (A 10), .ref (A 11), .int (nI 1)])) := by rw [e_can]; exact wu_self _ _ _ _
          have mm_66 : md tM f f_66 := by rw [e_can]; exact md_tr mm0 (md_put hy) (fun _ q => q) (fun t q => by subst q; unfold tM; omega)
          have hM0 : RMx G f_66 st y A V VL (nI 1) := by rw [e_can]; exact RMx_thr hM
          refine r_toi (y := 0) (by rfl) ?_
          have hKC : (k2 (eyeP st c a b p q) (ordP a b p q)) = 1 := k2_1 (fun z => by first | exact dF c_5 z.1 | exact dF c_17 z.2)
          refine lv_if_eq (x := 0) (tgt := 86) X.1 X.2.1 dX10_whyNot_69 (by decide) (fun c_69 => ?_) (fun c_69 => by first | exact absurd c_69 (by decide) | exact absurd (by decide) c_69)
          refine lv_iconst (v := 0) X.1 X.2.1 dX10_whyNot_86 (by decide) ?_
          refine e_i X hr S (Nat.le_of_ble_eq_true rfl) (Nat.le_of_ble_eq_true rfl) dX10_whyNot_87 ?_
          rw [hKC]
          exact ⟨⟨A, V, VL, hM0⟩, mm_66, fun z => absurd z (by decide)⟩
    · refine lv_iconst (v := 1) X.1 X.2.1 dX10_whyNot_20 (by decide) ?_
      refine lv_goto (tgt := 25) X.1 X.2.1 dX10_whyNot_21 (by decide) ?_
      refine lv_istore (lv' := [(6, .int 1), (0, .ref y), (1, .int c), (2, .int a), (3, .int b), (4, .int p), (5, .int q)]) X.1 X.2.1 dX10_whyNot_25 hl (by decide) rfl (fun ls hl => ?_)
      refine lv_iload X.1 X.2.1 dX10_whyNot_27 (lv_at hl 5 rfl) ?_
      refine lv_iload_n X.1 X.2.1 dX10_whyNot_29 rfl (lv_at hl 3 rfl) ?_
      refine lv_icmp_lt (tgt := 43) X.1 X.2.1 dX10_whyNot_30 (by decide) (fun c_30 => ?_) (fun c_30 => ?_)
      · refine lv_iconst (v := 0) X.1 X.2.1 dX10_whyNot_43 (by decide) ?_
        refine lv_istore (lv' := [(7, .int 0), (6, .int 1), (0, .ref y), (1, .int c), (2, .int a), (3, .int b), (4, .int p), (5, .int q)]) X.1 X.2.1 dX10_whyNot_44 hl (by decide) rfl (fun ls hl => ?_)
        refine lv_aload_n X.1 X.2.1 dX10_whyNot_46 rfl (lv_at hl 2 rfl) ?_
        refine lv_iload X.1 X.2.1 dX10_whyNot_47 (lv_at hl 1 rfl) ?_
        refine lv_if_ne (x := 1) (tgt := 56) X.1 X.2.1 dX10_whyNot_49 (by decide) (fun c_49 => ?_) (fun c_49 => by first | exact absurd c_49 (by decide) | exact absurd (by decide) c_49)
        refine lv_iload X.1 X.2.1 dX10_whyNot_56 (lv_at hl 0 rfl) ?_
        refine lv_if_eq (x := 0) (tgt := 65) X.1 X.2.1 dX10_whyNot_58 (by decide) (fun c_58 => ?_) (fun c_58 => by first | exact absurd c_58 (by decide) | exact absurd (by decide) c_58)
        refine lv_iconst (v := 2) X.1 X.2.1 dX10_whyNot_65 (by decide) ?_
        refine call_i (run_V X S (n_can l G f y A (nI (st 0 0)) (nI (st 0 4)) (nI (st 0 1)) (nI (st 0 2)) (nI (st 0 3)) thr hy 2 (by omega)) 1 gX10_whyNot_X10_can rfl rfl rfl (by decide +kernel) ⟨(by exact Nat.le_of_ble_eq_true rfl), (by exact Nat.le_of_ble_eq_true rfl)⟩ ⟨_, _, hy⟩ rfl rfl rfl hl.1 rfl (by exact Nat.le_of_ble_eq_true rfl) dX10_whyNot_66 ⟨(by exact Nat.le_of_ble_eq_true rfl), (by exact Nat.le_of_ble_eq_true rfl)⟩) S (fun r_66 f_66 H locs hr_66 S => ?_)
        obtain ⟨rfl, e_can⟩ := hr_66
        have hy_66 : f_66 y = some (1000, .inr (10, [.ref (A 1), .int (nI (st 0 0)), .ref (A 2), .ref (A 3), .ref (A 5), .ref (A 7), .int (nI (st 0 4)), .int (nI (st 0 1)), .int (nI (st 0 2)), .ref (A 9), .int (nI (st 0 3)), .ref (A 10), .ref (A 11), .int (nI 2)])) := by rw [e_can]; exact wu_self _ _ _ _
        have mm_66 : md tM f f_66 := by rw [e_can]; exact md_tr mm0 (md_put hy) (fun _ q => q) (fun t q => by subst q; unfold tM; omega)
        have hM0 : RMx G f_66 st y A V VL (nI 2) := by rw [e_can]; exact RMx_thr hM
        refine r_toi (y := 0) (by rfl) ?_
        have hKC : (k2 (eyeP st c a b p q) (ordP a b p q)) = 2 := k2_2 ⟨dT c_5, dT c_17⟩ (fun z => by first | (rw [i_lt] at c_30; have := z.1; omega) | (rw [i_lt] at c_36; have := z.2; omega))
        refine lv_if_eq (x := 0) (tgt := 86) X.1 X.2.1 dX10_whyNot_69 (by decide) (fun c_69 => ?_) (fun c_69 => by first | exact absurd c_69 (by decide) | exact absurd (by decide) c_69)
        refine lv_iconst (v := 0) X.1 X.2.1 dX10_whyNot_86 (by decide) ?_
        refine e_i X hr S (Nat.le_of_ble_eq_true rfl) (Nat.le_of_ble_eq_true rfl) dX10_whyNot_87 ?_
        rw [hKC]
        exact ⟨⟨A, V, VL, hM0⟩, mm_66, fun z => absurd z (by decide)⟩
      · refine lv_iload X.1 X.2.1 dX10_whyNot_33 (lv_at hl 6 rfl) ?_
        refine lv_iload_n X.1 X.2.1 dX10_whyNot_35 rfl (lv_at hl 4 rfl) ?_
        refine lv_icmp_lt (tgt := 43) X.1 X.2.1 dX10_whyNot_36 (by decide) (fun c_36 => ?_) (fun c_36 => ?_)
        · refine lv_iconst (v := 0) X.1 X.2.1 dX10_whyNot_43 (by decide) ?_
          refine lv_istore (lv' := [(7, .int 0), (6, .int 1), (0, .ref y), (1, .int c), (2, .int a), (3, .int b), (4, .int p), (5, .int q)]) X.1 X.2.1 dX10_whyNot_44 hl (by decide) rfl (fun ls hl => ?_)
          refine lv_aload_n X.1 X.2.1 dX10_whyNot_46 rfl (lv_at hl 2 rfl) ?_
          refine lv_iload X.1 X.2.1 dX10_whyNot_47 (lv_at hl 1 rfl) ?_
          refine lv_if_ne (x := 1) (tgt := 56) X.1 X.2.1 dX10_whyNot_49 (by decide) (fun c_49 => ?_) (fun c_49 => by first | exact absurd c_49 (by decide) | exact absurd (by decide) c_49)
          refine lv_iload X.1 X.2.1 dX10_whyNot_56 (lv_at hl 0 rfl) ?_
          refine lv_if_eq (x := 0) (tgt := 65) X.1 X.2.1 dX10_whyNot_58 (by decide) (fun c_58 => ?_) (fun c_58 => by first | exact absurd c_58 (by decide) | exact absurd (by decide) c_58)
          refine lv_iconst (v := 2) X.1 X.2.1 dX10_whyNot_65 (by decide) ?_
          refine call_i (run_V X S (n_can l G f y A (nI (st 0 0)) (nI (st 0 4)) (nI (st 0 1)) (nI (st 0 2)) (nI (st 0 3)) thr hy 2 (by omega)) 1 gX10_whyNot_X10_can rfl rfl rfl (by decide +kernel) ⟨(by exact Nat.le_of_ble_eq_true rfl), (by exact Nat.le_of_ble_eq_true rfl)⟩ ⟨_, _, hy⟩ rfl rfl rfl hl.1 rfl (by exact Nat.le_of_ble_eq_true rfl) dX10_whyNot_66 ⟨(by exact Nat.le_of_ble_eq_true rfl), (by exact Nat.le_of_ble_eq_true rfl)⟩) S (fun r_66 f_66 H locs hr_66 S => ?_)
          obtain ⟨rfl, e_can⟩ := hr_66
          have hy_66 : f_66 y = some (1000, .inr (10, [.ref (A 1), .int (nI (st 0 0)), .ref (A 2), .ref (A 3), .ref (A 5), .ref (A 7), .int (nI (st 0 4)), .int (nI (st 0 1)), .int (nI (st 0 2)), .ref (A 9), .int (nI (st 0 3)), .ref (A 10), .ref (A 11), .int (nI 2)])) := by rw [e_can]; exact wu_self _ _ _ _
          have mm_66 : md tM f f_66 := by rw [e_can]; exact md_tr mm0 (md_put hy) (fun _ q => q) (fun t q => by subst q; unfold tM; omega)
          have hM0 : RMx G f_66 st y A V VL (nI 2) := by rw [e_can]; exact RMx_thr hM
          refine r_toi (y := 0) (by rfl) ?_
          have hKC : (k2 (eyeP st c a b p q) (ordP a b p q)) = 2 := k2_2 ⟨dT c_5, dT c_17⟩ (fun z => by first | (rw [i_lt] at c_30; have := z.1; omega) | (rw [i_lt] at c_36; have := z.2; omega))
          refine lv_if_eq (x := 0) (tgt := 86) X.1 X.2.1 dX10_whyNot_69 (by decide) (fun c_69 => ?_) (fun c_69 => by first | exact absurd c_69 (by decide) | exact absurd (by decide) c_69)
          refine lv_iconst (v := 0) X.1 X.2.1 dX10_whyNot_86 (by decide) ?_
          refine e_i X hr S (Nat.le_of_ble_eq_true rfl) (Nat.le_of_ble_eq_true rfl) dX10_whyNot_87 ?_
          rw [hKC]
          exact ⟨⟨A, V, VL, hM0⟩, mm_66, fun z => absurd z (by decide)⟩
        · refine lv_iconst (v := 1) X.1 X.2.1 dX10_whyNot_39 (by decide) ?_
          refine lv_goto (tgt := 44) X.1 X.2.1 dX10_whyNot_40 (by decide) ?_
          refine lv_istore (lv' := [(7, .int 1), (6, .int 1), (0, .ref y), (1, .int c), (2, .int a), (3, .int b), (4, .int p), (5, .int q)]) X.1 X.2.1 dX10_whyNot_44 hl (by decide) rfl (fun ls hl => ?_)
          refine lv_aload_n X.1 X.2.1 dX10_whyNot_46 rfl (lv_at hl 2 rfl) ?_
          refine lv_iload X.1 X.2.1 dX10_whyNot_47 (lv_at hl 1 rfl) ?_
          refine lv_if_ne (x := 1) (tgt := 56) X.1 X.2.1 dX10_whyNot_49 (by decide) (fun c_49 => ?_) (fun c_49 => by first | exact absurd c_49 (by decide) | exact absurd (by decide) c_49)
          refine lv_iload X.1 X.2.1 dX10_whyNot_56 (lv_at hl 0 rfl) ?_
          refine lv_if_eq (x := 1) (tgt := 65) X.1 X.2.1 dX10_whyNot_58 (by decide) (fun c_58 => by first | exact absurd c_58 (by decide) | exact absurd (by decide) c_58) (fun c_58 => ?_)
          refine lv_iconst (v := 0) X.1 X.2.1 dX10_whyNot_61 (by decide) ?_
          refine lv_goto (tgt := 66) X.1 X.2.1 dX10_whyNot_62 (by decide) ?_
          refine call_i (run_V X S (n_can l G f y A (nI (st 0 0)) (nI (st 0 4)) (nI (st 0 1)) (nI (st 0 2)) (nI (st 0 3)) thr hy 0 (by omega)) 1 gX10_whyNot_X10_can rfl rfl rfl (by decide +kernel) ⟨(by exact Nat.le_of_ble_eq_true rfl), (by exact Nat.le_of_ble_eq_true rfl)⟩ ⟨_, _, hy⟩ rfl rfl rfl hl.1 rfl (by exact Nat.le_of_ble_eq_true rfl) dX10_whyNot_66 ⟨(by exact Nat.le_of_ble_eq_true rfl), (by exact Nat.le_of_ble_eq_true rfl)⟩) S (fun r_66 f_66 H locs hr_66 S => ?_)
          obtain ⟨rfl, e_can⟩ := hr_66
          have hy_66 : f_66 y = some (1000, .inr (10, [.ref (A 1), .int (nI (st 0 0)), .ref (A 2), .ref (A 3), .ref (A 5), .ref (A 7), .int (nI (st 0 4)), .int (nI (st 0 1)), .int (nI (st 0 2)), .ref (A 9), .int (nI (st 0 3)), .ref (A 10), .ref (A 11), .int (nI 0)])) := by rw [e_can]; exact wu_self _ _ _ _
          have mm_66 : md tM f f_66 := by rw [e_can]; exact md_tr mm0 (md_put hy) (fun _ q => q) (fun t q => by subst q; unfold tM; omega)
          have hM0 : RMx G f_66 st y A V VL (nI 0) := by rw [e_can]; exact RMx_thr hM
          refine r_toi (y := 1) (by rfl) ?_
          have hP1 : (eyeP st c a b p q) := ⟨dT c_5, dT c_17⟩
          have hP2 : ordP a b p q := by rw [i_lt] at c_30 c_36; exact ⟨by omega, by omega⟩
          have hKC : (k2 (eyeP st c a b p q) (ordP a b p q)) = 0 := k2_0 hP1 hP2
          obtain ⟨c1, rfl, clo, cup, cbd⟩ := inI_sub hP1.1 (by omega)
          have nc : nN (nI c1) = c1 := nN_nI cbd
          obtain ⟨a1, rfl, alo, aup, abd⟩ := inI_sub hP1.2.1.1 (by omega)
          have na : nN (nI a1) = a1 := nN_nI abd
          obtain ⟨b1, rfl, blo, bup, bbd⟩ := inI_sub hP1.2.1.2 (by omega)
          have nb : nN (nI b1) = b1 := nN_nI bbd
          obtain ⟨p1, rfl, plo, pup, pbd⟩ := inI_sub hP1.2.2.1 (by omega)
          have np : nN (nI p1) = p1 := nN_nI pbd
          obtain ⟨q1, rfl, qlo, qup, qbd⟩ := inI_sub hP1.2.2.2 (by omega)
          have nq : nN (nI q1) = q1 := nN_nI qbd
          have hox : a1 ≤ p1 := by have := hP2.1; rw [i_n (by omega), i_n (by omega)] at this; omega
          have hoy : b1 ≤ q1 := by have := hP2.2; rw [i_n (by omega), i_n (by omega)] at this; omega
          refine lv_if_eq (x := 1) (tgt := 86) X.1 X.2.1 dX10_whyNot_69 (by decide) (fun c_69 => by first | exact absurd c_69 (by decide) | exact absurd (by decide) c_69) (fun c_69 => ?_)
          refine lv_aload_n X.1 X.2.1 dX10_whyNot_72 rfl (lv_at hl 2 rfl) ?_
          refine lv_iload_n X.1 X.2.1 dX10_whyNot_73 rfl (lv_at hl 3 rfl) ?_
          refine lv_iload_n X.1 X.2.1 dX10_whyNot_74 rfl (lv_at hl 4 rfl) ?_
          refine lv_iload_n X.1 X.2.1 dX10_whyNot_75 rfl (lv_at hl 5 rfl) ?_
          refine lv_iload X.1 X.2.1 dX10_whyNot_76 (lv_at hl 6 rfl) ?_
          refine lv_iload X.1 X.2.1 dX10_whyNot_78 (lv_at hl 7 rfl) ?_
          refine call_ip (run_V X S (n_reason l G f_66 st y A V VL (nI 0) hI hM0 c1 a1 b1 p1 q1 (by omega) (by omega) (by omega) (by omega) (by omega) hox hoy) 5 gX10_whyNot_X10_reason rfl rfl rfl (by decide +kernel) ⟨(by exact Nat.le_of_ble_eq_true rfl), (by exact Nat.le_of_ble_eq_true rfl)⟩ ⟨_, _, hy_66⟩ rfl rfl rfl hl.1 rfl (by exact Nat.le_of_ble_eq_true rfl) dX10_whyNot_80 ⟨(Nat.zero_le _), (Nat.zero_le _)⟩) S (fun r_80 H locs hr_80 S => ?_)
          subst hr_80
          refine lv_goto (tgt := 87) X.1 X.2.1 dX10_whyNot_83 (by decide) ?_
          refine e_i X hr S (Nat.le_of_ble_eq_true rfl) (Nat.le_of_ble_eq_true rfl) dX10_whyNot_87 ?_
          rw [hKC]
          refine ⟨?_, mm_66, fun _ => ?_⟩
          · exact ⟨A, V, VL, hM0⟩
          · rw [nc, na, nb, np, nq]

set_option maxRecDepth 100000 in
set_option maxHeartbeats 4000000 in
/-- age -/
theorem n_age (l : Launch) (G : cx_G) (f : Wd) (st : St) (y : Nat) (A : Nat → Nat) (V : Nat → Nat → Int32) (VL : Nat → Nat → Int64) (thr : Int32) (hI : sInv st) (hM : RMx G f st y A V VL thr) (c a b p q : Int32) : ML l G yX10_age wsX10_age 5 126 0 0 [.ref y, .int c, .int a, .int b, .int p, .int q] f (fun r f' => RM G f' (stp (k3 (eyeP st c a b p q) (ordP a b p q) (lackN st (densN st (nN c) (nN a) (nN b) (nN p) (nN q)) = 0)) st st) y (nI (k3 (eyeP st c a b p q) (ordP a b p q) (lackN st (densN st (nN c) (nN a) (nN b) (nN p) (nN q)) = 0))) ∧ md tM f f' ∧ ((k3 (eyeP st c a b p q) (ordP a b p q) (lackN st (densN st (nN c) (nN a) (nN b) (nN p) (nN q)) = 0)) = 0 → ageR st (densN st (nN c) (nN a) (nN b) (nN p) (nN q)) r)) := by
  refine cx_body (cc := cX10_age) (n := 8) (ret := (some .long)) (by decide +kernel) rfl (Nat.le_of_ble_eq_true rfl) ?_
  intro p0 e0 s0 m0 b0 meth0 c0 ls X hr hnm S hl
  have X : cxC G p0 l _ c0 cX10_age 8 m0 meth0 s0 _ RX10 wsX10_age := X
  have hl : lv_has ls 8 [(0, .ref y), (1, .int c), (2, .int a), (3, .int b), (4, .int p), (5, .int q)] := hl
  obtain ⟨hi0, hi1, hi2, hi3, hi4, hi5, hi6, hi7⟩ := id hI
  obtain ⟨hy, ⟨hA1, hA2, hA3, hA5, hA7, hA9, hA10, hA11⟩, hv1, hvk, hv9, hvL⟩ := id hM
  have mm0 : md tM f f := md_rf _ _
  refine lv_aload_n X.1 X.2.1 dX10_age_0 rfl (lv_at hl 0 rfl) ?_
  refine lv_iload_n X.1 X.2.1 dX10_age_1 rfl (lv_at hl 1 rfl) ?_
  refine call_ip (run_V X S (n_isEye l G f y A (nI (st 0 0)) (nI (st 0 4)) (nI (st 0 1)) (nI (st 0 3)) thr (st 0 2) (by omega) hy c) 1 gX10_age_X10_isEye rfl rfl rfl (by decide +kernel) ⟨(by exact Nat.le_of_ble_eq_true rfl), (by exact Nat.le_of_ble_eq_true rfl)⟩ ⟨_, _, hy⟩ rfl rfl rfl hl.1 rfl (by exact Nat.le_of_ble_eq_true rfl) dX10_age_2 ⟨(Nat.zero_le _), (Nat.zero_le _)⟩) S (fun r_2 H locs hr_2 S => ?_)
  subst hr_2
  refine r_eqB (tgt := 24) X dX10_age_5 (by decide) (fun c_5 => ?_) (fun c_5 => ?_)
  · refine lv_iconst (v := 0) X.1 X.2.1 dX10_age_24 (by decide) ?_
    refine lv_istore (lv' := [(6, .int 0), (0, .ref y), (1, .int c), (2, .int a), (3, .int b), (4, .int p), (5, .int q)]) X.1 X.2.1 dX10_age_25 hl (by decide) rfl (fun ls hl => ?_)
    refine lv_iload X.1 X.2.1 dX10_age_27 (lv_at hl 5 rfl) ?_
    refine lv_iload_n X.1 X.2.1 dX10_age_29 rfl (lv_at hl 3 rfl) ?_
    refine lv_icmp_lt (tgt := 43) X.1 X.2.1 dX10_age_30 (by decide) (fun c_30 => ?_) (fun c_30 => ?_)
    · refine lv_iconst (v := 0) X.1 X.2.1 dX10_age_43 (by decide) ?_
      refine lv_istore (lv' := [(7, .int 0), (6, .int 0), (0, .ref y), (1, .int c), (2, .int a), (3, .int b), (4, .int p), (5, .int q)]) X.1 X.2.1 dX10_age_44 hl (by decide) rfl (fun ls hl => ?_)
      refine lv_aload_n X.1 X.2.1 dX10_age_46 rfl (lv_at hl 2 rfl) ?_
      refine lv_iload X.1 X.2.1 dX10_age_47 (lv_at hl 1 rfl) ?_
      refine lv_if_ne (x := 0) (tgt := 56) X.1 X.2.1 dX10_age_49 (by decide) (fun c_49 => by first | exact absurd c_49 (by decide) | exact absurd (by decide) c_49) (fun c_49 => ?_)
      refine lv_iconst (v := 1) X.1 X.2.1 dX10_age_52 (by decide) ?_
      refine lv_goto (tgt := 84) X.1 X.2.1 dX10_age_53 (by decide) ?_
      refine call_i (run_V X S (n_can l G f y A (nI (st 0 0)) (nI (st 0 4)) (nI (st 0 1)) (nI (st 0 2)) (nI (st 0 3)) thr hy 1 (by omega)) 1 gX10_age_X10_can rfl rfl rfl (by decide +kernel) ⟨(by exact Nat.le_of_ble_eq_true rfl), (by exact Nat.le_of_ble_eq_true rfl)⟩ ⟨_, _, hy⟩ rfl rfl rfl hl.1 rfl (by exact Nat.le_of_ble_eq_true rfl) dX10_age_84 ⟨(by exact Nat.le_of_ble_eq_true rfl), (by exact Nat.le_of_ble_eq_true rfl)⟩) S (fun r_84 f_84 H locs hr_84 S => ?_)
      obtain ⟨rfl, e_can⟩ := hr_84
      have hy_84 : f_84 y = some (1000, .inr (10, [.ref (A 1), .int (nI (st 0 0)), .ref (A 2), .ref (A 3), .ref (A 5), .ref (A 7), .int (nI (st 0 4)), .int (nI (st 0 1)), .int (nI (st 0 2)), .ref (A 9), .int (nI (st 0 3)), .ref (A 10), .ref (A 11), .int (nI 1)])) := by rw [e_can]; exact wu_self _ _ _ _
      have mm_84 : md tM f f_84 := by rw [e_can]; exact md_tr mm0 (md_put hy) (fun _ q => q) (fun t q => by subst q; unfold tM; omega)
      have hM0 : RMx G f_84 st y A V VL (nI 1) := by rw [e_can]; exact RMx_thr hM
      refine r_toi (y := 0) (by rfl) ?_
      have hKC : (k3 (eyeP st c a b p q) (ordP a b p q) (lackN st (densN st (nN c) (nN a) (nN b) (nN p) (nN q)) = 0)) = 1 := k3_1 (fun z => by first | exact dF c_5 z.1 | exact dF c_17 z.2)
      refine lv_if_ne (x := 0) (tgt := 92) X.1 X.2.1 dX10_age_87 (by decide) (fun c_87 => by first | exact absurd c_87 (by decide) | exact absurd (by decide) c_87) (fun c_87 => ?_)
      refine lv_lconst (v := 0) X.1 X.2.1 dX10_age_90 (by decide) ?_
      refine e_l X hr S (Nat.le_of_ble_eq_true rfl) (Nat.le_of_ble_eq_true rfl) dX10_age_91 ?_
      rw [hKC]
      exact ⟨⟨A, V, VL, hM0⟩, mm_84, fun z => absurd z (by decide)⟩
    · refine lv_iload X.1 X.2.1 dX10_age_33 (lv_at hl 6 rfl) ?_
      refine lv_iload_n X.1 X.2.1 dX10_age_35 rfl (lv_at hl 4 rfl) ?_
      refine lv_icmp_lt (tgt := 43) X.1 X.2.1 dX10_age_36 (by decide) (fun c_36 => ?_) (fun c_36 => ?_)
      · refine lv_iconst (v := 0) X.1 X.2.1 dX10_age_43 (by decide) ?_
        refine lv_istore (lv' := [(7, .int 0), (6, .int 0), (0, .ref y), (1, .int c), (2, .int a), (3, .int b), (4, .int p), (5, .int q)]) X.1 X.2.1 dX10_age_44 hl (by decide) rfl (fun ls hl => ?_)
        refine lv_aload_n X.1 X.2.1 dX10_age_46 rfl (lv_at hl 2 rfl) ?_
        refine lv_iload X.1 X.2.1 dX10_age_47 (lv_at hl 1 rfl) ?_
        refine lv_if_ne (x := 0) (tgt := 56) X.1 X.2.1 dX10_age_49 (by decide) (fun c_49 => by first | exact absurd c_49 (by decide) | exact absurd (by decide) c_49) (fun c_49 => ?_)
        refine lv_iconst (v := 1) X.1 X.2.1 dX10_age_52 (by decide) ?_
        refine lv_goto (tgt := 84) X.1 X.2.1 dX10_age_53 (by decide) ?_
        refine call_i (run_V X S (n_can l G f y A (nI (st 0 0)) (nI (st 0 4)) (nI (st 0 1)) (nI (st 0 2)) (nI (st 0 3)) thr hy 1 (by omega)) 1 gX10_age_X10_can rfl rfl rfl (by decide +kernel) ⟨(by exact Nat.le_of_ble_eq_true rfl), (by exact Nat.le_of_ble_eq_true rfl)⟩ ⟨_, _, hy⟩ rfl rfl rfl hl.1 rfl (by exact Nat.le_of_ble_eq_true rfl) dX10_age_84 ⟨(by exact Nat.le_of_ble_eq_true rfl), (by exact Nat.le_of_ble_eq_true rfl)⟩) S (fun r_84 f_84 H locs hr_84 S => ?_)
        obtain ⟨rfl, e_can⟩ := hr_84
        have hy_84 : f_84 y = some (1000, .inr (10, [.ref (A 1), .int (nI (st 0 0)), .ref (A 2), .ref (A 3), .ref (A 5), .ref (A 7), .int (nI (st 0 4)), .int (nI (st 0 1)), .int (nI (st 0 2)), .ref (A 9), .int (nI (st 0 3)), .ref (A 10), .ref (A 11), .int (nI 1)])) := by rw [e_can]; exact wu_self _ _ _ _
        have mm_84 : md tM f f_84 := by rw [e_can]; exact md_tr mm0 (md_put hy) (fun _ q => q) (fun t q => by subst q; unfold tM; omega)
        have hM0 : RMx G f_84 st y A V VL (nI 1) := by rw [e_can]; exact RMx_thr hM
        refine r_toi (y := 0) (by rfl) ?_
        have hKC : (k3 (eyeP st c a b p q) (ordP a b p q) (lackN st (densN st (nN c) (nN a) (nN b) (nN p) (nN q)) = 0)) = 1 := k3_1 (fun z => by first | exact dF c_5 z.1 | exact dF c_17 z.2)
        refine lv_if_ne (x := 0) (tgt := 92) X.1 X.2.1 dX10_age_87 (by decide) (fun c_87 => by first | exact absurd c_87 (by decide) | exact absurd (by decide) c_87) (fun c_87 => ?_)
        refine lv_lconst (v := 0) X.1 X.2.1 dX10_age_90 (by decide) ?_
        refine e_l X hr S (Nat.le_of_ble_eq_true rfl) (Nat.le_of_ble_eq_true rfl) dX10_age_91 ?_
        rw [hKC]
        exact ⟨⟨A, V, VL, hM0⟩, mm_84, fun z => absurd z (by decide)⟩
      · refine lv_iconst (v := 1) X.1 X.2.1 dX10_age_39 (by decide) ?_
        refine lv_goto (tgt := 44) X.1 X.2.1 dX10_age_40 (by decide) ?_
        refine lv_istore (lv' := [(7, .int 1), (6, .int 0), (0, .ref y), (1, .int c), (2, .int a), (3, .int b), (4, .int p), (5, .int q)]) X.1 X.2.1 dX10_age_44 hl (by decide) rfl (fun ls hl => ?_)
        refine lv_aload_n X.1 X.2.1 dX10_age_46 rfl (lv_at hl 2 rfl) ?_
        refine lv_iload X.1 X.2.1 dX10_age_47 (lv_at hl 1 rfl) ?_
        refine lv_if_ne (x := 0) (tgt := 56) X.1 X.2.1 dX10_age_49 (by decide) (fun c_49 => by first | exact absurd c_49 (by decide) | exact absurd (by decide) c_49) (fun c_49 => ?_)
        refine lv_iconst (v := 1) X.1 X.2.1 dX10_age_52 (by decide) ?_
        refine lv_goto (tgt := 84) X.1 X.2.1 dX10_age_53 (by decide) ?_
        refine call_i (run_V X S (n_can l G f y A (nI (st 0 0)) (nI (st 0 4)) (nI (st 0 1)) (nI (st 0 2)) (nI (st 0 3)) thr hy 1 (by omega)) 1 gX10_age_X10_can rfl rfl rfl (by decide +kernel) ⟨(by exact Nat.le_of_ble_eq_true rfl), (by exact Nat.le_of_ble_eq_true rfl)⟩ ⟨_, _, hy⟩ rfl rfl rfl hl.1 rfl (by exact Nat.le_of_ble_eq_true rfl) dX10_age_84 ⟨(by exact Nat.le_of_ble_eq_true rfl), (by exact Nat.le_of_ble_eq_true rfl)⟩) S (fun r_84 f_84 H locs hr_84 S => ?_)
        obtain ⟨rfl, e_can⟩ := hr_84
        have hy_84 : f_84 y = some (1000, .inr (10, [.ref (A 1), .int (nI (st 0 0)), .ref (A 2), .ref (A 3), .ref (A 5), .ref (A 7), .int (nI (st 0 4)), .int (nI (st 0 1)), .int (nI (st 0 2)), .ref (A 9), .int (nI (st 0 3)), .ref (A 10), .ref (A 11), .int (nI 1)])) := by rw [e_can]; exact wu_self _ _ _ _
        have mm_84 : md tM f f_84 := by rw [e_can]; exact md_tr mm0 (md_put hy) (fun _ q => q) (fun t q => by subst q; unfold tM; omega)
        have hM0 : RMx G f_84 st y A V VL (nI 1) := by rw [e_can]; exact RMx_thr hM
        refine r_toi (y := 0) (by rfl) ?_
        have hKC : (k3 (eyeP st c a b p q) (ordP a b p q) (lackN st (densN st (nN c) (nN a) (nN b) (nN p) (nN q)) = 0)) = 1 := k3_1 (fun z => by first | exact dF c_5 z.1 | exact dF c_17 z.2)
        refine lv_if_ne (x := 0) (tgt := 92) X.1 X.2.1 dX10_age_87 (by decide) (fun c_87 => by first | exact absurd c_87 (by decide) | exact absurd (by decide) c_87) (fun c_87 => ?_)
        refine lv_lconst (v := 0) X.1 X.2.1 dX10_age_90 (by decide) ?_
        refine e_l X hr S (Nat.le_of_ble_eq_true rfl) (Nat.le_of_ble_eq_true rfl) dX10_age_91 ?_
        rw [hKC]
        exact ⟨⟨A, V, VL, hM0⟩, mm_84, fun z => absurd z (by decide)⟩
  · refine lv_iload_n X.1 X.2.1 dX10_age_8 rfl (lv_at hl 2 rfl) ?_
    refine lv_iload_n X.1 X.2.1 dX10_age_9 rfl (lv_at hl 3 rfl) ?_
    refine lv_iload X.1 X.2.1 dX10_age_10 (lv_at hl 4 rfl) ?_
    refine lv_iload X.1 X.2.1 dX10_age_12 (lv_at hl 5 rfl) ?_
    refine call_ip (run_S X S (n_areCells l G f a b p q) 4 gX10_age_X10_areCells rfl rfl rfl (by decide +kernel) ⟨(by exact Nat.le_of_ble_eq_true rfl), (by exact Nat.le_of_ble_eq_true rfl)⟩ rfl hl.1 rfl (by exact Nat.le_of_ble_eq_true rfl) dX10_age_14 ⟨(Nat.zero_le _), (Nat.zero_le _)⟩) S (fun r_14 H locs hr_14 S => ?_)
    subst hr_14
    refine r_eqB (tgt := 24) X dX10_age_17 (by decide) (fun c_17 => ?_) (fun c_17 => ?_)
    · refine lv_iconst (v := 0) X.1 X.2.1 dX10_age_24 (by decide) ?_
      refine lv_istore (lv' := [(6, .int 0), (0, .ref y), (1, .int c), (2, .int a), (3, .int b), (4, .int p), (5, .int q)]) X.1 X.2.1 dX10_age_25 hl (by decide) rfl (fun ls hl => ?_)
      refine lv_iload X.1 X.2.1 dX10_age_27 (lv_at hl 5 rfl) ?_
      refine lv_iload_n X.1 X.2.1 dX10_age_29 rfl (lv_at hl 3 rfl) ?_
      refine lv_icmp_lt (tgt := 43) X.1 X.2.1 dX10_age_30 (by decide) (fun c_30 => ?_) (fun c_30 => ?_)
      · refine lv_iconst (v := 0) X.1 X.2.1 dX10_age_43 (by decide) ?_
        refine lv_istore (lv' := [(7, .int 0), (6, .int 0), (0, .ref y), (1, .int c), (2, .int a), (3, .int b), (4, .int p), (5, .int q)]) X.1 X.2.1 dX10_age_44 hl (by decide) rfl (fun ls hl => ?_)
        refine lv_aload_n X.1 X.2.1 dX10_age_46 rfl (lv_at hl 2 rfl) ?_
        refine lv_iload X.1 X.2.1 dX10_age_47 (lv_at hl 1 rfl) ?_
        refine lv_if_ne (x := 0) (tgt := 56) X.1 X.2.1 dX10_age_49 (by decide) (fun c_49 => by first | exact absurd c_49 (by decide) | exact absurd (by decide) c_49) (fun c_49 => ?_)
        refine lv_iconst (v := 1) X.1 X.2.1 dX10_age_52 (by decide) ?_
        refine lv_goto (tgt := 84) X.1 X.2.1 dX10_age_53 (by decide) ?_
        refine call_i (run_V X S (n_can l G f y A (nI (st 0 0)) (nI (st 0 4)) (nI (st 0 1)) (nI (st 0 2)) (nI (st 0 3)) thr hy 1 (by omega)) 1 gX10_age_X10_can rfl rfl rfl (by decide +kernel) ⟨(by exact Nat.le_of_ble_eq_true rfl), (by exact Nat.le_of_ble_eq_true rfl)⟩ ⟨_, _, hy⟩ rfl rfl rfl hl.1 rfl (by exact Nat.le_of_ble_eq_true rfl) dX10_age_84 ⟨(by exact Nat.le_of_ble_eq_true rfl), (by exact Nat.le_of_ble_eq_true rfl)⟩) S (fun r_84 f_84 H locs hr_84 S => ?_)
        obtain ⟨rfl, e_can⟩ := hr_84
        have hy_84 : f_84 y = some (1000, .inr (10, [.ref (A 1), .int (nI (st 0 0)), .ref (A 2), .ref (A 3), .ref (A 5), .ref (A 7), .int (nI (st 0 4)), .int (nI (st 0 1)), .int (nI (st 0 2)), .ref (A 9), .int (nI (st 0 3)), .ref (A 10), .ref (A 11), .int (nI 1)])) := by rw [e_can]; exact wu_self _ _ _ _
        have mm_84 : md tM f f_84 := by rw [e_can]; exact md_tr mm0 (md_put hy) (fun _ q => q) (fun t q => by subst q; unfold tM; omega)
        have hM0 : RMx G f_84 st y A V VL (nI 1) := by rw [e_can]; exact RMx_thr hM
        refine r_toi (y := 0) (by rfl) ?_
        have hKC : (k3 (eyeP st c a b p q) (ordP a b p q) (lackN st (densN st (nN c) (nN a) (nN b) (nN p) (nN q)) = 0)) = 1 := k3_1 (fun z => by first | exact dF c_5 z.1 | exact dF c_17 z.2)
        refine lv_if_ne (x := 0) (tgt := 92) X.1 X.2.1 dX10_age_87 (by decide) (fun c_87 => by first | exact absurd c_87 (by decide) | exact absurd (by decide) c_87) (fun c_87 => ?_)
        refine lv_lconst (v := 0) X.1 X.2.1 dX10_age_90 (by decide) ?_
        refine e_l X hr S (Nat.le_of_ble_eq_true rfl) (Nat.le_of_ble_eq_true rfl) dX10_age_91 ?_
        rw [hKC]
        exact ⟨⟨A, V, VL, hM0⟩, mm_84, fun z => absurd z (by decide)⟩
      · refine lv_iload X.1 X.2.1 dX10_age_33 (lv_at hl 6 rfl) ?_
        refine lv_iload_n X.1 X.2.1 dX10_age_35 rfl (lv_at hl 4 rfl) ?_
        refine lv_icmp_lt (tgt := 43) X.1 X.2.1 dX10_age_36 (by decide) (fun c_36 => ?_) (fun c_36 => ?_)
        · refine lv_iconst (v := 0) X.1 X.2.1 dX10_age_43 (by decide) ?_
          refine lv_istore (lv' := [(7, .int 0), (6, .int 0), (0, .ref y), (1, .int c), (2, .int a), (3, .int b), (4, .int p), (5, .int q)]) X.1 X.2.1 dX10_age_44 hl (by decide) rfl (fun ls hl => ?_)
          refine lv_aload_n X.1 X.2.1 dX10_age_46 rfl (lv_at hl 2 rfl) ?_
          refine lv_iload X.1 X.2.1 dX10_age_47 (lv_at hl 1 rfl) ?_
          refine lv_if_ne (x := 0) (tgt := 56) X.1 X.2.1 dX10_age_49 (by decide) (fun c_49 => by first | exact absurd c_49 (by decide) | exact absurd (by decide) c_49) (fun c_49 => ?_)
          refine lv_iconst (v := 1) X.1 X.2.1 dX10_age_52 (by decide) ?_
          refine lv_goto (tgt := 84) X.1 X.2.1 dX10_age_53 (by decide) ?_
          refine call_i (run_V X S (n_can l G f y A (nI (st 0 0)) (nI (st 0 4)) (nI (st 0 1)) (nI (st 0 2)) (nI (st 0 3)) thr hy 1 (by omega)) 1 gX10_age_X10_can rfl rfl rfl (by decide +kernel) ⟨(by exact Nat.le_of_ble_eq_true rfl), (by exact Nat.le_of_ble_eq_true rfl)⟩ ⟨_, _, hy⟩ rfl rfl rfl hl.1 rfl (by exact Nat.le_of_ble_eq_true rfl) dX10_age_84 ⟨(by exact Nat.le_of_ble_eq_true rfl), (by exact Nat.le_of_ble_eq_true rfl)⟩) S (fun r_84 f_84 H locs hr_84 S => ?_)
          obtain ⟨rfl, e_can⟩ := hr_84
          have hy_84 : f_84 y = some (1000, .inr (10, [.ref (A 1), .int (nI (st 0 0)), .ref (A 2), .ref (A 3), .ref (A 5), .ref (A 7), .int (nI (st 0 4)), .int (nI (st 0 1)), .int (nI (st 0 2)), .ref (A 9), .int (nI (st 0 3)), .ref (A 10), .ref (A 11), .int (nI 1)])) := by rw [e_can]; exact wu_self _ _ _ _
          have mm_84 : md tM f f_84 := by rw [e_can]; exact md_tr mm0 (md_put hy) (fun _ q => q) (fun t q => by subst q; unfold tM; omega)
          have hM0 : RMx G f_84 st y A V VL (nI 1) := by rw [e_can]; exact RMx_thr hM
          refine r_toi (y := 0) (by rfl) ?_
          have hKC : (k3 (eyeP st c a b p q) (ordP a b p q) (lackN st (densN st (nN c) (nN a) (nN b) (nN p) (nN q)) = 0)) = 1 := k3_1 (fun z => by first | exact dF c_5 z.1 | exact dF c_17 z.2)
          refine lv_if_ne (x := 0) (tgt := 92) X.1 X.2.1 dX10_age_87 (by decide) (fun c_87 => by first | exact absurd c_87 (by decide) | exact absurd (by decide) c_87) (fun c_87 => ?_)
          refine lv_lconst (v := 0) X.1 X.2.1 dX10_age_90 (by decide) ?_
          refine e_l X hr S (Nat.le_of_ble_eq_true rfl) (Nat.le_of_ble_eq_true rfl) dX10_age_91 ?_
          rw [hKC]
          exact ⟨⟨A, V, VL, hM0⟩, mm_84, fun z => absurd z (by decide)⟩
        · refine lv_iconst (v := 1) X.1 X.2.1 dX10_age_39 (by decide) ?_
          refine lv_goto (tgt := 44) X.1 X.2.1 dX10_age_40 (by decide) ?_
          refine lv_istore (lv' := [(7, .int 1), (6, .int 0), (0, .ref y), (1, .int c), (2, .int a), (3, .int b), (4, .int p), (5, .int q)]) X.1 X.2.1 dX10_age_44 hl (by decide) rfl (fun ls hl => ?_)
          refine lv_aload_n X.1 X.2.1 dX10_age_46 rfl (lv_at hl 2 rfl) ?_
          refine lv_iload X.1 X.2.1 dX10_age_47 (lv_at hl 1 rfl) ?_
          refine lv_if_ne (x := 0) (tgt := 56) X.1 X.2.1 dX10_age_49 (by decide) (fun c_49 => by first | exact absurd c_49 (by decide) | exact absurd (by decide) c_49) (fun c_49 => ?_)
          refine lv_iconst (v := 1) X.1 X.2.1 dX10_age_52 (by decide) ?_
          refine lv_goto (tgt := 84) X.1 X.2.1 dX10_age_53 (by decide) ?_
          refine call_i (run_V X S (n_can l G f y A (nI (st 0 0)) (nI (st 0 4)) (nI (st 0 1)) (nI (st 0 2)) (nI (st 0 3)) thr hy 1 (by omega)) 1 gX10_age_X10_can rfl rfl rfl (by decide +kernel) ⟨(by exact Nat.le_of_ble_eq_true rfl), (by exact Nat.le_of_ble_eq_true rfl)⟩ ⟨_, _, hy⟩ rfl rfl rfl hl.1 rfl (by exact Nat.le_of_ble_eq_true rfl) dX10_age_84 ⟨(by exact Nat.le_of_ble_eq_true rfl), (by exact Nat.le_of_ble_eq_true rfl)⟩) S (fun r_84 f_84 H locs hr_84 S => ?_)
          obtain ⟨rfl, e_can⟩ := hr_84
          have hy_84 : f_84 y = some (1000, .inr (10, [.ref (A 1), .int (nI (st 0 0)), .ref (A 2), .ref (A 3), .ref (A 5), .ref (A 7), .int (nI (st 0 4)), .int (nI (st 0 1)), .int (nI (st 0 2)), .ref (A 9), .int (nI (st 0 3)), .ref (A 10), .ref (A 11), .int (nI 1)])) := by rw [e_can]; exact wu_self _ _ _ _
          have mm_84 : md tM f f_84 := by rw [e_can]; exact md_tr mm0 (md_put hy) (fun _ q => q) (fun t q => by subst q; unfold tM; omega)
          have hM0 : RMx G f_84 st y A V VL (nI 1) := by rw [e_can]; exact RMx_thr hM
          refine r_toi (y := 0) (by rfl) ?_
          have hKC : (k3 (eyeP st c a b p q) (ordP a b p q) (lackN st (densN st (nN c) (nN a) (nN b) (nN p) (nN q)) = 0)) = 1 := k3_1 (fun z => by first | exact dF c_5 z.1 | exact dF c_17 z.2)
          refine lv_if_ne (x := 0) (tgt := 92) X.1 X.2.1 dX10_age_87 (by decide) (fun c_87 => by first | exact absurd c_87 (by decide) | exact absurd (by decide) c_87) (fun c_87 => ?_)
          refine lv_lconst (v := 0) X.1 X.2.1 dX10_age_90 (by decide) ?_
          refine e_l X hr S (Nat.le_of_ble_eq_true rfl) (Nat.le_of_ble_eq_true rfl) dX10_age_91 ?_
          rw [hKC]
          exact ⟨⟨A, V, VL, hM0⟩, mm_84, fun z => absurd z (by decide)⟩
    · refine lv_iconst (v := 1) X.1 X.2.1 dX10_age_20 (by decide) ?_
      refine lv_goto (tgt := 25) X.1 X.2.1 dX10_age_21 (by decide) ?_
      refine lv_istore (lv' := [(6, .int 1), (0, .ref y), (1, .int c), (2, .int a), (3, .int b), (4, .int p), (5, .int q)]) X.1 X.2.1 dX10_age_25 hl (by decide) rfl (fun ls hl => ?_)
      refine lv_iload X.1 X.2.1 dX10_age_27 (lv_at hl 5 rfl) ?_
      refine lv_iload_n X.1 X.2.1 dX10_age_29 rfl (lv_at hl 3 rfl) ?_
      refine lv_icmp_lt (tgt := 43) X.1 X.2.1 dX10_age_30 (by decide) (fun c_30 => ?_) (fun c_30 => ?_)
      · refine lv_iconst (v := 0) X.1 X.2.1 dX10_age_43 (by decide) ?_
        refine lv_istore (lv' := [(7, .int 0), (6, .int 1), (0, .ref y), (1, .int c), (2, .int a), (3, .int b), (4, .int p), (5, .int q)]) X.1 X.2.1 dX10_age_44 hl (by decide) rfl (fun ls hl => ?_)
        refine lv_aload_n X.1 X.2.1 dX10_age_46 rfl (lv_at hl 2 rfl) ?_
        refine lv_iload X.1 X.2.1 dX10_age_47 (lv_at hl 1 rfl) ?_
        refine lv_if_ne (x := 1) (tgt := 56) X.1 X.2.1 dX10_age_49 (by decide) (fun c_49 => ?_) (fun c_49 => by first | exact absurd c_49 (by decide) | exact absurd (by decide) c_49)
        refine lv_iload X.1 X.2.1 dX10_age_56 (lv_at hl 0 rfl) ?_
        refine lv_if_ne (x := 0) (tgt := 65) X.1 X.2.1 dX10_age_58 (by decide) (fun c_58 => by first | exact absurd c_58 (by decide) | exact absurd (by decide) c_58) (fun c_58 => ?_)
        refine lv_iconst (v := 2) X.1 X.2.1 dX10_age_61 (by decide) ?_
        refine lv_goto (tgt := 84) X.1 X.2.1 dX10_age_62 (by decide) ?_
        refine call_i (run_V X S (n_can l G f y A (nI (st 0 0)) (nI (st 0 4)) (nI (st 0 1)) (nI (st 0 2)) (nI (st 0 3)) thr hy 2 (by omega)) 1 gX10_age_X10_can rfl rfl rfl (by decide +kernel) ⟨(by exact Nat.le_of_ble_eq_true rfl), (by exact Nat.le_of_ble_eq_true rfl)⟩ ⟨_, _, hy⟩ rfl rfl rfl hl.1 rfl (by exact Nat.le_of_ble_eq_true rfl) dX10_age_84 ⟨(by exact Nat.le_of_ble_eq_true rfl), (by exact Nat.le_of_ble_eq_true rfl)⟩) S (fun r_84 f_84 H locs hr_84 S => ?_)
        obtain ⟨rfl, e_can⟩ := hr_84
        have hy_84 : f_84 y = some (1000, .inr (10, [.ref (A 1), .int (nI (st 0 0)), .ref (A 2), .ref (A 3), .ref (A 5), .ref (A 7), .int (nI (st 0 4)), .int (nI (st 0 1)), .int (nI (st 0 2)), .ref (A 9), .int (nI (st 0 3)), .ref (A 10), .ref (A 11), .int (nI 2)])) := by rw [e_can]; exact wu_self _ _ _ _
        have mm_84 : md tM f f_84 := by rw [e_can]; exact md_tr mm0 (md_put hy) (fun _ q => q) (fun t q => by subst q; unfold tM; omega)
        have hM0 : RMx G f_84 st y A V VL (nI 2) := by rw [e_can]; exact RMx_thr hM
        refine r_toi (y := 0) (by rfl) ?_
        have hKC : (k3 (eyeP st c a b p q) (ordP a b p q) (lackN st (densN st (nN c) (nN a) (nN b) (nN p) (nN q)) = 0)) = 2 := k3_2 ⟨dT c_5, dT c_17⟩ (fun z => by first | (rw [i_lt] at c_30; have := z.1; omega) | (rw [i_lt] at c_36; have := z.2; omega))
        refine lv_if_ne (x := 0) (tgt := 92) X.1 X.2.1 dX10_age_87 (by decide) (fun c_87 => by first | exact absurd c_87 (by decide) | exact absurd (by decide) c_87) (fun c_87 => ?_)
        refine lv_lconst (v := 0) X.1 X.2.1 dX10_age_90 (by decide) ?_
        refine e_l X hr S (Nat.le_of_ble_eq_true rfl) (Nat.le_of_ble_eq_true rfl) dX10_age_91 ?_
        rw [hKC]
        exact ⟨⟨A, V, VL, hM0⟩, mm_84, fun z => absurd z (by decide)⟩
      · refine lv_iload X.1 X.2.1 dX10_age_33 (lv_at hl 6 rfl) ?_
        refine lv_iload_n X.1 X.2.1 dX10_age_35 rfl (lv_at hl 4 rfl) ?_
        refine lv_icmp_lt (tgt := 43) X.1 X.2.1 dX10_age_36 (by decide) (fun c_36 => ?_) (fun c_36 => ?_)
        · refine lv_iconst (v := 0) X.1 X.2.1 dX10_age_43 (by decide) ?_
          refine lv_istore (lv' := [(7, .int 0), (6, .int 1), (0, .ref y), (1, .int c), (2, .int a), (3, .int b), (4, .int p), (5, .int q)]) X.1 X.2.1 dX10_age_44 hl (by decide) rfl (fun ls hl => ?_)
          refine lv_aload_n X.1 X.2.1 dX10_age_46 rfl (lv_at hl 2 rfl) ?_
          refine lv_iload X.1 X.2.1 dX10_age_47 (lv_at hl 1 rfl) ?_
          refine lv_if_ne (x := 1) (tgt := 56) X.1 X.2.1 dX10_age_49 (by decide) (fun c_49 => ?_) (fun c_49 => by first | exact absurd c_49 (by decide) | exact absurd (by decide) c_49)
          refine lv_iload X.1 X.2.1 dX10_age_56 (lv_at hl 0 rfl) ?_
          refine lv_if_ne (x := 0) (tgt := 65) X.1 X.2.1 dX10_age_58 (by decide) (fun c_58 => by first | exact absurd c_58 (by decide) | exact absurd (by decide) c_58) (fun c_58 => ?_)
          refine lv_iconst (v := 2) X.1 X.2.1 dX10_age_61 (by decide) ?_
          refine lv_goto (tgt := 84) X.1 X.2.1 dX10_age_62 (by decide) ?_
          refine call_i (run_V X S (n_can l G f y A (nI (st 0 0)) (nI (st 0 4)) (nI (st 0 1)) (nI (st 0 2)) (nI (st 0 3)) thr hy 2 (by omega)) 1 gX10_age_X10_can rfl rfl rfl (by decide +kernel) ⟨(by exact Nat.le_of_ble_eq_true rfl), (by exact Nat.le_of_ble_eq_true rfl)⟩ ⟨_, _, hy⟩ rfl rfl rfl hl.1 rfl (by exact Nat.le_of_ble_eq_true rfl) dX10_age_84 ⟨(by exact Nat.le_of_ble_eq_true rfl), (by exact Nat.le_of_ble_eq_true rfl)⟩) S (fun r_84 f_84 H locs hr_84 S => ?_)
          obtain ⟨rfl, e_can⟩ := hr_84
          have hy_84 : f_84 y = some (1000, .inr (10, [.ref (A 1), .int (nI (st 0 0)), .ref (A 2), .ref (A 3), .ref (A 5), .ref (A 7), .int (nI (st 0 4)), .int (nI (st 0 1)), .int (nI (st 0 2)), .ref (A 9), .int (nI (st 0 3)), .ref (A 10), .ref (A 11), .int (nI 2)])) := by rw [e_can]; exact wu_self _ _ _ _
          have mm_84 : md tM f f_84 := by rw [e_can]; exact md_tr mm0 (md_put hy) (fun _ q => q) (fun t q => by subst q; unfold tM; omega)
          have hM0 : RMx G f_84 st y A V VL (nI 2) := by rw [e_can]; exact RMx_thr hM
          refine r_toi (y := 0) (by rfl) ?_
          have hKC : (k3 (eyeP st c a b p q) (ordP a b p q) (lackN st (densN st (nN c) (nN a) (nN b) (nN p) (nN q)) = 0)) = 2 := k3_2 ⟨dT c_5, dT c_17⟩ (fun z => by first | (rw [i_lt] at c_30; have := z.1; omega) | (rw [i_lt] at c_36; have := z.2; omega))
          refine lv_if_ne (x := 0) (tgt := 92) X.1 X.2.1 dX10_age_87 (by decide) (fun c_87 => by first | exact absurd c_87 (by decide) | exact absurd (by decide) c_87) (fun c_87 => ?_)
          refine lv_lconst (v := 0) X.1 X.2.1 dX10_age_90 (by decide) ?_
          refine e_l X hr S (Nat.le_of_ble_eq_true rfl) (Nat.le_of_ble_eq_true rfl) dX10_age_91 ?_
          rw [hKC]
          exact ⟨⟨A, V, VL, hM0⟩, mm_84, fun z => absurd z (by decide)⟩
        · refine lv_iconst (v := 1) X.1 X.2.1 dX10_age_39 (by decide) ?_
          refine lv_goto (tgt := 44) X.1 X.2.1 dX10_age_40 (by decide) ?_
          refine lv_istore (lv' := [(7, .int 1), (6, .int 1), (0, .ref y), (1, .int c), (2, .int a), (3, .int b), (4, .int p), (5, .int q)]) X.1 X.2.1 dX10_age_44 hl (by decide) rfl (fun ls hl => ?_)
          refine lv_aload_n X.1 X.2.1 dX10_age_46 rfl (lv_at hl 2 rfl) ?_
          refine lv_iload X.1 X.2.1 dX10_age_47 (lv_at hl 1 rfl) ?_
          refine lv_if_ne (x := 1) (tgt := 56) X.1 X.2.1 dX10_age_49 (by decide) (fun c_49 => ?_) (fun c_49 => by first | exact absurd c_49 (by decide) | exact absurd (by decide) c_49)
          refine lv_iload X.1 X.2.1 dX10_age_56 (lv_at hl 0 rfl) ?_
          refine lv_if_ne (x := 1) (tgt := 65) X.1 X.2.1 dX10_age_58 (by decide) (fun c_58 => ?_) (fun c_58 => by first | exact absurd c_58 (by decide) | exact absurd (by decide) c_58)
          have hP1 : (eyeP st c a b p q) := ⟨dT c_5, dT c_17⟩
          have hP2 : ordP a b p q := by rw [i_lt] at c_30 c_36; exact ⟨by omega, by omega⟩
          obtain ⟨c1, rfl, clo, cup, cbd⟩ := inI_sub hP1.1 (by omega)
          have nc : nN (nI c1) = c1 := nN_nI cbd
          obtain ⟨a1, rfl, alo, aup, abd⟩ := inI_sub hP1.2.1.1 (by omega)
          have na : nN (nI a1) = a1 := nN_nI abd
          obtain ⟨b1, rfl, blo, bup, bbd⟩ := inI_sub hP1.2.1.2 (by omega)
          have nb : nN (nI b1) = b1 := nN_nI bbd
          obtain ⟨p1, rfl, plo, pup, pbd⟩ := inI_sub hP1.2.2.1 (by omega)
          have np : nN (nI p1) = p1 := nN_nI pbd
          obtain ⟨q1, rfl, qlo, qup, qbd⟩ := inI_sub hP1.2.2.2 (by omega)
          have nq : nN (nI q1) = q1 := nN_nI qbd
          have hox : a1 ≤ p1 := by have := hP2.1; rw [i_n (by omega), i_n (by omega)] at this; omega
          have hoy : b1 ≤ q1 := by have := hP2.2; rw [i_n (by omega), i_n (by omega)] at this; omega
          refine lv_aload_n X.1 X.2.1 dX10_age_65 rfl (lv_at hl 2 rfl) ?_
          refine lv_iload_n X.1 X.2.1 dX10_age_66 rfl (lv_at hl 3 rfl) ?_
          refine lv_iload_n X.1 X.2.1 dX10_age_67 rfl (lv_at hl 4 rfl) ?_
          refine lv_iload_n X.1 X.2.1 dX10_age_68 rfl (lv_at hl 5 rfl) ?_
          refine lv_iload X.1 X.2.1 dX10_age_69 (lv_at hl 6 rfl) ?_
          refine lv_iload X.1 X.2.1 dX10_age_71 (lv_at hl 7 rfl) ?_
          refine call_ip (run_V X S (n_reason l G f st y A V VL thr hI hM c1 a1 b1 p1 q1 (by omega) (by omega) (by omega) (by omega) (by omega) hox hoy) 5 gX10_age_X10_reason rfl rfl rfl (by decide +kernel) ⟨(by exact Nat.le_of_ble_eq_true rfl), (by exact Nat.le_of_ble_eq_true rfl)⟩ ⟨_, _, hy⟩ rfl rfl rfl hl.1 rfl (by exact Nat.le_of_ble_eq_true rfl) dX10_age_73 ⟨(Nat.zero_le _), (Nat.zero_le _)⟩) S (fun r_73 H locs hr_73 S => ?_)
          subst hr_73
          refine lv_if_le (tgt := 83) X.1 X.2.1 dX10_age_76 (by decide) (fun c_76 => ?_) (fun c_76 => ?_)
          · refine lv_iconst (v := 0) X.1 X.2.1 dX10_age_83 (by decide) ?_
            refine call_i (run_V X S (n_can l G f y A (nI (st 0 0)) (nI (st 0 4)) (nI (st 0 1)) (nI (st 0 2)) (nI (st 0 3)) thr hy 0 (by omega)) 1 gX10_age_X10_can rfl rfl rfl (by decide +kernel) ⟨(by exact Nat.le_of_ble_eq_true rfl), (by exact Nat.le_of_ble_eq_true rfl)⟩ ⟨_, _, hy⟩ rfl rfl rfl hl.1 rfl (by exact Nat.le_of_ble_eq_true rfl) dX10_age_84 ⟨(by exact Nat.le_of_ble_eq_true rfl), (by exact Nat.le_of_ble_eq_true rfl)⟩) S (fun r_84 f_84 H locs hr_84 S => ?_)
            obtain ⟨rfl, e_can⟩ := hr_84
            have hy_84 : f_84 y = some (1000, .inr (10, [.ref (A 1), .int (nI (st 0 0)), .ref (A 2), .ref (A 3), .ref (A 5), .ref (A 7), .int (nI (st 0 4)), .int (nI (st 0 1)), .int (nI (st 0 2)), .ref (A 9), .int (nI (st 0 3)), .ref (A 10), .ref (A 11), .int (nI 0)])) := by rw [e_can]; exact wu_self _ _ _ _
            have mm_84 : md tM f f_84 := by rw [e_can]; exact md_tr mm0 (md_put hy) (fun _ q => q) (fun t q => by subst q; unfold tM; omega)
            have hM0 : RMx G f_84 st y A V VL (nI 0) := by rw [e_can]; exact RMx_thr hM
            refine r_toi (y := 1) (by rfl) ?_
            have hlk : (lackN st (densN st c1 a1 b1 p1 q1)) = 0 := nI_le0 (by unfold lackN; split; omega; split <;> omega) c_76
            have hKC : (k3 (eyeP st (nI c1) (nI a1) (nI b1) (nI p1) (nI q1)) (ordP (nI a1) (nI b1) (nI p1) (nI q1)) (lackN st (densN st (nN (nI c1)) (nN (nI a1)) (nN (nI b1)) (nN (nI p1)) (nN (nI q1))) = 0)) = 0 := k3_0 hP1 hP2 (by rw [nc, na, nb, np, nq]; exact hlk)
            have hlk2 := lack_0 hlk
            refine lv_if_ne (x := 1) (tgt := 92) X.1 X.2.1 dX10_age_87 (by decide) (fun c_87 => ?_) (fun c_87 => by first | exact absurd c_87 (by decide) | exact absurd (by decide) c_87)
            refine lv_aload_n X.1 X.2.1 dX10_age_92 rfl (lv_at hl 2 rfl) ?_
            refine lv_aload_n X.1 X.2.1 dX10_age_93 rfl (lv_at hl 2 rfl) ?_
            refine lv_iload_n X.1 X.2.1 dX10_age_94 rfl (lv_at hl 3 rfl) ?_
            refine lv_iload_n X.1 X.2.1 dX10_age_95 rfl (lv_at hl 4 rfl) ?_
            refine lv_iload_n X.1 X.2.1 dX10_age_96 rfl (lv_at hl 5 rfl) ?_
            refine lv_iload X.1 X.2.1 dX10_age_97 (lv_at hl 6 rfl) ?_
            refine lv_iload X.1 X.2.1 dX10_age_99 (lv_at hl 7 rfl) ?_
            refine call_lp (run_V X S (n_densityOf l G f_84 st y A V VL (nI 0) hI hM0 c1 a1 b1 p1 q1 (by omega) (by omega) (by omega) (by omega) (by omega) hox hoy) 5 gX10_age_X10_densityOf rfl rfl rfl (by decide +kernel) ⟨(by exact Nat.le_of_ble_eq_true rfl), (by exact Nat.le_of_ble_eq_true rfl)⟩ ⟨_, _, hy_84⟩ rfl rfl rfl hl.1 rfl (by exact Nat.le_of_ble_eq_true rfl) dX10_age_101 ⟨(Nat.zero_le _), (Nat.zero_le _)⟩) S (fun r_101 H locs hr_101 S => ?_)
            subst hr_101
            refine call_lp (run_V X S (n_ageBy l G f_84 st y A V VL (nI 0) hI hM0 (densN st c1 a1 b1 p1 q1) hlk2.1 hlk2.2) 1 gX10_age_X10_ageBy rfl rfl rfl (by decide +kernel) ⟨(by exact Nat.le_of_ble_eq_true rfl), (by exact Nat.le_of_ble_eq_true rfl)⟩ ⟨_, _, hy_84⟩ rfl rfl rfl hl.1 rfl (by exact Nat.le_of_ble_eq_true rfl) dX10_age_104 ⟨(Nat.zero_le _), (Nat.zero_le _)⟩) S (fun r_104 H locs hr_104 S => ?_)
            refine e_l X hr S (Nat.le_of_ble_eq_true rfl) (Nat.le_of_ble_eq_true rfl) dX10_age_107 ?_
            rw [hKC]
            refine ⟨?_, mm_84, fun _ => ?_⟩
            · exact ⟨A, V, VL, hM0⟩
            · rw [nc, na, nb, np, nq]; exact hr_104
          · refine lv_iconst (v := 3) X.1 X.2.1 dX10_age_79 (by decide) ?_
            refine lv_goto (tgt := 84) X.1 X.2.1 dX10_age_80 (by decide) ?_
            refine call_i (run_V X S (n_can l G f y A (nI (st 0 0)) (nI (st 0 4)) (nI (st 0 1)) (nI (st 0 2)) (nI (st 0 3)) thr hy 3 (by omega)) 1 gX10_age_X10_can rfl rfl rfl (by decide +kernel) ⟨(by exact Nat.le_of_ble_eq_true rfl), (by exact Nat.le_of_ble_eq_true rfl)⟩ ⟨_, _, hy⟩ rfl rfl rfl hl.1 rfl (by exact Nat.le_of_ble_eq_true rfl) dX10_age_84 ⟨(by exact Nat.le_of_ble_eq_true rfl), (by exact Nat.le_of_ble_eq_true rfl)⟩) S (fun r_84 f_84 H locs hr_84 S => ?_)
            obtain ⟨rfl, e_can⟩ := hr_84
            have hy_84 : f_84 y = some (1000, .inr (10, [.ref (A 1), .int (nI (st 0 0)), .ref (A 2), .ref (A 3), .ref (A 5), .ref (A 7), .int (nI (st 0 4)), .int (nI (st 0 1)), .int (nI (st 0 2)), .ref (A 9), .int (nI (st 0 3)), .ref (A 10), .ref (A 11), .int (nI 3)])) := by rw [e_can]; exact wu_self _ _ _ _
            have mm_84 : md tM f f_84 := by rw [e_can]; exact md_tr mm0 (md_put hy) (fun _ q => q) (fun t q => by subst q; unfold tM; omega)
            have hM0 : RMx G f_84 st y A V VL (nI 3) := by rw [e_can]; exact RMx_thr hM
            refine r_toi (y := 0) (by rfl) ?_
            have hKC : (k3 (eyeP st (nI c1) (nI a1) (nI b1) (nI p1) (nI q1)) (ordP (nI a1) (nI b1) (nI p1) (nI q1)) (lackN st (densN st (nN (nI c1)) (nN (nI a1)) (nN (nI b1)) (nN (nI p1)) (nN (nI q1))) = 0)) = 3 := k3_3 hP1 hP2 (fun z => c_76 (by rw [nc, na, nb, np, nq] at z; rw [z]; decide))
            refine lv_if_ne (x := 0) (tgt := 92) X.1 X.2.1 dX10_age_87 (by decide) (fun c_87 => by first | exact absurd c_87 (by decide) | exact absurd (by decide) c_87) (fun c_87 => ?_)
            refine lv_lconst (v := 0) X.1 X.2.1 dX10_age_90 (by decide) ?_
            refine e_l X hr S (Nat.le_of_ble_eq_true rfl) (Nat.le_of_ble_eq_true rfl) dX10_age_91 ?_
            rw [hKC]
            exact ⟨⟨A, V, VL, hM0⟩, mm_84, fun z => absurd z (by decide)⟩

set_option maxRecDepth 100000 in
set_option maxHeartbeats 4000000 in
/-- craters -/
theorem n_craters (l : Launch) (G : cx_G) (f : Wd) (st : St) (y : Nat) (A : Nat → Nat) (V : Nat → Nat → Int32) (VL : Nat → Nat → Int64) (thr : Int32) (hI : sInv st) (hM : RMx G f st y A V VL thr) : MI l G yX10_craters wsX10_craters 0 0 0 0 [.ref y] f (fun r f' => r = nI (st 0 0) ∧ RM G f' st y 0 ∧ md tM f f') := by
  refine cx_body (cc := cX10_craters) (n := 1) (ret := (some .int)) (by decide +kernel) rfl (Nat.le_of_ble_eq_true rfl) ?_
  intro p0 e0 s0 m0 b0 meth0 c0 ls X hr hnm S hl
  have X : cxC G p0 l _ c0 cX10_craters 1 m0 meth0 s0 _ RX10 wsX10_craters := X
  have hl : lv_has ls 1 [(0, .ref y)] := hl
  have in_RX10 : ∀ w ∈ u_ws RX10 TX10 14, w ∈ wsX10_craters := by decide +kernel
  obtain ⟨hi0, hi1, hi2, hi3, hi4, hi5, hi6, hi7⟩ := id hI
  obtain ⟨hy, ⟨hA1, hA2, hA3, hA5, hA7, hA9, hA10, hA11⟩, hv1, hvk, hv9, hvL⟩ := id hM
  have mm0 : md tM f f := md_rf _ _
  refine lv_aload_n X.1 X.2.1 dX10_craters_0 rfl (lv_at hl 0 rfl) ?_
  refine lv_iconst (v := 0) X.1 X.2.1 dX10_craters_1 (by decide) ?_
  refine r_put (C := RX10) (T := TX10) (N := 14) (ref := "CraterclockModel") (fs' := [.ref (A 1), .int (nI (st 0 0)), .ref (A 2), .ref (A 3), .ref (A 5), .ref (A 7), .int (nI (st 0 4)), .int (nI (st 0 1)), .int (nI (st 0 2)), .ref (A 9), .int (nI (st 0 3)), .ref (A 10), .ref (A 11), .int 0]) (ty := .int) X S in_RX10 tyX10 tyX10_ok nmX10 hy (by decide) rfl 13 (by decide) (by decide +kernel) (fun _ h => h) rfl (by decide +kernel) rfl rfl (Nat.le_of_ble_eq_true rfl) rfl dX10_craters_2 (fun H locs S => ?_)
  obtain ⟨f_2, ef_2⟩ : ∃ z9 : Wd, z9 = wu f y 1000 (.inr (10, [.ref (A 1), .int (nI (st 0 0)), .ref (A 2), .ref (A 3), .ref (A 5), .ref (A 7), .int (nI (st 0 4)), .int (nI (st 0 1)), .int (nI (st 0 2)), .ref (A 9), .int (nI (st 0 3)), .ref (A 10), .ref (A 11), .int 0])) := ⟨_, rfl⟩
  rw [← ef_2] at S
  have hy_2 : f_2 y = some (1000, .inr (10, [.ref (A 1), .int (nI (st 0 0)), .ref (A 2), .ref (A 3), .ref (A 5), .ref (A 7), .int (nI (st 0 4)), .int (nI (st 0 1)), .int (nI (st 0 2)), .ref (A 9), .int (nI (st 0 3)), .ref (A 10), .ref (A 11), .int 0])) := by rw [ef_2]; exact wu_self _ _ _ _
  have mm_2 : md tM f f_2 := by rw [ef_2]; exact md_tr mm0 (md_put hy) (fun _ q => q) (fun t q => by subst q; unfold tM; omega)
  refine lv_aload_n X.1 X.2.1 dX10_craters_5 rfl (lv_at hl 0 rfl) ?_
  refine r_get (C := RX10) (T := TX10) (N := 14) (ref := "CraterclockModel") X S in_RX10 hy_2 rfl 1 (by decide) (by decide +kernel) (fun _ h => h) rfl dX10_craters_6 ?_
  refine e_i X hr S (Nat.le_of_ble_eq_true rfl) (Nat.le_of_ble_eq_true rfl) dX10_craters_9 ?_
  exact ⟨rfl, ⟨A, V, VL, by rw [ef_2]; exact RMx_thr hM⟩, mm_2⟩

set_option maxRecDepth 100000 in
set_option maxHeartbeats 4000000 in
/-- about -/
theorem n_about (l : Launch) (G : cx_G) (f : Wd) (st : St) (y : Nat) (A : Nat → Nat) (V : Nat → Nat → Int32) (VL : Nat → Nat → Int64) (thr : Int32) (hI : sInv st) (hM : RMx G f st y A V VL thr) (c v : Int32) : MI l G yX10_about wsX10_about 2 43 0 0 [.ref y, .int c, .int v] f (fun r f' => RM G f' (stp (k2 (inI c 0 ((st 0 0 : Int) - 1)) (inI v 0 3)) st st) y (nI (k2 (inI c 0 ((st 0 0 : Int) - 1)) (inI v 0 3))) ∧ md tM f f' ∧ ((k2 (inI c 0 ((st 0 0 : Int) - 1)) (inI v 0 3)) = 0 → r = nI (aboutN st (nN c) (nN v)))) := by
  refine cx_body (cc := cX10_about) (n := 3) (ret := (some .int)) (by decide +kernel) rfl (Nat.le_of_ble_eq_true rfl) ?_
  intro p0 e0 s0 m0 b0 meth0 c0 ls X hr hnm S hl
  have X : cxC G p0 l _ c0 cX10_about 3 m0 meth0 s0 _ RX10 wsX10_about := X
  have hl : lv_has ls 3 [(0, .ref y), (1, .int c), (2, .int v)] := hl
  have in_RX10 : ∀ w ∈ u_ws RX10 TX10 14, w ∈ wsX10_about := by decide +kernel
  obtain ⟨hi0, hi1, hi2, hi3, hi4, hi5, hi6, hi7⟩ := id hI
  obtain ⟨hy, ⟨hA1, hA2, hA3, hA5, hA7, hA9, hA10, hA11⟩, hv1, hvk, hv9, hvL⟩ := id hM
  have mm0 : md tM f f := md_rf _ _
  refine lv_aload_n X.1 X.2.1 dX10_about_0 rfl (lv_at hl 0 rfl) ?_
  refine lv_aload_n X.1 X.2.1 dX10_about_1 rfl (lv_at hl 0 rfl) ?_
  refine lv_iload_n X.1 X.2.1 dX10_about_2 rfl (lv_at hl 1 rfl) ?_
  refine call_ip (run_V X S (n_isCrater l G f y A (nI (st 0 4)) (nI (st 0 1)) (nI (st 0 2)) (nI (st 0 3)) thr (st 0 0) (by omega) hy c) 1 gX10_about_X10_isCrater rfl rfl rfl (by decide +kernel) ⟨(by exact Nat.le_of_ble_eq_true rfl), (by exact Nat.le_of_ble_eq_true rfl)⟩ ⟨_, _, hy⟩ rfl rfl rfl hl.1 rfl (by exact Nat.le_of_ble_eq_true rfl) dX10_about_3 ⟨(Nat.zero_le _), (Nat.zero_le _)⟩) S (fun r_3 H locs hr_3 S => ?_)
  subst hr_3
  refine r_neB (tgt := 13) X dX10_about_6 (by decide) (fun c_6 => ?_) (fun c_6 => ?_)
  · refine lv_iload_n X.1 X.2.1 dX10_about_13 rfl (lv_at hl 2 rfl) ?_
    refine lv_iconst (v := 0) X.1 X.2.1 dX10_about_14 (by decide) ?_
    refine lv_iconst (v := 3) X.1 X.2.1 dX10_about_15 (by decide) ?_
    refine call_ip (run_S X S (n_isIn l G f v 0 3 0 3 (by decide) (by decide)) 3 gX10_about_X10_isIn rfl rfl rfl (by decide +kernel) ⟨(by exact Nat.le_of_ble_eq_true rfl), (by exact Nat.le_of_ble_eq_true rfl)⟩ rfl hl.1 rfl (by exact Nat.le_of_ble_eq_true rfl) dX10_about_16 ⟨(Nat.zero_le _), (Nat.zero_le _)⟩) S (fun r_16 H locs hr_16 S => ?_)
    subst hr_16
    refine r_eqB (tgt := 26) X dX10_about_19 (by decide) (fun c_19 => ?_) (fun c_19 => ?_)
    · refine lv_iconst (v := 2) X.1 X.2.1 dX10_about_26 (by decide) ?_
      refine call_i (run_V X S (n_can l G f y A (nI (st 0 0)) (nI (st 0 4)) (nI (st 0 1)) (nI (st 0 2)) (nI (st 0 3)) thr hy 2 (by omega)) 1 gX10_about_X10_can rfl rfl rfl (by decide +kernel) ⟨(by exact Nat.le_of_ble_eq_true rfl), (by exact Nat.le_of_ble_eq_true rfl)⟩ ⟨_, _, hy⟩ rfl rfl rfl hl.1 rfl (by exact Nat.le_of_ble_eq_true rfl) dX10_about_27 ⟨(by exact Nat.le_of_ble_eq_true rfl), (by exact Nat.le_of_ble_eq_true rfl)⟩) S (fun r_27 f_27 H locs hr_27 S => ?_)
      obtain ⟨rfl, e_can⟩ := hr_27
      have hy_27 : f_27 y = some (1000, .inr (10, [.ref (A 1), .int (nI (st 0 0)), .ref (A 2), .ref (A 3), .ref (A 5), .ref (A 7), .int (nI (st 0 4)), .int (nI (st 0 1)), .int (nI (st 0 2)), .ref (A 9), .int (nI (st 0 3)), .ref (A 10), .ref (A 11), .int (nI 2)])) := by rw [e_can]; exact wu_self _ _ _ _
      have hA2_27 : f_27 (A 2) = some (1002, eI G 200 (V 2)) := by rw [e_can]; exact wu_get hy hA2 (by decide)
      have hA3_27 : f_27 (A 3) = some (1003, eI G 200 (V 3)) := by rw [e_can]; exact wu_get hy hA3 (by decide)
      have hA5_27 : f_27 (A 5) = some (1005, eI G 200 (V 5)) := by rw [e_can]; exact wu_get hy hA5 (by decide)
      have hA7_27 : f_27 (A 7) = some (1007, eI G 200 (V 7)) := by rw [e_can]; exact wu_get hy hA7 (by decide)
      have mm_27 : md tM f f_27 := by rw [e_can]; exact md_tr mm0 (md_put hy) (fun _ q => q) (fun t q => by subst q; unfold tM; omega)
      have hM0 : RMx G f_27 st y A V VL (nI 2) := by rw [e_can]; exact RMx_thr hM
      refine r_toi (y := 0) (by rfl) ?_
      have hKC : (k2 (inI c 0 ((st 0 0 : Int) - 1)) (inI v 0 3)) = 2 := k2_2 (dT c_6) (dF c_19)
      refine lv_if_ne (x := 0) (tgt := 35) X.1 X.2.1 dX10_about_30 (by decide) (fun c_30 => by first | exact absurd c_30 (by decide) | exact absurd (by decide) c_30) (fun c_30 => ?_)
      refine lv_iconst (v := 0) X.1 X.2.1 dX10_about_33 (by decide) ?_
      refine e_i X hr S (Nat.le_of_ble_eq_true rfl) (Nat.le_of_ble_eq_true rfl) dX10_about_34 ?_
      rw [hKC]
      exact ⟨⟨A, V, VL, hM0⟩, mm_27, fun z => absurd z (by decide)⟩
    · refine lv_iconst (v := 0) X.1 X.2.1 dX10_about_22 (by decide) ?_
      refine lv_goto (tgt := 27) X.1 X.2.1 dX10_about_23 (by decide) ?_
      refine call_i (run_V X S (n_can l G f y A (nI (st 0 0)) (nI (st 0 4)) (nI (st 0 1)) (nI (st 0 2)) (nI (st 0 3)) thr hy 0 (by omega)) 1 gX10_about_X10_can rfl rfl rfl (by decide +kernel) ⟨(by exact Nat.le_of_ble_eq_true rfl), (by exact Nat.le_of_ble_eq_true rfl)⟩ ⟨_, _, hy⟩ rfl rfl rfl hl.1 rfl (by exact Nat.le_of_ble_eq_true rfl) dX10_about_27 ⟨(by exact Nat.le_of_ble_eq_true rfl), (by exact Nat.le_of_ble_eq_true rfl)⟩) S (fun r_27 f_27 H locs hr_27 S => ?_)
      obtain ⟨rfl, e_can⟩ := hr_27
      have hy_27 : f_27 y = some (1000, .inr (10, [.ref (A 1), .int (nI (st 0 0)), .ref (A 2), .ref (A 3), .ref (A 5), .ref (A 7), .int (nI (st 0 4)), .int (nI (st 0 1)), .int (nI (st 0 2)), .ref (A 9), .int (nI (st 0 3)), .ref (A 10), .ref (A 11), .int (nI 0)])) := by rw [e_can]; exact wu_self _ _ _ _
      have hA2_27 : f_27 (A 2) = some (1002, eI G 200 (V 2)) := by rw [e_can]; exact wu_get hy hA2 (by decide)
      have hA3_27 : f_27 (A 3) = some (1003, eI G 200 (V 3)) := by rw [e_can]; exact wu_get hy hA3 (by decide)
      have hA5_27 : f_27 (A 5) = some (1005, eI G 200 (V 5)) := by rw [e_can]; exact wu_get hy hA5 (by decide)
      have hA7_27 : f_27 (A 7) = some (1007, eI G 200 (V 7)) := by rw [e_can]; exact wu_get hy hA7 (by decide)
      have mm_27 : md tM f f_27 := by rw [e_can]; exact md_tr mm0 (md_put hy) (fun _ q => q) (fun t q => by subst q; unfold tM; omega)
      have hM0 : RMx G f_27 st y A V VL (nI 0) := by rw [e_can]; exact RMx_thr hM
      refine r_toi (y := 1) (by rfl) ?_
      have hP1 : (inI c 0 ((st 0 0 : Int) - 1)) := dT c_6
      have hP2 : inI v 0 3 := dT c_19
      have hKC : (k2 (inI c 0 ((st 0 0 : Int) - 1)) (inI v 0 3)) = 0 := k2_0 hP1 hP2
      obtain ⟨c1, rfl, clo, cup, cbd⟩ := inI_sub hP1 (by omega)
      have nc : nN (nI c1) = c1 := nN_nI cbd
      obtain ⟨v1, rfl, vlo, vup, vbd⟩ := inI_sub hP2 (by omega)
      have nv : nN (nI v1) = v1 := nN_nI vbd
      have hlt_c1 : c1 < st 0 0 := by omega
      refine lv_if_ne (x := 1) (tgt := 35) X.1 X.2.1 dX10_about_30 (by decide) (fun c_30 => ?_) (fun c_30 => by first | exact absurd c_30 (by decide) | exact absurd (by decide) c_30)
      refine lv_iload_n X.1 X.2.1 dX10_about_35 rfl (lv_at hl 2 rfl) ?_
      refine lv_if_ne (tgt := 48) X.1 X.2.1 dX10_about_36 (by decide) (fun c_36 => ?_) (fun c_36 => ?_)
      · refine lv_iload_n X.1 X.2.1 dX10_about_48 rfl (lv_at hl 2 rfl) ?_
        refine lv_iconst (v := 1) X.1 X.2.1 dX10_about_49 (by decide) ?_
        refine lv_icmp_ne (tgt := 62) X.1 X.2.1 dX10_about_50 (by decide) (fun c_50 => ?_) (fun c_50 => ?_)
        · refine lv_iload_n X.1 X.2.1 dX10_about_62 rfl (lv_at hl 2 rfl) ?_
          refine lv_iconst (v := 2) X.1 X.2.1 dX10_about_63 (by decide) ?_
          refine lv_icmp_ne (tgt := 76) X.1 X.2.1 dX10_about_64 (by decide) (fun c_64 => ?_) (fun c_64 => ?_)
          · refine lv_aload_n X.1 X.2.1 dX10_about_76 rfl (lv_at hl 0 rfl) ?_
            refine r_get (C := RX10) (T := TX10) (N := 14) (ref := "CraterclockModel") X S in_RX10 hy_27 rfl 5 (by decide) (by decide +kernel) (fun _ h => h) rfl dX10_about_77 ?_
            refine lv_iload_n X.1 X.2.1 dX10_about_80 rfl (lv_at hl 1 rfl) ?_
            refine r_iald (v := (nI (st 7 c1))) X S hA7_27 (vp_in_nI (show c1 < 200 by omega) (by omega)) (by rw [nI_clamp (by omega)]; exact (hvk _ hlt_c1).2.2.2) dX10_about_81 ?_
            refine e_i X hr S (Nat.le_of_ble_eq_true rfl) (Nat.le_of_ble_eq_true rfl) dX10_about_82 ?_
            rw [hKC]
            refine ⟨?_, mm_27, fun _ => ?_⟩
            · exact ⟨A, V, VL, hM0⟩
            · rw [nc, nv]; unfold aboutN; rw [if_neg (fun z => c_36 (by rw [z]; rfl)), if_neg (fun z => c_50 (by rw [z]; rfl)), if_neg (fun z => c_64 (by rw [z]; rfl))]
          · refine lv_aload_n X.1 X.2.1 dX10_about_67 rfl (lv_at hl 0 rfl) ?_
            refine r_get (C := RX10) (T := TX10) (N := 14) (ref := "CraterclockModel") X S in_RX10 hy_27 rfl 4 (by decide) (by decide +kernel) (fun _ h => h) rfl dX10_about_68 ?_
            refine lv_iload_n X.1 X.2.1 dX10_about_71 rfl (lv_at hl 1 rfl) ?_
            refine r_iald (v := (nI (st 5 c1))) X S hA5_27 (vp_in_nI (show c1 < 200 by omega) (by omega)) (by rw [nI_clamp (by omega)]; exact (hvk _ hlt_c1).2.2.1) dX10_about_72 ?_
            refine lv_goto (tgt := 82) X.1 X.2.1 dX10_about_73 (by decide) ?_
            refine e_i X hr S (Nat.le_of_ble_eq_true rfl) (Nat.le_of_ble_eq_true rfl) dX10_about_82 ?_
            rw [hKC]
            refine ⟨?_, mm_27, fun _ => ?_⟩
            · exact ⟨A, V, VL, hM0⟩
            · rw [nc, nv]; unfold aboutN; rw [if_neg (fun z => c_36 (by rw [z]; rfl)), if_neg (fun z => c_50 (by rw [z]; rfl)), if_pos ((nI_eq (b := 2) (by omega) (by omega)).mp c_64)]
        · refine lv_aload_n X.1 X.2.1 dX10_about_53 rfl (lv_at hl 0 rfl) ?_
          refine r_get (C := RX10) (T := TX10) (N := 14) (ref := "CraterclockModel") X S in_RX10 hy_27 rfl 3 (by decide) (by decide +kernel) (fun _ h => h) rfl dX10_about_54 ?_
          refine lv_iload_n X.1 X.2.1 dX10_about_57 rfl (lv_at hl 1 rfl) ?_
          refine r_iald (v := (nI (st 3 c1))) X S hA3_27 (vp_in_nI (show c1 < 200 by omega) (by omega)) (by rw [nI_clamp (by omega)]; exact (hvk _ hlt_c1).2.1) dX10_about_58 ?_
          refine lv_goto (tgt := 82) X.1 X.2.1 dX10_about_59 (by decide) ?_
          refine e_i X hr S (Nat.le_of_ble_eq_true rfl) (Nat.le_of_ble_eq_true rfl) dX10_about_82 ?_
          rw [hKC]
          refine ⟨?_, mm_27, fun _ => ?_⟩
          · exact ⟨A, V, VL, hM0⟩
          · rw [nc, nv]; unfold aboutN; rw [if_neg (fun z => c_36 (by rw [z]; rfl)), if_pos ((nI_eq (b := 1) (by omega) (by omega)).mp c_50)]
      · refine lv_aload_n X.1 X.2.1 dX10_about_39 rfl (lv_at hl 0 rfl) ?_
        refine r_get (C := RX10) (T := TX10) (N := 14) (ref := "CraterclockModel") X S in_RX10 hy_27 rfl 2 (by decide) (by decide +kernel) (fun _ h => h) rfl dX10_about_40 ?_
        refine lv_iload_n X.1 X.2.1 dX10_about_43 rfl (lv_at hl 1 rfl) ?_
        refine r_iald (v := (nI (st 2 c1))) X S hA2_27 (vp_in_nI (show c1 < 200 by omega) (by omega)) (by rw [nI_clamp (by omega)]; exact (hvk _ hlt_c1).1) dX10_about_44 ?_
        refine lv_goto (tgt := 82) X.1 X.2.1 dX10_about_45 (by decide) ?_
        refine e_i X hr S (Nat.le_of_ble_eq_true rfl) (Nat.le_of_ble_eq_true rfl) dX10_about_82 ?_
        rw [hKC]
        refine ⟨?_, mm_27, fun _ => ?_⟩
        · exact ⟨A, V, VL, hM0⟩
        · rw [nc, nv]; unfold aboutN; rw [if_pos ((nI_eq (b := 0) (by omega) (by omega)).mp c_36)]
  · refine lv_iconst (v := 1) X.1 X.2.1 dX10_about_9 (by decide) ?_
    refine lv_goto (tgt := 27) X.1 X.2.1 dX10_about_10 (by decide) ?_
    refine call_i (run_V X S (n_can l G f y A (nI (st 0 0)) (nI (st 0 4)) (nI (st 0 1)) (nI (st 0 2)) (nI (st 0 3)) thr hy 1 (by omega)) 1 gX10_about_X10_can rfl rfl rfl (by decide +kernel) ⟨(by exact Nat.le_of_ble_eq_true rfl), (by exact Nat.le_of_ble_eq_true rfl)⟩ ⟨_, _, hy⟩ rfl rfl rfl hl.1 rfl (by exact Nat.le_of_ble_eq_true rfl) dX10_about_27 ⟨(by exact Nat.le_of_ble_eq_true rfl), (by exact Nat.le_of_ble_eq_true rfl)⟩) S (fun r_27 f_27 H locs hr_27 S => ?_)
    obtain ⟨rfl, e_can⟩ := hr_27
    have hy_27 : f_27 y = some (1000, .inr (10, [.ref (A 1), .int (nI (st 0 0)), .ref (A 2), .ref (A 3), .ref (A 5), .ref (A 7), .int (nI (st 0 4)), .int (nI (st 0 1)), .int (nI (st 0 2)), .ref (A 9), .int (nI (st 0 3)), .ref (A 10), .ref (A 11), .int (nI 1)])) := by rw [e_can]; exact wu_self _ _ _ _
    have hA2_27 : f_27 (A 2) = some (1002, eI G 200 (V 2)) := by rw [e_can]; exact wu_get hy hA2 (by decide)
    have hA3_27 : f_27 (A 3) = some (1003, eI G 200 (V 3)) := by rw [e_can]; exact wu_get hy hA3 (by decide)
    have hA5_27 : f_27 (A 5) = some (1005, eI G 200 (V 5)) := by rw [e_can]; exact wu_get hy hA5 (by decide)
    have hA7_27 : f_27 (A 7) = some (1007, eI G 200 (V 7)) := by rw [e_can]; exact wu_get hy hA7 (by decide)
    have mm_27 : md tM f f_27 := by rw [e_can]; exact md_tr mm0 (md_put hy) (fun _ q => q) (fun t q => by subst q; unfold tM; omega)
    have hM0 : RMx G f_27 st y A V VL (nI 1) := by rw [e_can]; exact RMx_thr hM
    refine r_toi (y := 0) (by rfl) ?_
    have hKC : (k2 (inI c 0 ((st 0 0 : Int) - 1)) (inI v 0 3)) = 1 := k2_1 (dF c_6)
    refine lv_if_ne (x := 0) (tgt := 35) X.1 X.2.1 dX10_about_30 (by decide) (fun c_30 => by first | exact absurd c_30 (by decide) | exact absurd (by decide) c_30) (fun c_30 => ?_)
    refine lv_iconst (v := 0) X.1 X.2.1 dX10_about_33 (by decide) ?_
    refine e_i X hr S (Nat.le_of_ble_eq_true rfl) (Nat.le_of_ble_eq_true rfl) dX10_about_34 ?_
    rw [hKC]
    exact ⟨⟨A, V, VL, hM0⟩, mm_27, fun z => absurd z (by decide)⟩

set_option maxRecDepth 100000 in
set_option maxHeartbeats 4000000 in
/-- depthAnew -/
theorem n_depthAnew (l : Launch) (G : cx_G) (f : Wd) (st : St) (y : Nat) (A : Nat → Nat) (V : Nat → Nat → Int32) (VL : Nat → Nat → Int64) (thr : Int32) (hI : sInv st) (hM : RMx G f st y A V VL thr) (c : Int32) : MI l G yX10_depthAnew wsX10_depthAnew 2 43 0 0 [.ref y, .int c] f (fun r f' => RM G f' (stp (k1 (inI c 0 ((st 0 0 : Int) - 1))) st st) y (nI (k1 (inI c 0 ((st 0 0 : Int) - 1)))) ∧ md tM f f' ∧ ((k1 (inI c 0 ((st 0 0 : Int) - 1))) = 0 → r = nI (st 7 (nN c)))) := by
  refine cx_body (cc := cX10_depthAnew) (n := 2) (ret := (some .int)) (by decide +kernel) rfl (Nat.le_of_ble_eq_true rfl) ?_
  intro p0 e0 s0 m0 b0 meth0 c0 ls X hr hnm S hl
  have X : cxC G p0 l _ c0 cX10_depthAnew 2 m0 meth0 s0 _ RX10 wsX10_depthAnew := X
  have hl : lv_has ls 2 [(0, .ref y), (1, .int c)] := hl
  have in_RX10 : ∀ w ∈ u_ws RX10 TX10 14, w ∈ wsX10_depthAnew := by decide +kernel
  obtain ⟨hi0, hi1, hi2, hi3, hi4, hi5, hi6, hi7⟩ := id hI
  obtain ⟨hy, ⟨hA1, hA2, hA3, hA5, hA7, hA9, hA10, hA11⟩, hv1, hvk, hv9, hvL⟩ := id hM
  have mm0 : md tM f f := md_rf _ _
  refine lv_aload_n X.1 X.2.1 dX10_depthAnew_0 rfl (lv_at hl 0 rfl) ?_
  refine lv_aload_n X.1 X.2.1 dX10_depthAnew_1 rfl (lv_at hl 0 rfl) ?_
  refine lv_iload_n X.1 X.2.1 dX10_depthAnew_2 rfl (lv_at hl 1 rfl) ?_
  refine call_ip (run_V X S (n_isCrater l G f y A (nI (st 0 4)) (nI (st 0 1)) (nI (st 0 2)) (nI (st 0 3)) thr (st 0 0) (by omega) hy c) 1 gX10_depthAnew_X10_isCrater rfl rfl rfl (by decide +kernel) ⟨(by exact Nat.le_of_ble_eq_true rfl), (by exact Nat.le_of_ble_eq_true rfl)⟩ ⟨_, _, hy⟩ rfl rfl rfl hl.1 rfl (by exact Nat.le_of_ble_eq_true rfl) dX10_depthAnew_3 ⟨(Nat.zero_le _), (Nat.zero_le _)⟩) S (fun r_3 H locs hr_3 S => ?_)
  subst hr_3
  refine r_eqB (tgt := 13) X dX10_depthAnew_6 (by decide) (fun c_6 => ?_) (fun c_6 => ?_)
  · refine lv_iconst (v := 1) X.1 X.2.1 dX10_depthAnew_13 (by decide) ?_
    refine call_i (run_V X S (n_can l G f y A (nI (st 0 0)) (nI (st 0 4)) (nI (st 0 1)) (nI (st 0 2)) (nI (st 0 3)) thr hy 1 (by omega)) 1 gX10_depthAnew_X10_can rfl rfl rfl (by decide +kernel) ⟨(by exact Nat.le_of_ble_eq_true rfl), (by exact Nat.le_of_ble_eq_true rfl)⟩ ⟨_, _, hy⟩ rfl rfl rfl hl.1 rfl (by exact Nat.le_of_ble_eq_true rfl) dX10_depthAnew_14 ⟨(by exact Nat.le_of_ble_eq_true rfl), (by exact Nat.le_of_ble_eq_true rfl)⟩) S (fun r_14 f_14 H locs hr_14 S => ?_)
    obtain ⟨rfl, e_can⟩ := hr_14
    have hy_14 : f_14 y = some (1000, .inr (10, [.ref (A 1), .int (nI (st 0 0)), .ref (A 2), .ref (A 3), .ref (A 5), .ref (A 7), .int (nI (st 0 4)), .int (nI (st 0 1)), .int (nI (st 0 2)), .ref (A 9), .int (nI (st 0 3)), .ref (A 10), .ref (A 11), .int (nI 1)])) := by rw [e_can]; exact wu_self _ _ _ _
    have hA7_14 : f_14 (A 7) = some (1007, eI G 200 (V 7)) := by rw [e_can]; exact wu_get hy hA7 (by decide)
    have mm_14 : md tM f f_14 := by rw [e_can]; exact md_tr mm0 (md_put hy) (fun _ q => q) (fun t q => by subst q; unfold tM; omega)
    have hM0 : RMx G f_14 st y A V VL (nI 1) := by rw [e_can]; exact RMx_thr hM
    refine r_toi (y := 0) (by rfl) ?_
    have hKC : (k1 (inI c 0 ((st 0 0 : Int) - 1))) = 1 := k1_1 (dF c_6)
    refine lv_if_eq (x := 0) (tgt := 29) X.1 X.2.1 dX10_depthAnew_17 (by decide) (fun c_17 => ?_) (fun c_17 => by first | exact absurd c_17 (by decide) | exact absurd (by decide) c_17)
    refine lv_iconst (v := 0) X.1 X.2.1 dX10_depthAnew_29 (by decide) ?_
    refine e_i X hr S (Nat.le_of_ble_eq_true rfl) (Nat.le_of_ble_eq_true rfl) dX10_depthAnew_30 ?_
    rw [hKC]
    exact ⟨⟨A, V, VL, hM0⟩, mm_14, fun z => absurd z (by decide)⟩
  · refine lv_iconst (v := 0) X.1 X.2.1 dX10_depthAnew_9 (by decide) ?_
    refine lv_goto (tgt := 14) X.1 X.2.1 dX10_depthAnew_10 (by decide) ?_
    refine call_i (run_V X S (n_can l G f y A (nI (st 0 0)) (nI (st 0 4)) (nI (st 0 1)) (nI (st 0 2)) (nI (st 0 3)) thr hy 0 (by omega)) 1 gX10_depthAnew_X10_can rfl rfl rfl (by decide +kernel) ⟨(by exact Nat.le_of_ble_eq_true rfl), (by exact Nat.le_of_ble_eq_true rfl)⟩ ⟨_, _, hy⟩ rfl rfl rfl hl.1 rfl (by exact Nat.le_of_ble_eq_true rfl) dX10_depthAnew_14 ⟨(by exact Nat.le_of_ble_eq_true rfl), (by exact Nat.le_of_ble_eq_true rfl)⟩) S (fun r_14 f_14 H locs hr_14 S => ?_)
    obtain ⟨rfl, e_can⟩ := hr_14
    have hy_14 : f_14 y = some (1000, .inr (10, [.ref (A 1), .int (nI (st 0 0)), .ref (A 2), .ref (A 3), .ref (A 5), .ref (A 7), .int (nI (st 0 4)), .int (nI (st 0 1)), .int (nI (st 0 2)), .ref (A 9), .int (nI (st 0 3)), .ref (A 10), .ref (A 11), .int (nI 0)])) := by rw [e_can]; exact wu_self _ _ _ _
    have hA7_14 : f_14 (A 7) = some (1007, eI G 200 (V 7)) := by rw [e_can]; exact wu_get hy hA7 (by decide)
    have mm_14 : md tM f f_14 := by rw [e_can]; exact md_tr mm0 (md_put hy) (fun _ q => q) (fun t q => by subst q; unfold tM; omega)
    have hM0 : RMx G f_14 st y A V VL (nI 0) := by rw [e_can]; exact RMx_thr hM
    refine r_toi (y := 1) (by rfl) ?_
    have hP1 : (inI c 0 ((st 0 0 : Int) - 1)) := dT c_6
    have hKC : (k1 (inI c 0 ((st 0 0 : Int) - 1))) = 0 := k1_0 hP1
    obtain ⟨c1, rfl, clo, cup, cbd⟩ := inI_sub hP1 (by omega)
    have nc : nN (nI c1) = c1 := nN_nI cbd
    have hlt_c1 : c1 < st 0 0 := by omega
    refine lv_if_eq (x := 1) (tgt := 29) X.1 X.2.1 dX10_depthAnew_17 (by decide) (fun c_17 => by first | exact absurd c_17 (by decide) | exact absurd (by decide) c_17) (fun c_17 => ?_)
    refine lv_aload_n X.1 X.2.1 dX10_depthAnew_20 rfl (lv_at hl 0 rfl) ?_
    refine r_get (C := RX10) (T := TX10) (N := 14) (ref := "CraterclockModel") X S in_RX10 hy_14 rfl 5 (by decide) (by decide +kernel) (fun _ h => h) rfl dX10_depthAnew_21 ?_
    refine lv_iload_n X.1 X.2.1 dX10_depthAnew_24 rfl (lv_at hl 1 rfl) ?_
    refine r_iald (v := (nI (st 7 c1))) X S hA7_14 (vp_in_nI (show c1 < 200 by omega) (by omega)) (by rw [nI_clamp (by omega)]; exact (hvk _ hlt_c1).2.2.2) dX10_depthAnew_25 ?_
    refine lv_goto (tgt := 30) X.1 X.2.1 dX10_depthAnew_26 (by decide) ?_
    refine e_i X hr S (Nat.le_of_ble_eq_true rfl) (Nat.le_of_ble_eq_true rfl) dX10_depthAnew_30 ?_
    rw [hKC]
    refine ⟨?_, mm_14, fun _ => ?_⟩
    · exact ⟨A, V, VL, hM0⟩
    · rw [nc]

set_option maxRecDepth 100000 in
set_option maxHeartbeats 4000000 in
/-- n_top -/
theorem n_top (l : Launch) (G : cx_G) (f : Wd) (st : St) (y : Nat) (A : Nat → Nat) (V : Nat → Nat → Int32) (VL : Nat → Nat → Int64) (thr : Int32) (hI : sInv st) (hM : RMx G f st y A V VL thr) (a b : Int32) : MI l G yX10_top wsX10_top 2 47 0 0 [.ref y, .int a, .int b] f (fun r f' => RM G f' (stp (k1 (cellP a b)) st st) y (nI (k1 (cellP a b))) ∧ md tM f f' ∧ ((k1 (cellP a b)) = 0 → r = tpI (topP st (nN a) (nN b)) (st 0 0))) := by
  refine cx_body (cc := cX10_top) (n := 3) (ret := (some .int)) (by decide +kernel) rfl (Nat.le_of_ble_eq_true rfl) ?_
  intro p0 e0 s0 m0 b0 meth0 c0 ls X hr hnm S hl
  have X : cxC G p0 l _ c0 cX10_top 3 m0 meth0 s0 _ RX10 wsX10_top := X
  have hl : lv_has ls 3 [(0, .ref y), (1, .int a), (2, .int b)] := hl
  obtain ⟨hi0, hi1, hi2, hi3, hi4, hi5, hi6, hi7⟩ := id hI
  obtain ⟨hy, ⟨hA1, hA2, hA3, hA5, hA7, hA9, hA10, hA11⟩, hv1, hvk, hv9, hvL⟩ := id hM
  have mm0 : md tM f f := md_rf _ _
  refine lv_aload_n X.1 X.2.1 dX10_top_0 rfl (lv_at hl 0 rfl) ?_
  refine lv_iload_n X.1 X.2.1 dX10_top_1 rfl (lv_at hl 1 rfl) ?_
  refine lv_iload_n X.1 X.2.1 dX10_top_2 rfl (lv_at hl 2 rfl) ?_
  refine call_ip (run_S X S (n_isCell l G f a b) 2 gX10_top_X10_isCell rfl rfl rfl (by decide +kernel) ⟨(by exact Nat.le_of_ble_eq_true rfl), (by exact Nat.le_of_ble_eq_true rfl)⟩ rfl hl.1 rfl (by exact Nat.le_of_ble_eq_true rfl) dX10_top_3 ⟨(Nat.zero_le _), (Nat.zero_le _)⟩) S (fun r_3 H locs hr_3 S => ?_)
  subst hr_3
  refine r_eqB (tgt := 13) X dX10_top_6 (by decide) (fun c_6 => ?_) (fun c_6 => ?_)
  · refine lv_iconst (v := 1) X.1 X.2.1 dX10_top_13 (by decide) ?_
    refine call_i (run_V X S (n_can l G f y A (nI (st 0 0)) (nI (st 0 4)) (nI (st 0 1)) (nI (st 0 2)) (nI (st 0 3)) thr hy 1 (by omega)) 1 gX10_top_X10_can rfl rfl rfl (by decide +kernel) ⟨(by exact Nat.le_of_ble_eq_true rfl), (by exact Nat.le_of_ble_eq_true rfl)⟩ ⟨_, _, hy⟩ rfl rfl rfl hl.1 rfl (by exact Nat.le_of_ble_eq_true rfl) dX10_top_14 ⟨(by exact Nat.le_of_ble_eq_true rfl), (by exact Nat.le_of_ble_eq_true rfl)⟩) S (fun r_14 f_14 H locs hr_14 S => ?_)
    obtain ⟨rfl, e_can⟩ := hr_14
    have hy_14 : f_14 y = some (1000, .inr (10, [.ref (A 1), .int (nI (st 0 0)), .ref (A 2), .ref (A 3), .ref (A 5), .ref (A 7), .int (nI (st 0 4)), .int (nI (st 0 1)), .int (nI (st 0 2)), .ref (A 9), .int (nI (st 0 3)), .ref (A 10), .ref (A 11), .int (nI 1)])) := by rw [e_can]; exact wu_self _ _ _ _
    have mm_14 : md tM f f_14 := by rw [e_can]; exact md_tr mm0 (md_put hy) (fun _ q => q) (fun t q => by subst q; unfold tM; omega)
    have hM0 : RMx G f_14 st y A V VL (nI 1) := by rw [e_can]; exact RMx_thr hM
    refine r_toi (y := 0) (by rfl) ?_
    have hKC : (k1 (cellP a b)) = 1 := k1_1 (dF c_6)
    refine lv_if_eq (x := 0) (tgt := 29) X.1 X.2.1 dX10_top_17 (by decide) (fun c_17 => ?_) (fun c_17 => by first | exact absurd c_17 (by decide) | exact absurd (by decide) c_17)
    refine lv_iconst (v := 0) X.1 X.2.1 dX10_top_29 (by decide) ?_
    refine e_i X hr S (Nat.le_of_ble_eq_true rfl) (Nat.le_of_ble_eq_true rfl) dX10_top_30 ?_
    rw [hKC]
    exact ⟨⟨A, V, VL, hM0⟩, mm_14, fun z => absurd z (by decide)⟩
  · refine lv_iconst (v := 0) X.1 X.2.1 dX10_top_9 (by decide) ?_
    refine lv_goto (tgt := 14) X.1 X.2.1 dX10_top_10 (by decide) ?_
    refine call_i (run_V X S (n_can l G f y A (nI (st 0 0)) (nI (st 0 4)) (nI (st 0 1)) (nI (st 0 2)) (nI (st 0 3)) thr hy 0 (by omega)) 1 gX10_top_X10_can rfl rfl rfl (by decide +kernel) ⟨(by exact Nat.le_of_ble_eq_true rfl), (by exact Nat.le_of_ble_eq_true rfl)⟩ ⟨_, _, hy⟩ rfl rfl rfl hl.1 rfl (by exact Nat.le_of_ble_eq_true rfl) dX10_top_14 ⟨(by exact Nat.le_of_ble_eq_true rfl), (by exact Nat.le_of_ble_eq_true rfl)⟩) S (fun r_14 f_14 H locs hr_14 S => ?_)
    obtain ⟨rfl, e_can⟩ := hr_14
    have hy_14 : f_14 y = some (1000, .inr (10, [.ref (A 1), .int (nI (st 0 0)), .ref (A 2), .ref (A 3), .ref (A 5), .ref (A 7), .int (nI (st 0 4)), .int (nI (st 0 1)), .int (nI (st 0 2)), .ref (A 9), .int (nI (st 0 3)), .ref (A 10), .ref (A 11), .int (nI 0)])) := by rw [e_can]; exact wu_self _ _ _ _
    have mm_14 : md tM f f_14 := by rw [e_can]; exact md_tr mm0 (md_put hy) (fun _ q => q) (fun t q => by subst q; unfold tM; omega)
    have hM0 : RMx G f_14 st y A V VL (nI 0) := by rw [e_can]; exact RMx_thr hM
    refine r_toi (y := 1) (by rfl) ?_
    have hP1 : cellP a b := dT c_6
    have hKC : (k1 (cellP a b)) = 0 := k1_0 hP1
    obtain ⟨a1, rfl, alo, aup, abd⟩ := inI_sub hP1.1 (by omega)
    have na : nN (nI a1) = a1 := nN_nI abd
    obtain ⟨b1, rfl, blo, bup, bbd⟩ := inI_sub hP1.2 (by omega)
    have nb : nN (nI b1) = b1 := nN_nI bbd
    refine lv_if_eq (x := 1) (tgt := 29) X.1 X.2.1 dX10_top_17 (by decide) (fun c_17 => by first | exact absurd c_17 (by decide) | exact absurd (by decide) c_17) (fun c_17 => ?_)
    refine lv_aload_n X.1 X.2.1 dX10_top_20 rfl (lv_at hl 0 rfl) ?_
    refine lv_iload_n X.1 X.2.1 dX10_top_21 rfl (lv_at hl 1 rfl) ?_
    refine lv_iload_n X.1 X.2.1 dX10_top_22 rfl (lv_at hl 2 rfl) ?_
    refine call_ip (run_V X S (n_topOf l G f_14 st y A V VL (nI 0) hI hM0 a1 b1 (by omega) (by omega)) 2 gX10_top_X10_topOf rfl rfl rfl (by decide +kernel) ⟨(by exact Nat.le_of_ble_eq_true rfl), (by exact Nat.le_of_ble_eq_true rfl)⟩ ⟨_, _, hy_14⟩ rfl rfl rfl hl.1 rfl (by exact Nat.le_of_ble_eq_true rfl) dX10_top_23 ⟨(Nat.zero_le _), (Nat.zero_le _)⟩) S (fun r_23 H locs hr_23 S => ?_)
    subst hr_23
    refine lv_goto (tgt := 30) X.1 X.2.1 dX10_top_26 (by decide) ?_
    refine e_i X hr S (Nat.le_of_ble_eq_true rfl) (Nat.le_of_ble_eq_true rfl) dX10_top_30 ?_
    rw [hKC]
    refine ⟨?_, mm_14, fun _ => ?_⟩
    · exact ⟨A, V, VL, hM0⟩
    · rw [na, nb]

set_option maxRecDepth 100000 in
set_option maxHeartbeats 4000000 in
/-- n_topAnew -/
theorem n_topAnew (l : Launch) (G : cx_G) (f : Wd) (st : St) (y : Nat) (A : Nat → Nat) (V : Nat → Nat → Int32) (VL : Nat → Nat → Int64) (thr : Int32) (hI : sInv st) (hM : RMx G f st y A V VL thr) (a b : Int32) : MI l G yX10_topAnew wsX10_topAnew 2 47 0 0 [.ref y, .int a, .int b] f (fun r f' => RM G f' (stp (k1 (cellP a b)) st st) y (nI (k1 (cellP a b))) ∧ md tM f f' ∧ ((k1 (cellP a b)) = 0 → r = tpI (topP st (nN a) (nN b)) (st 0 0))) := by
  refine cx_body (cc := cX10_topAnew) (n := 3) (ret := (some .int)) (by decide +kernel) rfl (Nat.le_of_ble_eq_true rfl) ?_
  intro p0 e0 s0 m0 b0 meth0 c0 ls X hr hnm S hl
  have X : cxC G p0 l _ c0 cX10_topAnew 3 m0 meth0 s0 _ RX10 wsX10_topAnew := X
  have hl : lv_has ls 3 [(0, .ref y), (1, .int a), (2, .int b)] := hl
  obtain ⟨hi0, hi1, hi2, hi3, hi4, hi5, hi6, hi7⟩ := id hI
  obtain ⟨hy, ⟨hA1, hA2, hA3, hA5, hA7, hA9, hA10, hA11⟩, hv1, hvk, hv9, hvL⟩ := id hM
  have mm0 : md tM f f := md_rf _ _
  refine lv_aload_n X.1 X.2.1 dX10_topAnew_0 rfl (lv_at hl 0 rfl) ?_
  refine lv_iload_n X.1 X.2.1 dX10_topAnew_1 rfl (lv_at hl 1 rfl) ?_
  refine lv_iload_n X.1 X.2.1 dX10_topAnew_2 rfl (lv_at hl 2 rfl) ?_
  refine call_ip (run_S X S (n_isCell l G f a b) 2 gX10_topAnew_X10_isCell rfl rfl rfl (by decide +kernel) ⟨(by exact Nat.le_of_ble_eq_true rfl), (by exact Nat.le_of_ble_eq_true rfl)⟩ rfl hl.1 rfl (by exact Nat.le_of_ble_eq_true rfl) dX10_topAnew_3 ⟨(Nat.zero_le _), (Nat.zero_le _)⟩) S (fun r_3 H locs hr_3 S => ?_)
  subst hr_3
  refine r_eqB (tgt := 13) X dX10_topAnew_6 (by decide) (fun c_6 => ?_) (fun c_6 => ?_)
  · refine lv_iconst (v := 1) X.1 X.2.1 dX10_topAnew_13 (by decide) ?_
    refine call_i (run_V X S (n_can l G f y A (nI (st 0 0)) (nI (st 0 4)) (nI (st 0 1)) (nI (st 0 2)) (nI (st 0 3)) thr hy 1 (by omega)) 1 gX10_topAnew_X10_can rfl rfl rfl (by decide +kernel) ⟨(by exact Nat.le_of_ble_eq_true rfl), (by exact Nat.le_of_ble_eq_true rfl)⟩ ⟨_, _, hy⟩ rfl rfl rfl hl.1 rfl (by exact Nat.le_of_ble_eq_true rfl) dX10_topAnew_14 ⟨(by exact Nat.le_of_ble_eq_true rfl), (by exact Nat.le_of_ble_eq_true rfl)⟩) S (fun r_14 f_14 H locs hr_14 S => ?_)
    obtain ⟨rfl, e_can⟩ := hr_14
    have hy_14 : f_14 y = some (1000, .inr (10, [.ref (A 1), .int (nI (st 0 0)), .ref (A 2), .ref (A 3), .ref (A 5), .ref (A 7), .int (nI (st 0 4)), .int (nI (st 0 1)), .int (nI (st 0 2)), .ref (A 9), .int (nI (st 0 3)), .ref (A 10), .ref (A 11), .int (nI 1)])) := by rw [e_can]; exact wu_self _ _ _ _
    have mm_14 : md tM f f_14 := by rw [e_can]; exact md_tr mm0 (md_put hy) (fun _ q => q) (fun t q => by subst q; unfold tM; omega)
    have hM0 : RMx G f_14 st y A V VL (nI 1) := by rw [e_can]; exact RMx_thr hM
    refine r_toi (y := 0) (by rfl) ?_
    have hKC : (k1 (cellP a b)) = 1 := k1_1 (dF c_6)
    refine lv_if_eq (x := 0) (tgt := 29) X.1 X.2.1 dX10_topAnew_17 (by decide) (fun c_17 => ?_) (fun c_17 => by first | exact absurd c_17 (by decide) | exact absurd (by decide) c_17)
    refine lv_iconst (v := 0) X.1 X.2.1 dX10_topAnew_29 (by decide) ?_
    refine e_i X hr S (Nat.le_of_ble_eq_true rfl) (Nat.le_of_ble_eq_true rfl) dX10_topAnew_30 ?_
    rw [hKC]
    exact ⟨⟨A, V, VL, hM0⟩, mm_14, fun z => absurd z (by decide)⟩
  · refine lv_iconst (v := 0) X.1 X.2.1 dX10_topAnew_9 (by decide) ?_
    refine lv_goto (tgt := 14) X.1 X.2.1 dX10_topAnew_10 (by decide) ?_
    refine call_i (run_V X S (n_can l G f y A (nI (st 0 0)) (nI (st 0 4)) (nI (st 0 1)) (nI (st 0 2)) (nI (st 0 3)) thr hy 0 (by omega)) 1 gX10_topAnew_X10_can rfl rfl rfl (by decide +kernel) ⟨(by exact Nat.le_of_ble_eq_true rfl), (by exact Nat.le_of_ble_eq_true rfl)⟩ ⟨_, _, hy⟩ rfl rfl rfl hl.1 rfl (by exact Nat.le_of_ble_eq_true rfl) dX10_topAnew_14 ⟨(by exact Nat.le_of_ble_eq_true rfl), (by exact Nat.le_of_ble_eq_true rfl)⟩) S (fun r_14 f_14 H locs hr_14 S => ?_)
    obtain ⟨rfl, e_can⟩ := hr_14
    have hy_14 : f_14 y = some (1000, .inr (10, [.ref (A 1), .int (nI (st 0 0)), .ref (A 2), .ref (A 3), .ref (A 5), .ref (A 7), .int (nI (st 0 4)), .int (nI (st 0 1)), .int (nI (st 0 2)), .ref (A 9), .int (nI (st 0 3)), .ref (A 10), .ref (A 11), .int (nI 0)])) := by rw [e_can]; exact wu_self _ _ _ _
    have mm_14 : md tM f f_14 := by rw [e_can]; exact md_tr mm0 (md_put hy) (fun _ q => q) (fun t q => by subst q; unfold tM; omega)
    have hM0 : RMx G f_14 st y A V VL (nI 0) := by rw [e_can]; exact RMx_thr hM
    refine r_toi (y := 1) (by rfl) ?_
    have hP1 : cellP a b := dT c_6
    have hKC : (k1 (cellP a b)) = 0 := k1_0 hP1
    obtain ⟨a1, rfl, alo, aup, abd⟩ := inI_sub hP1.1 (by omega)
    have na : nN (nI a1) = a1 := nN_nI abd
    obtain ⟨b1, rfl, blo, bup, bbd⟩ := inI_sub hP1.2 (by omega)
    have nb : nN (nI b1) = b1 := nN_nI bbd
    refine lv_if_eq (x := 1) (tgt := 29) X.1 X.2.1 dX10_topAnew_17 (by decide) (fun c_17 => by first | exact absurd c_17 (by decide) | exact absurd (by decide) c_17) (fun c_17 => ?_)
    refine lv_aload_n X.1 X.2.1 dX10_topAnew_20 rfl (lv_at hl 0 rfl) ?_
    refine lv_iload_n X.1 X.2.1 dX10_topAnew_21 rfl (lv_at hl 1 rfl) ?_
    refine lv_iload_n X.1 X.2.1 dX10_topAnew_22 rfl (lv_at hl 2 rfl) ?_
    refine call_ip (run_V X S (n_topOf l G f_14 st y A V VL (nI 0) hI hM0 a1 b1 (by omega) (by omega)) 2 gX10_topAnew_X10_topOf rfl rfl rfl (by decide +kernel) ⟨(by exact Nat.le_of_ble_eq_true rfl), (by exact Nat.le_of_ble_eq_true rfl)⟩ ⟨_, _, hy_14⟩ rfl rfl rfl hl.1 rfl (by exact Nat.le_of_ble_eq_true rfl) dX10_topAnew_23 ⟨(Nat.zero_le _), (Nat.zero_le _)⟩) S (fun r_23 H locs hr_23 S => ?_)
    subst hr_23
    refine lv_goto (tgt := 30) X.1 X.2.1 dX10_topAnew_26 (by decide) ?_
    refine e_i X hr S (Nat.le_of_ble_eq_true rfl) (Nat.le_of_ble_eq_true rfl) dX10_topAnew_30 ?_
    rw [hKC]
    refine ⟨?_, mm_14, fun _ => ?_⟩
    · exact ⟨A, V, VL, hM0⟩
    · rw [na, nb]

set_option maxRecDepth 100000 in
set_option maxHeartbeats 4000000 in
/-- anchor -/
theorem n_anchor (l : Launch) (G : cx_G) (f : Wd) (st : St) (y : Nat) (A : Nat → Nat) (V : Nat → Nat → Int32) (VL : Nat → Nat → Int64) (thr : Int32) (hI : sInv st) (hM : RMx G f st y A V VL thr) (u v : Int64) : MI l G yX10_anchor wsX10_anchor 1 21 0 0 [.ref y, .long u, .long v] f (fun r f' => RM G f' (stp (k2 (rgL u 1 5000000000 ∧ rgL v 1 100000000) (canP st (nL u) (nL v))) (anchSt st (nL u) (nL v)) st) y (nI (k2 (rgL u 1 5000000000 ∧ rgL v 1 100000000) (canP st (nL u) (nL v)))) ∧ md tM f f' ∧ ((k2 (rgL u 1 5000000000 ∧ rgL v 1 100000000) (canP st (nL u) (nL v))) = 0 → r = nI (st 0 3 + 1))) := by
  refine cx_body (cc := cX10_anchor) (n := 7) (ret := (some .int)) (by decide +kernel) rfl (Nat.le_of_ble_eq_true rfl) ?_
  intro p0 e0 s0 m0 b0 meth0 c0 ls X hr hnm S hl
  have X : cxC G p0 l _ c0 cX10_anchor 7 m0 meth0 s0 _ RX10 wsX10_anchor := X
  have hl : lv_has ls 7 [(0, .ref y), (1, .long u), (3, .long v)] := hl
  have in_RX10 : ∀ w ∈ u_ws RX10 TX10 14, w ∈ wsX10_anchor := by decide +kernel
  obtain ⟨hi0, hi1, hi2, hi3, hi4, hi5, hi6, hi7⟩ := id hI
  obtain ⟨hy, ⟨hA1, hA2, hA3, hA5, hA7, hA9, hA10, hA11⟩, hv1, hvk, hv9, hvL⟩ := id hM
  have mm0 : md tM f f := md_rf _ _
  refine lv_lload_n X.1 X.2.1 dX10_anchor_0 rfl (lv_at hl 1 rfl) ?_
  refine lv_lconst (v := 1) X.1 X.2.1 dX10_anchor_1 (by decide) ?_
  refine W.lcmp X.1 X.2.1 dX10_anchor_2 ?_
  refine lv_if_lt (tgt := 32) X.1 X.2.1 dX10_anchor_3 (by decide) (fun c_3 => ?_) (fun c_3 => ?_)
  · refine lv_iconst (v := 0) X.1 X.2.1 dX10_anchor_32 (by decide) ?_
    refine lv_istore (lv' := [(5, .int 0), (0, .ref y), (1, .long u), (3, .long v)]) X.1 X.2.1 dX10_anchor_33 hl (by decide) rfl (fun ls hl => ?_)
    refine lv_aload_n X.1 X.2.1 dX10_anchor_35 rfl (lv_at hl 1 rfl) ?_
    refine r_get (C := RX10) (T := TX10) (N := 14) (ref := "CraterclockModel") X S in_RX10 hy rfl 10 (by decide) (by decide +kernel) (fun _ h => h) rfl dX10_anchor_36 ?_
    refine lv_if_eq (tgt := 83) X.1 X.2.1 dX10_anchor_39 (by decide) (fun c_39 => ?_) (fun c_39 => ?_)
    · refine lv_iconst (v := 1) X.1 X.2.1 dX10_anchor_83 (by decide) ?_
      refine lv_goto (tgt := 88) X.1 X.2.1 dX10_anchor_84 (by decide) ?_
      refine lv_istore (lv' := [(6, .int 1), (5, .int 0), (0, .ref y), (1, .long u), (3, .long v)]) X.1 X.2.1 dX10_anchor_88 hl (by decide) rfl (fun ls hl => ?_)
      refine lv_aload_n X.1 X.2.1 dX10_anchor_90 rfl (lv_at hl 2 rfl) ?_
      refine lv_iload X.1 X.2.1 dX10_anchor_91 (lv_at hl 1 rfl) ?_
      refine lv_if_ne (x := 0) (tgt := 100) X.1 X.2.1 dX10_anchor_93 (by decide) (fun c_93 => by first | exact absurd c_93 (by decide) | exact absurd (by decide) c_93) (fun c_93 => ?_)
      refine lv_iconst (v := 1) X.1 X.2.1 dX10_anchor_96 (by decide) ?_
      refine lv_goto (tgt := 110) X.1 X.2.1 dX10_anchor_97 (by decide) ?_
      refine call_i (run_V X S (n_can l G f y A (nI (st 0 0)) (nI (st 0 4)) (nI (st 0 1)) (nI (st 0 2)) (nI (st 0 3)) thr hy 1 (by omega)) 1 gX10_anchor_X10_can rfl rfl rfl (by decide +kernel) ⟨(by exact Nat.le_of_ble_eq_true rfl), (by exact Nat.le_of_ble_eq_true rfl)⟩ ⟨_, _, hy⟩ rfl rfl rfl hl.1 rfl (by exact Nat.le_of_ble_eq_true rfl) dX10_anchor_110 ⟨(by exact Nat.le_of_ble_eq_true rfl), (by exact Nat.le_of_ble_eq_true rfl)⟩) S (fun r_110 f_110 H locs hr_110 S => ?_)
      obtain ⟨rfl, e_can⟩ := hr_110
      have hy_110 : f_110 y = some (1000, .inr (10, [.ref (A 1), .int (nI (st 0 0)), .ref (A 2), .ref (A 3), .ref (A 5), .ref (A 7), .int (nI (st 0 4)), .int (nI (st 0 1)), .int (nI (st 0 2)), .ref (A 9), .int (nI (st 0 3)), .ref (A 10), .ref (A 11), .int (nI 1)])) := by rw [e_can]; exact wu_self _ _ _ _
      have hA10_110 : f_110 (A 10) = some (1010, eJ G 8 (VL 10)) := by rw [e_can]; exact wu_get hy hA10 (by decide)
      have hA11_110 : f_110 (A 11) = some (1011, eJ G 8 (VL 11)) := by rw [e_can]; exact wu_get hy hA11 (by decide)
      have mm_110 : md tM f f_110 := by rw [e_can]; exact md_tr mm0 (md_put hy) (fun _ q => q) (fun t q => by subst q; unfold tM; omega)
      have hM0 : RMx G f_110 st y A V VL (nI 1) := by rw [e_can]; exact RMx_thr hM
      refine r_toi (y := 0) (by rfl) ?_
      have hKC : (k2 (rgL u 1 5000000000 ∧ rgL v 1 100000000) (canP st (nL u) (nL v))) = 1 := k2_1 (fun z => by first | (rw [lg_cmp_lt, l_lt, one64] at c_3; have := z.1.1; omega) | (rw [lg_cmp_gt, l_lt, big64] at c_11; have := z.1.2; omega) | (rw [lg_cmp_lt, l_lt, one64] at c_17; have := z.2.1; omega) | (rw [lg_cmp_gt, l_lt, mil64] at c_25; have := z.2.2; omega))
      refine lv_if_ne (x := 0) (tgt := 118) X.1 X.2.1 dX10_anchor_113 (by decide) (fun c_113 => by first | exact absurd c_113 (by decide) | exact absurd (by decide) c_113) (fun c_113 => ?_)
      refine lv_iconst (v := 0) X.1 X.2.1 dX10_anchor_116 (by decide) ?_
      refine e_i X hr S (Nat.le_of_ble_eq_true rfl) (Nat.le_of_ble_eq_true rfl) dX10_anchor_117 ?_
      rw [hKC]
      exact ⟨⟨A, V, VL, hM0⟩, mm_110, fun z => absurd z (by decide)⟩
    · have hn0 : 0 < st 0 3 := Nat.pos_of_ne_zero (fun z => c_39 (by rw [z]; rfl))
      have hlt_st031 : st 0 3 - 1 < st 0 3 := by omega
      have hab := hi5 _ hlt_st031
      refine lv_aload_n X.1 X.2.1 dX10_anchor_42 rfl (lv_at hl 1 rfl) ?_
      refine r_get (C := RX10) (T := TX10) (N := 14) (ref := "CraterclockModel") X S in_RX10 hy rfl 10 (by decide) (by decide +kernel) (fun _ h => h) rfl dX10_anchor_43 ?_
      refine lv_bipush (v := 8) X.1 X.2.1 dX10_anchor_46 (by decide) ?_
      refine lv_icmp_ge (tgt := 87) X.1 X.2.1 dX10_anchor_48 (by decide) (fun c_48 => ?_) (fun c_48 => ?_)
      · refine lv_iconst (v := 0) X.1 X.2.1 dX10_anchor_87 (by decide) ?_
        refine lv_istore (lv' := [(6, .int 0), (5, .int 0), (0, .ref y), (1, .long u), (3, .long v)]) X.1 X.2.1 dX10_anchor_88 hl (by decide) rfl (fun ls hl => ?_)
        refine lv_aload_n X.1 X.2.1 dX10_anchor_90 rfl (lv_at hl 2 rfl) ?_
        refine lv_iload X.1 X.2.1 dX10_anchor_91 (lv_at hl 1 rfl) ?_
        refine lv_if_ne (x := 0) (tgt := 100) X.1 X.2.1 dX10_anchor_93 (by decide) (fun c_93 => by first | exact absurd c_93 (by decide) | exact absurd (by decide) c_93) (fun c_93 => ?_)
        refine lv_iconst (v := 1) X.1 X.2.1 dX10_anchor_96 (by decide) ?_
        refine lv_goto (tgt := 110) X.1 X.2.1 dX10_anchor_97 (by decide) ?_
        refine call_i (run_V X S (n_can l G f y A (nI (st 0 0)) (nI (st 0 4)) (nI (st 0 1)) (nI (st 0 2)) (nI (st 0 3)) thr hy 1 (by omega)) 1 gX10_anchor_X10_can rfl rfl rfl (by decide +kernel) ⟨(by exact Nat.le_of_ble_eq_true rfl), (by exact Nat.le_of_ble_eq_true rfl)⟩ ⟨_, _, hy⟩ rfl rfl rfl hl.1 rfl (by exact Nat.le_of_ble_eq_true rfl) dX10_anchor_110 ⟨(by exact Nat.le_of_ble_eq_true rfl), (by exact Nat.le_of_ble_eq_true rfl)⟩) S (fun r_110 f_110 H locs hr_110 S => ?_)
        obtain ⟨rfl, e_can⟩ := hr_110
        have hy_110 : f_110 y = some (1000, .inr (10, [.ref (A 1), .int (nI (st 0 0)), .ref (A 2), .ref (A 3), .ref (A 5), .ref (A 7), .int (nI (st 0 4)), .int (nI (st 0 1)), .int (nI (st 0 2)), .ref (A 9), .int (nI (st 0 3)), .ref (A 10), .ref (A 11), .int (nI 1)])) := by rw [e_can]; exact wu_self _ _ _ _
        have hA10_110 : f_110 (A 10) = some (1010, eJ G 8 (VL 10)) := by rw [e_can]; exact wu_get hy hA10 (by decide)
        have hA11_110 : f_110 (A 11) = some (1011, eJ G 8 (VL 11)) := by rw [e_can]; exact wu_get hy hA11 (by decide)
        have mm_110 : md tM f f_110 := by rw [e_can]; exact md_tr mm0 (md_put hy) (fun _ q => q) (fun t q => by subst q; unfold tM; omega)
        have hM0 : RMx G f_110 st y A V VL (nI 1) := by rw [e_can]; exact RMx_thr hM
        refine r_toi (y := 0) (by rfl) ?_
        have hKC : (k2 (rgL u 1 5000000000 ∧ rgL v 1 100000000) (canP st (nL u) (nL v))) = 1 := k2_1 (fun z => by first | (rw [lg_cmp_lt, l_lt, one64] at c_3; have := z.1.1; omega) | (rw [lg_cmp_gt, l_lt, big64] at c_11; have := z.1.2; omega) | (rw [lg_cmp_lt, l_lt, one64] at c_17; have := z.2.1; omega) | (rw [lg_cmp_gt, l_lt, mil64] at c_25; have := z.2.2; omega))
        refine lv_if_ne (x := 0) (tgt := 118) X.1 X.2.1 dX10_anchor_113 (by decide) (fun c_113 => by first | exact absurd c_113 (by decide) | exact absurd (by decide) c_113) (fun c_113 => ?_)
        refine lv_iconst (v := 0) X.1 X.2.1 dX10_anchor_116 (by decide) ?_
        refine e_i X hr S (Nat.le_of_ble_eq_true rfl) (Nat.le_of_ble_eq_true rfl) dX10_anchor_117 ?_
        rw [hKC]
        exact ⟨⟨A, V, VL, hM0⟩, mm_110, fun z => absurd z (by decide)⟩
      · refine lv_lload_n X.1 X.2.1 dX10_anchor_51 rfl (lv_at hl 2 rfl) ?_
        refine lv_aload_n X.1 X.2.1 dX10_anchor_52 rfl (lv_at hl 1 rfl) ?_
        refine r_get (C := RX10) (T := TX10) (N := 14) (ref := "CraterclockModel") X S in_RX10 hy rfl 11 (by decide) (by decide +kernel) (fun _ h => h) rfl dX10_anchor_53 ?_
        refine lv_aload_n X.1 X.2.1 dX10_anchor_56 rfl (lv_at hl 1 rfl) ?_
        refine r_get (C := RX10) (T := TX10) (N := 14) (ref := "CraterclockModel") X S in_RX10 hy rfl 10 (by decide) (by decide +kernel) (fun _ h => h) rfl dX10_anchor_57 ?_
        refine lv_iconst (v := 1) X.1 X.2.1 dX10_anchor_60 (by decide) ?_
        refine lv_isub X.1 X.2.1 dX10_anchor_61 ?_
        refine r_toi (y := nI (st 0 3 - 1)) (nI_m1 (by omega)) ?_
        refine r_lald (v := (lN (st 10 (st 0 3 - 1)))) X S hA10 (vp_in_nI (show (st 0 3 - 1) < 8 by omega) (by omega)) (by rw [nI_clamp (by omega)]; exact (hvL _ hlt_st031).1) dX10_anchor_62 ?_
        refine W.lcmp X.1 X.2.1 dX10_anchor_63 ?_
        refine lv_if_le (tgt := 87) X.1 X.2.1 dX10_anchor_64 (by decide) (fun c_64 => ?_) (fun c_64 => ?_)
        · refine lv_iconst (v := 0) X.1 X.2.1 dX10_anchor_87 (by decide) ?_
          refine lv_istore (lv' := [(6, .int 0), (5, .int 0), (0, .ref y), (1, .long u), (3, .long v)]) X.1 X.2.1 dX10_anchor_88 hl (by decide) rfl (fun ls hl => ?_)
          refine lv_aload_n X.1 X.2.1 dX10_anchor_90 rfl (lv_at hl 2 rfl) ?_
          refine lv_iload X.1 X.2.1 dX10_anchor_91 (lv_at hl 1 rfl) ?_
          refine lv_if_ne (x := 0) (tgt := 100) X.1 X.2.1 dX10_anchor_93 (by decide) (fun c_93 => by first | exact absurd c_93 (by decide) | exact absurd (by decide) c_93) (fun c_93 => ?_)
          refine lv_iconst (v := 1) X.1 X.2.1 dX10_anchor_96 (by decide) ?_
          refine lv_goto (tgt := 110) X.1 X.2.1 dX10_anchor_97 (by decide) ?_
          refine call_i (run_V X S (n_can l G f y A (nI (st 0 0)) (nI (st 0 4)) (nI (st 0 1)) (nI (st 0 2)) (nI (st 0 3)) thr hy 1 (by omega)) 1 gX10_anchor_X10_can rfl rfl rfl (by decide +kernel) ⟨(by exact Nat.le_of_ble_eq_true rfl), (by exact Nat.le_of_ble_eq_true rfl)⟩ ⟨_, _, hy⟩ rfl rfl rfl hl.1 rfl (by exact Nat.le_of_ble_eq_true rfl) dX10_anchor_110 ⟨(by exact Nat.le_of_ble_eq_true rfl), (by exact Nat.le_of_ble_eq_true rfl)⟩) S (fun r_110 f_110 H locs hr_110 S => ?_)
          obtain ⟨rfl, e_can⟩ := hr_110
          have hy_110 : f_110 y = some (1000, .inr (10, [.ref (A 1), .int (nI (st 0 0)), .ref (A 2), .ref (A 3), .ref (A 5), .ref (A 7), .int (nI (st 0 4)), .int (nI (st 0 1)), .int (nI (st 0 2)), .ref (A 9), .int (nI (st 0 3)), .ref (A 10), .ref (A 11), .int (nI 1)])) := by rw [e_can]; exact wu_self _ _ _ _
          have hA10_110 : f_110 (A 10) = some (1010, eJ G 8 (VL 10)) := by rw [e_can]; exact wu_get hy hA10 (by decide)
          have hA11_110 : f_110 (A 11) = some (1011, eJ G 8 (VL 11)) := by rw [e_can]; exact wu_get hy hA11 (by decide)
          have mm_110 : md tM f f_110 := by rw [e_can]; exact md_tr mm0 (md_put hy) (fun _ q => q) (fun t q => by subst q; unfold tM; omega)
          have hM0 : RMx G f_110 st y A V VL (nI 1) := by rw [e_can]; exact RMx_thr hM
          refine r_toi (y := 0) (by rfl) ?_
          have hKC : (k2 (rgL u 1 5000000000 ∧ rgL v 1 100000000) (canP st (nL u) (nL v))) = 1 := k2_1 (fun z => by first | (rw [lg_cmp_lt, l_lt, one64] at c_3; have := z.1.1; omega) | (rw [lg_cmp_gt, l_lt, big64] at c_11; have := z.1.2; omega) | (rw [lg_cmp_lt, l_lt, one64] at c_17; have := z.2.1; omega) | (rw [lg_cmp_gt, l_lt, mil64] at c_25; have := z.2.2; omega))
          refine lv_if_ne (x := 0) (tgt := 118) X.1 X.2.1 dX10_anchor_113 (by decide) (fun c_113 => by first | exact absurd c_113 (by decide) | exact absurd (by decide) c_113) (fun c_113 => ?_)
          refine lv_iconst (v := 0) X.1 X.2.1 dX10_anchor_116 (by decide) ?_
          refine e_i X hr S (Nat.le_of_ble_eq_true rfl) (Nat.le_of_ble_eq_true rfl) dX10_anchor_117 ?_
          rw [hKC]
          exact ⟨⟨A, V, VL, hM0⟩, mm_110, fun z => absurd z (by decide)⟩
        · refine lv_lload_n X.1 X.2.1 dX10_anchor_67 rfl (lv_at hl 3 rfl) ?_
          refine lv_aload_n X.1 X.2.1 dX10_anchor_68 rfl (lv_at hl 1 rfl) ?_
          refine r_get (C := RX10) (T := TX10) (N := 14) (ref := "CraterclockModel") X S in_RX10 hy rfl 12 (by decide) (by decide +kernel) (fun _ h => h) rfl dX10_anchor_69 ?_
          refine lv_aload_n X.1 X.2.1 dX10_anchor_72 rfl (lv_at hl 1 rfl) ?_
          refine r_get (C := RX10) (T := TX10) (N := 14) (ref := "CraterclockModel") X S in_RX10 hy rfl 10 (by decide) (by decide +kernel) (fun _ h => h) rfl dX10_anchor_73 ?_
          refine lv_iconst (v := 1) X.1 X.2.1 dX10_anchor_76 (by decide) ?_
          refine lv_isub X.1 X.2.1 dX10_anchor_77 ?_
          refine r_toi (y := nI (st 0 3 - 1)) (nI_m1 (by omega)) ?_
          refine r_lald (v := (lN (st 11 (st 0 3 - 1)))) X S hA11 (vp_in_nI (show (st 0 3 - 1) < 8 by omega) (by omega)) (by rw [nI_clamp (by omega)]; exact (hvL _ hlt_st031).2) dX10_anchor_78 ?_
          refine W.lcmp X.1 X.2.1 dX10_anchor_79 ?_
          refine lv_if_le (tgt := 87) X.1 X.2.1 dX10_anchor_80 (by decide) (fun c_80 => ?_) (fun c_80 => ?_)
          · refine lv_iconst (v := 0) X.1 X.2.1 dX10_anchor_87 (by decide) ?_
            refine lv_istore (lv' := [(6, .int 0), (5, .int 0), (0, .ref y), (1, .long u), (3, .long v)]) X.1 X.2.1 dX10_anchor_88 hl (by decide) rfl (fun ls hl => ?_)
            refine lv_aload_n X.1 X.2.1 dX10_anchor_90 rfl (lv_at hl 2 rfl) ?_
            refine lv_iload X.1 X.2.1 dX10_anchor_91 (lv_at hl 1 rfl) ?_
            refine lv_if_ne (x := 0) (tgt := 100) X.1 X.2.1 dX10_anchor_93 (by decide) (fun c_93 => by first | exact absurd c_93 (by decide) | exact absurd (by decide) c_93) (fun c_93 => ?_)
            refine lv_iconst (v := 1) X.1 X.2.1 dX10_anchor_96 (by decide) ?_
            refine lv_goto (tgt := 110) X.1 X.2.1 dX10_anchor_97 (by decide) ?_
            refine call_i (run_V X S (n_can l G f y A (nI (st 0 0)) (nI (st 0 4)) (nI (st 0 1)) (nI (st 0 2)) (nI (st 0 3)) thr hy 1 (by omega)) 1 gX10_anchor_X10_can rfl rfl rfl (by decide +kernel) ⟨(by exact Nat.le_of_ble_eq_true rfl), (by exact Nat.le_of_ble_eq_true rfl)⟩ ⟨_, _, hy⟩ rfl rfl rfl hl.1 rfl (by exact Nat.le_of_ble_eq_true rfl) dX10_anchor_110 ⟨(by exact Nat.le_of_ble_eq_true rfl), (by exact Nat.le_of_ble_eq_true rfl)⟩) S (fun r_110 f_110 H locs hr_110 S => ?_)
            obtain ⟨rfl, e_can⟩ := hr_110
            have hy_110 : f_110 y = some (1000, .inr (10, [.ref (A 1), .int (nI (st 0 0)), .ref (A 2), .ref (A 3), .ref (A 5), .ref (A 7), .int (nI (st 0 4)), .int (nI (st 0 1)), .int (nI (st 0 2)), .ref (A 9), .int (nI (st 0 3)), .ref (A 10), .ref (A 11), .int (nI 1)])) := by rw [e_can]; exact wu_self _ _ _ _
            have hA10_110 : f_110 (A 10) = some (1010, eJ G 8 (VL 10)) := by rw [e_can]; exact wu_get hy hA10 (by decide)
            have hA11_110 : f_110 (A 11) = some (1011, eJ G 8 (VL 11)) := by rw [e_can]; exact wu_get hy hA11 (by decide)
            have mm_110 : md tM f f_110 := by rw [e_can]; exact md_tr mm0 (md_put hy) (fun _ q => q) (fun t q => by subst q; unfold tM; omega)
            have hM0 : RMx G f_110 st y A V VL (nI 1) := by rw [e_can]; exact RMx_thr hM
            refine r_toi (y := 0) (by rfl) ?_
            have hKC : (k2 (rgL u 1 5000000000 ∧ rgL v 1 100000000) (canP st (nL u) (nL v))) = 1 := k2_1 (fun z => by first | (rw [lg_cmp_lt, l_lt, one64] at c_3; have := z.1.1; omega) | (rw [lg_cmp_gt, l_lt, big64] at c_11; have := z.1.2; omega) | (rw [lg_cmp_lt, l_lt, one64] at c_17; have := z.2.1; omega) | (rw [lg_cmp_gt, l_lt, mil64] at c_25; have := z.2.2; omega))
            refine lv_if_ne (x := 0) (tgt := 118) X.1 X.2.1 dX10_anchor_113 (by decide) (fun c_113 => by first | exact absurd c_113 (by decide) | exact absurd (by decide) c_113) (fun c_113 => ?_)
            refine lv_iconst (v := 0) X.1 X.2.1 dX10_anchor_116 (by decide) ?_
            refine e_i X hr S (Nat.le_of_ble_eq_true rfl) (Nat.le_of_ble_eq_true rfl) dX10_anchor_117 ?_
            rw [hKC]
            exact ⟨⟨A, V, VL, hM0⟩, mm_110, fun z => absurd z (by decide)⟩
          · refine lv_iconst (v := 1) X.1 X.2.1 dX10_anchor_83 (by decide) ?_
            refine lv_goto (tgt := 88) X.1 X.2.1 dX10_anchor_84 (by decide) ?_
            refine lv_istore (lv' := [(6, .int 1), (5, .int 0), (0, .ref y), (1, .long u), (3, .long v)]) X.1 X.2.1 dX10_anchor_88 hl (by decide) rfl (fun ls hl => ?_)
            refine lv_aload_n X.1 X.2.1 dX10_anchor_90 rfl (lv_at hl 2 rfl) ?_
            refine lv_iload X.1 X.2.1 dX10_anchor_91 (lv_at hl 1 rfl) ?_
            refine lv_if_ne (x := 0) (tgt := 100) X.1 X.2.1 dX10_anchor_93 (by decide) (fun c_93 => by first | exact absurd c_93 (by decide) | exact absurd (by decide) c_93) (fun c_93 => ?_)
            refine lv_iconst (v := 1) X.1 X.2.1 dX10_anchor_96 (by decide) ?_
            refine lv_goto (tgt := 110) X.1 X.2.1 dX10_anchor_97 (by decide) ?_
            refine call_i (run_V X S (n_can l G f y A (nI (st 0 0)) (nI (st 0 4)) (nI (st 0 1)) (nI (st 0 2)) (nI (st 0 3)) thr hy 1 (by omega)) 1 gX10_anchor_X10_can rfl rfl rfl (by decide +kernel) ⟨(by exact Nat.le_of_ble_eq_true rfl), (by exact Nat.le_of_ble_eq_true rfl)⟩ ⟨_, _, hy⟩ rfl rfl rfl hl.1 rfl (by exact Nat.le_of_ble_eq_true rfl) dX10_anchor_110 ⟨(by exact Nat.le_of_ble_eq_true rfl), (by exact Nat.le_of_ble_eq_true rfl)⟩) S (fun r_110 f_110 H locs hr_110 S => ?_)
            obtain ⟨rfl, e_can⟩ := hr_110
            have hy_110 : f_110 y = some (1000, .inr (10, [.ref (A 1), .int (nI (st 0 0)), .ref (A 2), .ref (A 3), .ref (A 5), .ref (A 7), .int (nI (st 0 4)), .int (nI (st 0 1)), .int (nI (st 0 2)), .ref (A 9), .int (nI (st 0 3)), .ref (A 10), .ref (A 11), .int (nI 1)])) := by rw [e_can]; exact wu_self _ _ _ _
            have hA10_110 : f_110 (A 10) = some (1010, eJ G 8 (VL 10)) := by rw [e_can]; exact wu_get hy hA10 (by decide)
            have hA11_110 : f_110 (A 11) = some (1011, eJ G 8 (VL 11)) := by rw [e_can]; exact wu_get hy hA11 (by decide)
            have mm_110 : md tM f f_110 := by rw [e_can]; exact md_tr mm0 (md_put hy) (fun _ q => q) (fun t q => by subst q; unfold tM; omega)
            have hM0 : RMx G f_110 st y A V VL (nI 1) := by rw [e_can]; exact RMx_thr hM
            refine r_toi (y := 0) (by rfl) ?_
            have hKC : (k2 (rgL u 1 5000000000 ∧ rgL v 1 100000000) (canP st (nL u) (nL v))) = 1 := k2_1 (fun z => by first | (rw [lg_cmp_lt, l_lt, one64] at c_3; have := z.1.1; omega) | (rw [lg_cmp_gt, l_lt, big64] at c_11; have := z.1.2; omega) | (rw [lg_cmp_lt, l_lt, one64] at c_17; have := z.2.1; omega) | (rw [lg_cmp_gt, l_lt, mil64] at c_25; have := z.2.2; omega))
            refine lv_if_ne (x := 0) (tgt := 118) X.1 X.2.1 dX10_anchor_113 (by decide) (fun c_113 => by first | exact absurd c_113 (by decide) | exact absurd (by decide) c_113) (fun c_113 => ?_)
            refine lv_iconst (v := 0) X.1 X.2.1 dX10_anchor_116 (by decide) ?_
            refine e_i X hr S (Nat.le_of_ble_eq_true rfl) (Nat.le_of_ble_eq_true rfl) dX10_anchor_117 ?_
            rw [hKC]
            exact ⟨⟨A, V, VL, hM0⟩, mm_110, fun z => absurd z (by decide)⟩
  · refine lv_lload_n X.1 X.2.1 dX10_anchor_6 rfl (lv_at hl 1 rfl) ?_
    refine r_ldc2 (v := 5000000000) X (by decide +kernel) dX10_anchor_7 ?_
    refine W.lcmp X.1 X.2.1 dX10_anchor_10 ?_
    refine lv_if_gt (tgt := 32) X.1 X.2.1 dX10_anchor_11 (by decide) (fun c_11 => ?_) (fun c_11 => ?_)
    · refine lv_iconst (v := 0) X.1 X.2.1 dX10_anchor_32 (by decide) ?_
      refine lv_istore (lv' := [(5, .int 0), (0, .ref y), (1, .long u), (3, .long v)]) X.1 X.2.1 dX10_anchor_33 hl (by decide) rfl (fun ls hl => ?_)
      refine lv_aload_n X.1 X.2.1 dX10_anchor_35 rfl (lv_at hl 1 rfl) ?_
      refine r_get (C := RX10) (T := TX10) (N := 14) (ref := "CraterclockModel") X S in_RX10 hy rfl 10 (by decide) (by decide +kernel) (fun _ h => h) rfl dX10_anchor_36 ?_
      refine lv_if_eq (tgt := 83) X.1 X.2.1 dX10_anchor_39 (by decide) (fun c_39 => ?_) (fun c_39 => ?_)
      · refine lv_iconst (v := 1) X.1 X.2.1 dX10_anchor_83 (by decide) ?_
        refine lv_goto (tgt := 88) X.1 X.2.1 dX10_anchor_84 (by decide) ?_
        refine lv_istore (lv' := [(6, .int 1), (5, .int 0), (0, .ref y), (1, .long u), (3, .long v)]) X.1 X.2.1 dX10_anchor_88 hl (by decide) rfl (fun ls hl => ?_)
        refine lv_aload_n X.1 X.2.1 dX10_anchor_90 rfl (lv_at hl 2 rfl) ?_
        refine lv_iload X.1 X.2.1 dX10_anchor_91 (lv_at hl 1 rfl) ?_
        refine lv_if_ne (x := 0) (tgt := 100) X.1 X.2.1 dX10_anchor_93 (by decide) (fun c_93 => by first | exact absurd c_93 (by decide) | exact absurd (by decide) c_93) (fun c_93 => ?_)
        refine lv_iconst (v := 1) X.1 X.2.1 dX10_anchor_96 (by decide) ?_
        refine lv_goto (tgt := 110) X.1 X.2.1 dX10_anchor_97 (by decide) ?_
        refine call_i (run_V X S (n_can l G f y A (nI (st 0 0)) (nI (st 0 4)) (nI (st 0 1)) (nI (st 0 2)) (nI (st 0 3)) thr hy 1 (by omega)) 1 gX10_anchor_X10_can rfl rfl rfl (by decide +kernel) ⟨(by exact Nat.le_of_ble_eq_true rfl), (by exact Nat.le_of_ble_eq_true rfl)⟩ ⟨_, _, hy⟩ rfl rfl rfl hl.1 rfl (by exact Nat.le_of_ble_eq_true rfl) dX10_anchor_110 ⟨(by exact Nat.le_of_ble_eq_true rfl), (by exact Nat.le_of_ble_eq_true rfl)⟩) S (fun r_110 f_110 H locs hr_110 S => ?_)
        obtain ⟨rfl, e_can⟩ := hr_110
        have hy_110 : f_110 y = some (1000, .inr (10, [.ref (A 1), .int (nI (st 0 0)), .ref (A 2), .ref (A 3), .ref (A 5), .ref (A 7), .int (nI (st 0 4)), .int (nI (st 0 1)), .int (nI (st 0 2)), .ref (A 9), .int (nI (st 0 3)), .ref (A 10), .ref (A 11), .int (nI 1)])) := by rw [e_can]; exact wu_self _ _ _ _
        have hA10_110 : f_110 (A 10) = some (1010, eJ G 8 (VL 10)) := by rw [e_can]; exact wu_get hy hA10 (by decide)
        have hA11_110 : f_110 (A 11) = some (1011, eJ G 8 (VL 11)) := by rw [e_can]; exact wu_get hy hA11 (by decide)
        have mm_110 : md tM f f_110 := by rw [e_can]; exact md_tr mm0 (md_put hy) (fun _ q => q) (fun t q => by subst q; unfold tM; omega)
        have hM0 : RMx G f_110 st y A V VL (nI 1) := by rw [e_can]; exact RMx_thr hM
        refine r_toi (y := 0) (by rfl) ?_
        have hKC : (k2 (rgL u 1 5000000000 ∧ rgL v 1 100000000) (canP st (nL u) (nL v))) = 1 := k2_1 (fun z => by first | (rw [lg_cmp_lt, l_lt, one64] at c_3; have := z.1.1; omega) | (rw [lg_cmp_gt, l_lt, big64] at c_11; have := z.1.2; omega) | (rw [lg_cmp_lt, l_lt, one64] at c_17; have := z.2.1; omega) | (rw [lg_cmp_gt, l_lt, mil64] at c_25; have := z.2.2; omega))
        refine lv_if_ne (x := 0) (tgt := 118) X.1 X.2.1 dX10_anchor_113 (by decide) (fun c_113 => by first | exact absurd c_113 (by decide) | exact absurd (by decide) c_113) (fun c_113 => ?_)
        refine lv_iconst (v := 0) X.1 X.2.1 dX10_anchor_116 (by decide) ?_
        refine e_i X hr S (Nat.le_of_ble_eq_true rfl) (Nat.le_of_ble_eq_true rfl) dX10_anchor_117 ?_
        rw [hKC]
        exact ⟨⟨A, V, VL, hM0⟩, mm_110, fun z => absurd z (by decide)⟩
      · have hn0 : 0 < st 0 3 := Nat.pos_of_ne_zero (fun z => c_39 (by rw [z]; rfl))
        have hlt_st031 : st 0 3 - 1 < st 0 3 := by omega
        have hab := hi5 _ hlt_st031
        refine lv_aload_n X.1 X.2.1 dX10_anchor_42 rfl (lv_at hl 1 rfl) ?_
        refine r_get (C := RX10) (T := TX10) (N := 14) (ref := "CraterclockModel") X S in_RX10 hy rfl 10 (by decide) (by decide +kernel) (fun _ h => h) rfl dX10_anchor_43 ?_
        refine lv_bipush (v := 8) X.1 X.2.1 dX10_anchor_46 (by decide) ?_
        refine lv_icmp_ge (tgt := 87) X.1 X.2.1 dX10_anchor_48 (by decide) (fun c_48 => ?_) (fun c_48 => ?_)
        · refine lv_iconst (v := 0) X.1 X.2.1 dX10_anchor_87 (by decide) ?_
          refine lv_istore (lv' := [(6, .int 0), (5, .int 0), (0, .ref y), (1, .long u), (3, .long v)]) X.1 X.2.1 dX10_anchor_88 hl (by decide) rfl (fun ls hl => ?_)
          refine lv_aload_n X.1 X.2.1 dX10_anchor_90 rfl (lv_at hl 2 rfl) ?_
          refine lv_iload X.1 X.2.1 dX10_anchor_91 (lv_at hl 1 rfl) ?_
          refine lv_if_ne (x := 0) (tgt := 100) X.1 X.2.1 dX10_anchor_93 (by decide) (fun c_93 => by first | exact absurd c_93 (by decide) | exact absurd (by decide) c_93) (fun c_93 => ?_)
          refine lv_iconst (v := 1) X.1 X.2.1 dX10_anchor_96 (by decide) ?_
          refine lv_goto (tgt := 110) X.1 X.2.1 dX10_anchor_97 (by decide) ?_
          refine call_i (run_V X S (n_can l G f y A (nI (st 0 0)) (nI (st 0 4)) (nI (st 0 1)) (nI (st 0 2)) (nI (st 0 3)) thr hy 1 (by omega)) 1 gX10_anchor_X10_can rfl rfl rfl (by decide +kernel) ⟨(by exact Nat.le_of_ble_eq_true rfl), (by exact Nat.le_of_ble_eq_true rfl)⟩ ⟨_, _, hy⟩ rfl rfl rfl hl.1 rfl (by exact Nat.le_of_ble_eq_true rfl) dX10_anchor_110 ⟨(by exact Nat.le_of_ble_eq_true rfl), (by exact Nat.le_of_ble_eq_true rfl)⟩) S (fun r_110 f_110 H locs hr_110 S => ?_)
          obtain ⟨rfl, e_can⟩ := hr_110
          have hy_110 : f_110 y = some (1000, .inr (10, [.ref (A 1), .int (nI (st 0 0)), .ref (A 2), .ref (A 3), .ref (A 5), .ref (A 7), .int (nI (st 0 4)), .int (nI (st 0 1)), .int (nI (st 0 2)), .ref (A 9), .int (nI (st 0 3)), .ref (A 10), .ref (A 11), .int (nI 1)])) := by rw [e_can]; exact wu_self _ _ _ _
          have hA10_110 : f_110 (A 10) = some (1010, eJ G 8 (VL 10)) := by rw [e_can]; exact wu_get hy hA10 (by decide)
          have hA11_110 : f_110 (A 11) = some (1011, eJ G 8 (VL 11)) := by rw [e_can]; exact wu_get hy hA11 (by decide)
          have mm_110 : md tM f f_110 := by rw [e_can]; exact md_tr mm0 (md_put hy) (fun _ q => q) (fun t q => by subst q; unfold tM; omega)
          have hM0 : RMx G f_110 st y A V VL (nI 1) := by rw [e_can]; exact RMx_thr hM
          refine r_toi (y := 0) (by rfl) ?_
          have hKC : (k2 (rgL u 1 5000000000 ∧ rgL v 1 100000000) (canP st (nL u) (nL v))) = 1 := k2_1 (fun z => by first | (rw [lg_cmp_lt, l_lt, one64] at c_3; have := z.1.1; omega) | (rw [lg_cmp_gt, l_lt, big64] at c_11; have := z.1.2; omega) | (rw [lg_cmp_lt, l_lt, one64] at c_17; have := z.2.1; omega) | (rw [lg_cmp_gt, l_lt, mil64] at c_25; have := z.2.2; omega))
          refine lv_if_ne (x := 0) (tgt := 118) X.1 X.2.1 dX10_anchor_113 (by decide) (fun c_113 => by first | exact absurd c_113 (by decide) | exact absurd (by decide) c_113) (fun c_113 => ?_)
          refine lv_iconst (v := 0) X.1 X.2.1 dX10_anchor_116 (by decide) ?_
          refine e_i X hr S (Nat.le_of_ble_eq_true rfl) (Nat.le_of_ble_eq_true rfl) dX10_anchor_117 ?_
          rw [hKC]
          exact ⟨⟨A, V, VL, hM0⟩, mm_110, fun z => absurd z (by decide)⟩
        · refine lv_lload_n X.1 X.2.1 dX10_anchor_51 rfl (lv_at hl 2 rfl) ?_
          refine lv_aload_n X.1 X.2.1 dX10_anchor_52 rfl (lv_at hl 1 rfl) ?_
          refine r_get (C := RX10) (T := TX10) (N := 14) (ref := "CraterclockModel") X S in_RX10 hy rfl 11 (by decide) (by decide +kernel) (fun _ h => h) rfl dX10_anchor_53 ?_
          refine lv_aload_n X.1 X.2.1 dX10_anchor_56 rfl (lv_at hl 1 rfl) ?_
          refine r_get (C := RX10) (T := TX10) (N := 14) (ref := "CraterclockModel") X S in_RX10 hy rfl 10 (by decide) (by decide +kernel) (fun _ h => h) rfl dX10_anchor_57 ?_
          refine lv_iconst (v := 1) X.1 X.2.1 dX10_anchor_60 (by decide) ?_
          refine lv_isub X.1 X.2.1 dX10_anchor_61 ?_
          refine r_toi (y := nI (st 0 3 - 1)) (nI_m1 (by omega)) ?_
          refine r_lald (v := (lN (st 10 (st 0 3 - 1)))) X S hA10 (vp_in_nI (show (st 0 3 - 1) < 8 by omega) (by omega)) (by rw [nI_clamp (by omega)]; exact (hvL _ hlt_st031).1) dX10_anchor_62 ?_
          refine W.lcmp X.1 X.2.1 dX10_anchor_63 ?_
          refine lv_if_le (tgt := 87) X.1 X.2.1 dX10_anchor_64 (by decide) (fun c_64 => ?_) (fun c_64 => ?_)
          · refine lv_iconst (v := 0) X.1 X.2.1 dX10_anchor_87 (by decide) ?_
            refine lv_istore (lv' := [(6, .int 0), (5, .int 0), (0, .ref y), (1, .long u), (3, .long v)]) X.1 X.2.1 dX10_anchor_88 hl (by decide) rfl (fun ls hl => ?_)
            refine lv_aload_n X.1 X.2.1 dX10_anchor_90 rfl (lv_at hl 2 rfl) ?_
            refine lv_iload X.1 X.2.1 dX10_anchor_91 (lv_at hl 1 rfl) ?_
            refine lv_if_ne (x := 0) (tgt := 100) X.1 X.2.1 dX10_anchor_93 (by decide) (fun c_93 => by first | exact absurd c_93 (by decide) | exact absurd (by decide) c_93) (fun c_93 => ?_)
            refine lv_iconst (v := 1) X.1 X.2.1 dX10_anchor_96 (by decide) ?_
            refine lv_goto (tgt := 110) X.1 X.2.1 dX10_anchor_97 (by decide) ?_
            refine call_i (run_V X S (n_can l G f y A (nI (st 0 0)) (nI (st 0 4)) (nI (st 0 1)) (nI (st 0 2)) (nI (st 0 3)) thr hy 1 (by omega)) 1 gX10_anchor_X10_can rfl rfl rfl (by decide +kernel) ⟨(by exact Nat.le_of_ble_eq_true rfl), (by exact Nat.le_of_ble_eq_true rfl)⟩ ⟨_, _, hy⟩ rfl rfl rfl hl.1 rfl (by exact Nat.le_of_ble_eq_true rfl) dX10_anchor_110 ⟨(by exact Nat.le_of_ble_eq_true rfl), (by exact Nat.le_of_ble_eq_true rfl)⟩) S (fun r_110 f_110 H locs hr_110 S => ?_)
            obtain ⟨rfl, e_can⟩ := hr_110
            have hy_110 : f_110 y = some (1000, .inr (10, [.ref (A 1), .int (nI (st 0 0)), .ref (A 2), .ref (A 3), .ref (A 5), .ref (A 7), .int (nI (st 0 4)), .int (nI (st 0 1)), .int (nI (st 0 2)), .ref (A 9), .int (nI (st 0 3)), .ref (A 10), .ref (A 11), .int (nI 1)])) := by rw [e_can]; exact wu_self _ _ _ _
            have hA10_110 : f_110 (A 10) = some (1010, eJ G 8 (VL 10)) := by rw [e_can]; exact wu_get hy hA10 (by decide)
            have hA11_110 : f_110 (A 11) = some (1011, eJ G 8 (VL 11)) := by rw [e_can]; exact wu_get hy hA11 (by decide)
            have mm_110 : md tM f f_110 := by rw [e_can]; exact md_tr mm0 (md_put hy) (fun _ q => q) (fun t q => by subst q; unfold tM; omega)
            have hM0 : RMx G f_110 st y A V VL (nI 1) := by rw [e_can]; exact RMx_thr hM
            refine r_toi (y := 0) (by rfl) ?_
            have hKC : (k2 (rgL u 1 5000000000 ∧ rgL v 1 100000000) (canP st (nL u) (nL v))) = 1 := k2_1 (fun z => by first | (rw [lg_cmp_lt, l_lt, one64] at c_3; have := z.1.1; omega) | (rw [lg_cmp_gt, l_lt, big64] at c_11; have := z.1.2; omega) | (rw [lg_cmp_lt, l_lt, one64] at c_17; have := z.2.1; omega) | (rw [lg_cmp_gt, l_lt, mil64] at c_25; have := z.2.2; omega))
            refine lv_if_ne (x := 0) (tgt := 118) X.1 X.2.1 dX10_anchor_113 (by decide) (fun c_113 => by first | exact absurd c_113 (by decide) | exact absurd (by decide) c_113) (fun c_113 => ?_)
            refine lv_iconst (v := 0) X.1 X.2.1 dX10_anchor_116 (by decide) ?_
            refine e_i X hr S (Nat.le_of_ble_eq_true rfl) (Nat.le_of_ble_eq_true rfl) dX10_anchor_117 ?_
            rw [hKC]
            exact ⟨⟨A, V, VL, hM0⟩, mm_110, fun z => absurd z (by decide)⟩
          · refine lv_lload_n X.1 X.2.1 dX10_anchor_67 rfl (lv_at hl 3 rfl) ?_
            refine lv_aload_n X.1 X.2.1 dX10_anchor_68 rfl (lv_at hl 1 rfl) ?_
            refine r_get (C := RX10) (T := TX10) (N := 14) (ref := "CraterclockModel") X S in_RX10 hy rfl 12 (by decide) (by decide +kernel) (fun _ h => h) rfl dX10_anchor_69 ?_
            refine lv_aload_n X.1 X.2.1 dX10_anchor_72 rfl (lv_at hl 1 rfl) ?_
            refine r_get (C := RX10) (T := TX10) (N := 14) (ref := "CraterclockModel") X S in_RX10 hy rfl 10 (by decide) (by decide +kernel) (fun _ h => h) rfl dX10_anchor_73 ?_
            refine lv_iconst (v := 1) X.1 X.2.1 dX10_anchor_76 (by decide) ?_
            refine lv_isub X.1 X.2.1 dX10_anchor_77 ?_
            refine r_toi (y := nI (st 0 3 - 1)) (nI_m1 (by omega)) ?_
            refine r_lald (v := (lN (st 11 (st 0 3 - 1)))) X S hA11 (vp_in_nI (show (st 0 3 - 1) < 8 by omega) (by omega)) (by rw [nI_clamp (by omega)]; exact (hvL _ hlt_st031).2) dX10_anchor_78 ?_
            refine W.lcmp X.1 X.2.1 dX10_anchor_79 ?_
            refine lv_if_le (tgt := 87) X.1 X.2.1 dX10_anchor_80 (by decide) (fun c_80 => ?_) (fun c_80 => ?_)
            · refine lv_iconst (v := 0) X.1 X.2.1 dX10_anchor_87 (by decide) ?_
              refine lv_istore (lv' := [(6, .int 0), (5, .int 0), (0, .ref y), (1, .long u), (3, .long v)]) X.1 X.2.1 dX10_anchor_88 hl (by decide) rfl (fun ls hl => ?_)
              refine lv_aload_n X.1 X.2.1 dX10_anchor_90 rfl (lv_at hl 2 rfl) ?_
              refine lv_iload X.1 X.2.1 dX10_anchor_91 (lv_at hl 1 rfl) ?_
              refine lv_if_ne (x := 0) (tgt := 100) X.1 X.2.1 dX10_anchor_93 (by decide) (fun c_93 => by first | exact absurd c_93 (by decide) | exact absurd (by decide) c_93) (fun c_93 => ?_)
              refine lv_iconst (v := 1) X.1 X.2.1 dX10_anchor_96 (by decide) ?_
              refine lv_goto (tgt := 110) X.1 X.2.1 dX10_anchor_97 (by decide) ?_
              refine call_i (run_V X S (n_can l G f y A (nI (st 0 0)) (nI (st 0 4)) (nI (st 0 1)) (nI (st 0 2)) (nI (st 0 3)) thr hy 1 (by omega)) 1 gX10_anchor_X10_can rfl rfl rfl (by decide +kernel) ⟨(by exact Nat.le_of_ble_eq_true rfl), (by exact Nat.le_of_ble_eq_true rfl)⟩ ⟨_, _, hy⟩ rfl rfl rfl hl.1 rfl (by exact Nat.le_of_ble_eq_true rfl) dX10_anchor_110 ⟨(by exact Nat.le_of_ble_eq_true rfl), (by exact Nat.le_of_ble_eq_true rfl)⟩) S (fun r_110 f_110 H locs hr_110 S => ?_)
              obtain ⟨rfl, e_can⟩ := hr_110
              have hy_110 : f_110 y = some (1000, .inr (10, [.ref (A 1), .int (nI (st 0 0)), .ref (A 2), .ref (A 3), .ref (A 5), .ref (A 7), .int (nI (st 0 4)), .int (nI (st 0 1)), .int (nI (st 0 2)), .ref (A 9), .int (nI (st 0 3)), .ref (A 10), .ref (A 11), .int (nI 1)])) := by rw [e_can]; exact wu_self _ _ _ _
              have hA10_110 : f_110 (A 10) = some (1010, eJ G 8 (VL 10)) := by rw [e_can]; exact wu_get hy hA10 (by decide)
              have hA11_110 : f_110 (A 11) = some (1011, eJ G 8 (VL 11)) := by rw [e_can]; exact wu_get hy hA11 (by decide)
              have mm_110 : md tM f f_110 := by rw [e_can]; exact md_tr mm0 (md_put hy) (fun _ q => q) (fun t q => by subst q; unfold tM; omega)
              have hM0 : RMx G f_110 st y A V VL (nI 1) := by rw [e_can]; exact RMx_thr hM
              refine r_toi (y := 0) (by rfl) ?_
              have hKC : (k2 (rgL u 1 5000000000 ∧ rgL v 1 100000000) (canP st (nL u) (nL v))) = 1 := k2_1 (fun z => by first | (rw [lg_cmp_lt, l_lt, one64] at c_3; have := z.1.1; omega) | (rw [lg_cmp_gt, l_lt, big64] at c_11; have := z.1.2; omega) | (rw [lg_cmp_lt, l_lt, one64] at c_17; have := z.2.1; omega) | (rw [lg_cmp_gt, l_lt, mil64] at c_25; have := z.2.2; omega))
              refine lv_if_ne (x := 0) (tgt := 118) X.1 X.2.1 dX10_anchor_113 (by decide) (fun c_113 => by first | exact absurd c_113 (by decide) | exact absurd (by decide) c_113) (fun c_113 => ?_)
              refine lv_iconst (v := 0) X.1 X.2.1 dX10_anchor_116 (by decide) ?_
              refine e_i X hr S (Nat.le_of_ble_eq_true rfl) (Nat.le_of_ble_eq_true rfl) dX10_anchor_117 ?_
              rw [hKC]
              exact ⟨⟨A, V, VL, hM0⟩, mm_110, fun z => absurd z (by decide)⟩
            · refine lv_iconst (v := 1) X.1 X.2.1 dX10_anchor_83 (by decide) ?_
              refine lv_goto (tgt := 88) X.1 X.2.1 dX10_anchor_84 (by decide) ?_
              refine lv_istore (lv' := [(6, .int 1), (5, .int 0), (0, .ref y), (1, .long u), (3, .long v)]) X.1 X.2.1 dX10_anchor_88 hl (by decide) rfl (fun ls hl => ?_)
              refine lv_aload_n X.1 X.2.1 dX10_anchor_90 rfl (lv_at hl 2 rfl) ?_
              refine lv_iload X.1 X.2.1 dX10_anchor_91 (lv_at hl 1 rfl) ?_
              refine lv_if_ne (x := 0) (tgt := 100) X.1 X.2.1 dX10_anchor_93 (by decide) (fun c_93 => by first | exact absurd c_93 (by decide) | exact absurd (by decide) c_93) (fun c_93 => ?_)
              refine lv_iconst (v := 1) X.1 X.2.1 dX10_anchor_96 (by decide) ?_
              refine lv_goto (tgt := 110) X.1 X.2.1 dX10_anchor_97 (by decide) ?_
              refine call_i (run_V X S (n_can l G f y A (nI (st 0 0)) (nI (st 0 4)) (nI (st 0 1)) (nI (st 0 2)) (nI (st 0 3)) thr hy 1 (by omega)) 1 gX10_anchor_X10_can rfl rfl rfl (by decide +kernel) ⟨(by exact Nat.le_of_ble_eq_true rfl), (by exact Nat.le_of_ble_eq_true rfl)⟩ ⟨_, _, hy⟩ rfl rfl rfl hl.1 rfl (by exact Nat.le_of_ble_eq_true rfl) dX10_anchor_110 ⟨(by exact Nat.le_of_ble_eq_true rfl), (by exact Nat.le_of_ble_eq_true rfl)⟩) S (fun r_110 f_110 H locs hr_110 S => ?_)
              obtain ⟨rfl, e_can⟩ := hr_110
              have hy_110 : f_110 y = some (1000, .inr (10, [.ref (A 1), .int (nI (st 0 0)), .ref (A 2), .ref (A 3), .ref (A 5), .ref (A 7), .int (nI (st 0 4)), .int (nI (st 0 1)), .int (nI (st 0 2)), .ref (A 9), .int (nI (st 0 3)), .ref (A 10), .ref (A 11), .int (nI 1)])) := by rw [e_can]; exact wu_self _ _ _ _
              have hA10_110 : f_110 (A 10) = some (1010, eJ G 8 (VL 10)) := by rw [e_can]; exact wu_get hy hA10 (by decide)
              have hA11_110 : f_110 (A 11) = some (1011, eJ G 8 (VL 11)) := by rw [e_can]; exact wu_get hy hA11 (by decide)
              have mm_110 : md tM f f_110 := by rw [e_can]; exact md_tr mm0 (md_put hy) (fun _ q => q) (fun t q => by subst q; unfold tM; omega)
              have hM0 : RMx G f_110 st y A V VL (nI 1) := by rw [e_can]; exact RMx_thr hM
              refine r_toi (y := 0) (by rfl) ?_
              have hKC : (k2 (rgL u 1 5000000000 ∧ rgL v 1 100000000) (canP st (nL u) (nL v))) = 1 := k2_1 (fun z => by first | (rw [lg_cmp_lt, l_lt, one64] at c_3; have := z.1.1; omega) | (rw [lg_cmp_gt, l_lt, big64] at c_11; have := z.1.2; omega) | (rw [lg_cmp_lt, l_lt, one64] at c_17; have := z.2.1; omega) | (rw [lg_cmp_gt, l_lt, mil64] at c_25; have := z.2.2; omega))
              refine lv_if_ne (x := 0) (tgt := 118) X.1 X.2.1 dX10_anchor_113 (by decide) (fun c_113 => by first | exact absurd c_113 (by decide) | exact absurd (by decide) c_113) (fun c_113 => ?_)
              refine lv_iconst (v := 0) X.1 X.2.1 dX10_anchor_116 (by decide) ?_
              refine e_i X hr S (Nat.le_of_ble_eq_true rfl) (Nat.le_of_ble_eq_true rfl) dX10_anchor_117 ?_
              rw [hKC]
              exact ⟨⟨A, V, VL, hM0⟩, mm_110, fun z => absurd z (by decide)⟩
    · refine lv_lload_n X.1 X.2.1 dX10_anchor_14 rfl (lv_at hl 2 rfl) ?_
      refine lv_lconst (v := 1) X.1 X.2.1 dX10_anchor_15 (by decide) ?_
      refine W.lcmp X.1 X.2.1 dX10_anchor_16 ?_
      refine lv_if_lt (tgt := 32) X.1 X.2.1 dX10_anchor_17 (by decide) (fun c_17 => ?_) (fun c_17 => ?_)
      · refine lv_iconst (v := 0) X.1 X.2.1 dX10_anchor_32 (by decide) ?_
        refine lv_istore (lv' := [(5, .int 0), (0, .ref y), (1, .long u), (3, .long v)]) X.1 X.2.1 dX10_anchor_33 hl (by decide) rfl (fun ls hl => ?_)
        refine lv_aload_n X.1 X.2.1 dX10_anchor_35 rfl (lv_at hl 1 rfl) ?_
        refine r_get (C := RX10) (T := TX10) (N := 14) (ref := "CraterclockModel") X S in_RX10 hy rfl 10 (by decide) (by decide +kernel) (fun _ h => h) rfl dX10_anchor_36 ?_
        refine lv_if_eq (tgt := 83) X.1 X.2.1 dX10_anchor_39 (by decide) (fun c_39 => ?_) (fun c_39 => ?_)
        · refine lv_iconst (v := 1) X.1 X.2.1 dX10_anchor_83 (by decide) ?_
          refine lv_goto (tgt := 88) X.1 X.2.1 dX10_anchor_84 (by decide) ?_
          refine lv_istore (lv' := [(6, .int 1), (5, .int 0), (0, .ref y), (1, .long u), (3, .long v)]) X.1 X.2.1 dX10_anchor_88 hl (by decide) rfl (fun ls hl => ?_)
          refine lv_aload_n X.1 X.2.1 dX10_anchor_90 rfl (lv_at hl 2 rfl) ?_
          refine lv_iload X.1 X.2.1 dX10_anchor_91 (lv_at hl 1 rfl) ?_
          refine lv_if_ne (x := 0) (tgt := 100) X.1 X.2.1 dX10_anchor_93 (by decide) (fun c_93 => by first | exact absurd c_93 (by decide) | exact absurd (by decide) c_93) (fun c_93 => ?_)
          refine lv_iconst (v := 1) X.1 X.2.1 dX10_anchor_96 (by decide) ?_
          refine lv_goto (tgt := 110) X.1 X.2.1 dX10_anchor_97 (by decide) ?_
          refine call_i (run_V X S (n_can l G f y A (nI (st 0 0)) (nI (st 0 4)) (nI (st 0 1)) (nI (st 0 2)) (nI (st 0 3)) thr hy 1 (by omega)) 1 gX10_anchor_X10_can rfl rfl rfl (by decide +kernel) ⟨(by exact Nat.le_of_ble_eq_true rfl), (by exact Nat.le_of_ble_eq_true rfl)⟩ ⟨_, _, hy⟩ rfl rfl rfl hl.1 rfl (by exact Nat.le_of_ble_eq_true rfl) dX10_anchor_110 ⟨(by exact Nat.le_of_ble_eq_true rfl), (by exact Nat.le_of_ble_eq_true rfl)⟩) S (fun r_110 f_110 H locs hr_110 S => ?_)
          obtain ⟨rfl, e_can⟩ := hr_110
          have hy_110 : f_110 y = some (1000, .inr (10, [.ref (A 1), .int (nI (st 0 0)), .ref (A 2), .ref (A 3), .ref (A 5), .ref (A 7), .int (nI (st 0 4)), .int (nI (st 0 1)), .int (nI (st 0 2)), .ref (A 9), .int (nI (st 0 3)), .ref (A 10), .ref (A 11), .int (nI 1)])) := by rw [e_can]; exact wu_self _ _ _ _
          have hA10_110 : f_110 (A 10) = some (1010, eJ G 8 (VL 10)) := by rw [e_can]; exact wu_get hy hA10 (by decide)
          have hA11_110 : f_110 (A 11) = some (1011, eJ G 8 (VL 11)) := by rw [e_can]; exact wu_get hy hA11 (by decide)
          have mm_110 : md tM f f_110 := by rw [e_can]; exact md_tr mm0 (md_put hy) (fun _ q => q) (fun t q => by subst q; unfold tM; omega)
          have hM0 : RMx G f_110 st y A V VL (nI 1) := by rw [e_can]; exact RMx_thr hM
          refine r_toi (y := 0) (by rfl) ?_
          have hKC : (k2 (rgL u 1 5000000000 ∧ rgL v 1 100000000) (canP st (nL u) (nL v))) = 1 := k2_1 (fun z => by first | (rw [lg_cmp_lt, l_lt, one64] at c_3; have := z.1.1; omega) | (rw [lg_cmp_gt, l_lt, big64] at c_11; have := z.1.2; omega) | (rw [lg_cmp_lt, l_lt, one64] at c_17; have := z.2.1; omega) | (rw [lg_cmp_gt, l_lt, mil64] at c_25; have := z.2.2; omega))
          refine lv_if_ne (x := 0) (tgt := 118) X.1 X.2.1 dX10_anchor_113 (by decide) (fun c_113 => by first | exact absurd c_113 (by decide) | exact absurd (by decide) c_113) (fun c_113 => ?_)
          refine lv_iconst (v := 0) X.1 X.2.1 dX10_anchor_116 (by decide) ?_
          refine e_i X hr S (Nat.le_of_ble_eq_true rfl) (Nat.le_of_ble_eq_true rfl) dX10_anchor_117 ?_
          rw [hKC]
          exact ⟨⟨A, V, VL, hM0⟩, mm_110, fun z => absurd z (by decide)⟩
        · have hn0 : 0 < st 0 3 := Nat.pos_of_ne_zero (fun z => c_39 (by rw [z]; rfl))
          have hlt_st031 : st 0 3 - 1 < st 0 3 := by omega
          have hab := hi5 _ hlt_st031
          refine lv_aload_n X.1 X.2.1 dX10_anchor_42 rfl (lv_at hl 1 rfl) ?_
          refine r_get (C := RX10) (T := TX10) (N := 14) (ref := "CraterclockModel") X S in_RX10 hy rfl 10 (by decide) (by decide +kernel) (fun _ h => h) rfl dX10_anchor_43 ?_
          refine lv_bipush (v := 8) X.1 X.2.1 dX10_anchor_46 (by decide) ?_
          refine lv_icmp_ge (tgt := 87) X.1 X.2.1 dX10_anchor_48 (by decide) (fun c_48 => ?_) (fun c_48 => ?_)
          · refine lv_iconst (v := 0) X.1 X.2.1 dX10_anchor_87 (by decide) ?_
            refine lv_istore (lv' := [(6, .int 0), (5, .int 0), (0, .ref y), (1, .long u), (3, .long v)]) X.1 X.2.1 dX10_anchor_88 hl (by decide) rfl (fun ls hl => ?_)
            refine lv_aload_n X.1 X.2.1 dX10_anchor_90 rfl (lv_at hl 2 rfl) ?_
            refine lv_iload X.1 X.2.1 dX10_anchor_91 (lv_at hl 1 rfl) ?_
            refine lv_if_ne (x := 0) (tgt := 100) X.1 X.2.1 dX10_anchor_93 (by decide) (fun c_93 => by first | exact absurd c_93 (by decide) | exact absurd (by decide) c_93) (fun c_93 => ?_)
            refine lv_iconst (v := 1) X.1 X.2.1 dX10_anchor_96 (by decide) ?_
            refine lv_goto (tgt := 110) X.1 X.2.1 dX10_anchor_97 (by decide) ?_
            refine call_i (run_V X S (n_can l G f y A (nI (st 0 0)) (nI (st 0 4)) (nI (st 0 1)) (nI (st 0 2)) (nI (st 0 3)) thr hy 1 (by omega)) 1 gX10_anchor_X10_can rfl rfl rfl (by decide +kernel) ⟨(by exact Nat.le_of_ble_eq_true rfl), (by exact Nat.le_of_ble_eq_true rfl)⟩ ⟨_, _, hy⟩ rfl rfl rfl hl.1 rfl (by exact Nat.le_of_ble_eq_true rfl) dX10_anchor_110 ⟨(by exact Nat.le_of_ble_eq_true rfl), (by exact Nat.le_of_ble_eq_true rfl)⟩) S (fun r_110 f_110 H locs hr_110 S => ?_)
            obtain ⟨rfl, e_can⟩ := hr_110
            have hy_110 : f_110 y = some (1000, .inr (10, [.ref (A 1), .int (nI (st 0 0)), .ref (A 2), .ref (A 3), .ref (A 5), .ref (A 7), .int (nI (st 0 4)), .int (nI (st 0 1)), .int (nI (st 0 2)), .ref (A 9), .int (nI (st 0 3)), .ref (A 10), .ref (A 11), .int (nI 1)])) := by rw [e_can]; exact wu_self _ _ _ _
            have hA10_110 : f_110 (A 10) = some (1010, eJ G 8 (VL 10)) := by rw [e_can]; exact wu_get hy hA10 (by decide)
            have hA11_110 : f_110 (A 11) = some (1011, eJ G 8 (VL 11)) := by rw [e_can]; exact wu_get hy hA11 (by decide)
            have mm_110 : md tM f f_110 := by rw [e_can]; exact md_tr mm0 (md_put hy) (fun _ q => q) (fun t q => by subst q; unfold tM; omega)
            have hM0 : RMx G f_110 st y A V VL (nI 1) := by rw [e_can]; exact RMx_thr hM
            refine r_toi (y := 0) (by rfl) ?_
            have hKC : (k2 (rgL u 1 5000000000 ∧ rgL v 1 100000000) (canP st (nL u) (nL v))) = 1 := k2_1 (fun z => by first | (rw [lg_cmp_lt, l_lt, one64] at c_3; have := z.1.1; omega) | (rw [lg_cmp_gt, l_lt, big64] at c_11; have := z.1.2; omega) | (rw [lg_cmp_lt, l_lt, one64] at c_17; have := z.2.1; omega) | (rw [lg_cmp_gt, l_lt, mil64] at c_25; have := z.2.2; omega))
            refine lv_if_ne (x := 0) (tgt := 118) X.1 X.2.1 dX10_anchor_113 (by decide) (fun c_113 => by first | exact absurd c_113 (by decide) | exact absurd (by decide) c_113) (fun c_113 => ?_)
            refine lv_iconst (v := 0) X.1 X.2.1 dX10_anchor_116 (by decide) ?_
            refine e_i X hr S (Nat.le_of_ble_eq_true rfl) (Nat.le_of_ble_eq_true rfl) dX10_anchor_117 ?_
            rw [hKC]
            exact ⟨⟨A, V, VL, hM0⟩, mm_110, fun z => absurd z (by decide)⟩
          · refine lv_lload_n X.1 X.2.1 dX10_anchor_51 rfl (lv_at hl 2 rfl) ?_
            refine lv_aload_n X.1 X.2.1 dX10_anchor_52 rfl (lv_at hl 1 rfl) ?_
            refine r_get (C := RX10) (T := TX10) (N := 14) (ref := "CraterclockModel") X S in_RX10 hy rfl 11 (by decide) (by decide +kernel) (fun _ h => h) rfl dX10_anchor_53 ?_
            refine lv_aload_n X.1 X.2.1 dX10_anchor_56 rfl (lv_at hl 1 rfl) ?_
            refine r_get (C := RX10) (T := TX10) (N := 14) (ref := "CraterclockModel") X S in_RX10 hy rfl 10 (by decide) (by decide +kernel) (fun _ h => h) rfl dX10_anchor_57 ?_
            refine lv_iconst (v := 1) X.1 X.2.1 dX10_anchor_60 (by decide) ?_
            refine lv_isub X.1 X.2.1 dX10_anchor_61 ?_
            refine r_toi (y := nI (st 0 3 - 1)) (nI_m1 (by omega)) ?_
            refine r_lald (v := (lN (st 10 (st 0 3 - 1)))) X S hA10 (vp_in_nI (show (st 0 3 - 1) < 8 by omega) (by omega)) (by rw [nI_clamp (by omega)]; exact (hvL _ hlt_st031).1) dX10_anchor_62 ?_
            refine W.lcmp X.1 X.2.1 dX10_anchor_63 ?_
            refine lv_if_le (tgt := 87) X.1 X.2.1 dX10_anchor_64 (by decide) (fun c_64 => ?_) (fun c_64 => ?_)
            · refine lv_iconst (v := 0) X.1 X.2.1 dX10_anchor_87 (by decide) ?_
              refine lv_istore (lv' := [(6, .int 0), (5, .int 0), (0, .ref y), (1, .long u), (3, .long v)]) X.1 X.2.1 dX10_anchor_88 hl (by decide) rfl (fun ls hl => ?_)
              refine lv_aload_n X.1 X.2.1 dX10_anchor_90 rfl (lv_at hl 2 rfl) ?_
              refine lv_iload X.1 X.2.1 dX10_anchor_91 (lv_at hl 1 rfl) ?_
              refine lv_if_ne (x := 0) (tgt := 100) X.1 X.2.1 dX10_anchor_93 (by decide) (fun c_93 => by first | exact absurd c_93 (by decide) | exact absurd (by decide) c_93) (fun c_93 => ?_)
              refine lv_iconst (v := 1) X.1 X.2.1 dX10_anchor_96 (by decide) ?_
              refine lv_goto (tgt := 110) X.1 X.2.1 dX10_anchor_97 (by decide) ?_
              refine call_i (run_V X S (n_can l G f y A (nI (st 0 0)) (nI (st 0 4)) (nI (st 0 1)) (nI (st 0 2)) (nI (st 0 3)) thr hy 1 (by omega)) 1 gX10_anchor_X10_can rfl rfl rfl (by decide +kernel) ⟨(by exact Nat.le_of_ble_eq_true rfl), (by exact Nat.le_of_ble_eq_true rfl)⟩ ⟨_, _, hy⟩ rfl rfl rfl hl.1 rfl (by exact Nat.le_of_ble_eq_true rfl) dX10_anchor_110 ⟨(by exact Nat.le_of_ble_eq_true rfl), (by exact Nat.le_of_ble_eq_true rfl)⟩) S (fun r_110 f_110 H locs hr_110 S => ?_)
              obtain ⟨rfl, e_can⟩ := hr_110
              have hy_110 : f_110 y = some (1000, .inr (10, [.ref (A 1), .int (nI (st 0 0)), .ref (A 2), .ref (A 3), .ref (A 5), .ref (A 7), .int (nI (st 0 4)), .int (nI (st 0 1)), .int (nI (st 0 2)), .ref (A 9), .int (nI (st 0 3)), .ref (A 10), .ref (A 11), .int (nI 1)])) := by rw [e_can]; exact wu_self _ _ _ _
              have hA10_110 : f_110 (A 10) = some (1010, eJ G 8 (VL 10)) := by rw [e_can]; exact wu_get hy hA10 (by decide)
              have hA11_110 : f_110 (A 11) = some (1011, eJ G 8 (VL 11)) := by rw [e_can]; exact wu_get hy hA11 (by decide)
              have mm_110 : md tM f f_110 := by rw [e_can]; exact md_tr mm0 (md_put hy) (fun _ q => q) (fun t q => by subst q; unfold tM; omega)
              have hM0 : RMx G f_110 st y A V VL (nI 1) := by rw [e_can]; exact RMx_thr hM
              refine r_toi (y := 0) (by rfl) ?_
              have hKC : (k2 (rgL u 1 5000000000 ∧ rgL v 1 100000000) (canP st (nL u) (nL v))) = 1 := k2_1 (fun z => by first | (rw [lg_cmp_lt, l_lt, one64] at c_3; have := z.1.1; omega) | (rw [lg_cmp_gt, l_lt, big64] at c_11; have := z.1.2; omega) | (rw [lg_cmp_lt, l_lt, one64] at c_17; have := z.2.1; omega) | (rw [lg_cmp_gt, l_lt, mil64] at c_25; have := z.2.2; omega))
              refine lv_if_ne (x := 0) (tgt := 118) X.1 X.2.1 dX10_anchor_113 (by decide) (fun c_113 => by first | exact absurd c_113 (by decide) | exact absurd (by decide) c_113) (fun c_113 => ?_)
              refine lv_iconst (v := 0) X.1 X.2.1 dX10_anchor_116 (by decide) ?_
              refine e_i X hr S (Nat.le_of_ble_eq_true rfl) (Nat.le_of_ble_eq_true rfl) dX10_anchor_117 ?_
              rw [hKC]
              exact ⟨⟨A, V, VL, hM0⟩, mm_110, fun z => absurd z (by decide)⟩
            · refine lv_lload_n X.1 X.2.1 dX10_anchor_67 rfl (lv_at hl 3 rfl) ?_
              refine lv_aload_n X.1 X.2.1 dX10_anchor_68 rfl (lv_at hl 1 rfl) ?_
              refine r_get (C := RX10) (T := TX10) (N := 14) (ref := "CraterclockModel") X S in_RX10 hy rfl 12 (by decide) (by decide +kernel) (fun _ h => h) rfl dX10_anchor_69 ?_
              refine lv_aload_n X.1 X.2.1 dX10_anchor_72 rfl (lv_at hl 1 rfl) ?_
              refine r_get (C := RX10) (T := TX10) (N := 14) (ref := "CraterclockModel") X S in_RX10 hy rfl 10 (by decide) (by decide +kernel) (fun _ h => h) rfl dX10_anchor_73 ?_
              refine lv_iconst (v := 1) X.1 X.2.1 dX10_anchor_76 (by decide) ?_
              refine lv_isub X.1 X.2.1 dX10_anchor_77 ?_
              refine r_toi (y := nI (st 0 3 - 1)) (nI_m1 (by omega)) ?_
              refine r_lald (v := (lN (st 11 (st 0 3 - 1)))) X S hA11 (vp_in_nI (show (st 0 3 - 1) < 8 by omega) (by omega)) (by rw [nI_clamp (by omega)]; exact (hvL _ hlt_st031).2) dX10_anchor_78 ?_
              refine W.lcmp X.1 X.2.1 dX10_anchor_79 ?_
              refine lv_if_le (tgt := 87) X.1 X.2.1 dX10_anchor_80 (by decide) (fun c_80 => ?_) (fun c_80 => ?_)
              · refine lv_iconst (v := 0) X.1 X.2.1 dX10_anchor_87 (by decide) ?_
                refine lv_istore (lv' := [(6, .int 0), (5, .int 0), (0, .ref y), (1, .long u), (3, .long v)]) X.1 X.2.1 dX10_anchor_88 hl (by decide) rfl (fun ls hl => ?_)
                refine lv_aload_n X.1 X.2.1 dX10_anchor_90 rfl (lv_at hl 2 rfl) ?_
                refine lv_iload X.1 X.2.1 dX10_anchor_91 (lv_at hl 1 rfl) ?_
                refine lv_if_ne (x := 0) (tgt := 100) X.1 X.2.1 dX10_anchor_93 (by decide) (fun c_93 => by first | exact absurd c_93 (by decide) | exact absurd (by decide) c_93) (fun c_93 => ?_)
                refine lv_iconst (v := 1) X.1 X.2.1 dX10_anchor_96 (by decide) ?_
                refine lv_goto (tgt := 110) X.1 X.2.1 dX10_anchor_97 (by decide) ?_
                refine call_i (run_V X S (n_can l G f y A (nI (st 0 0)) (nI (st 0 4)) (nI (st 0 1)) (nI (st 0 2)) (nI (st 0 3)) thr hy 1 (by omega)) 1 gX10_anchor_X10_can rfl rfl rfl (by decide +kernel) ⟨(by exact Nat.le_of_ble_eq_true rfl), (by exact Nat.le_of_ble_eq_true rfl)⟩ ⟨_, _, hy⟩ rfl rfl rfl hl.1 rfl (by exact Nat.le_of_ble_eq_true rfl) dX10_anchor_110 ⟨(by exact Nat.le_of_ble_eq_true rfl), (by exact Nat.le_of_ble_eq_true rfl)⟩) S (fun r_110 f_110 H locs hr_110 S => ?_)
                obtain ⟨rfl, e_can⟩ := hr_110
                have hy_110 : f_110 y = some (1000, .inr (10, [.ref (A 1), .int (nI (st 0 0)), .ref (A 2), .ref (A 3), .ref (A 5), .ref (A 7), .int (nI (st 0 4)), .int (nI (st 0 1)), .int (nI (st 0 2)), .ref (A 9), .int (nI (st 0 3)), .ref (A 10), .ref (A 11), .int (nI 1)])) := by rw [e_can]; exact wu_self _ _ _ _
                have hA10_110 : f_110 (A 10) = some (1010, eJ G 8 (VL 10)) := by rw [e_can]; exact wu_get hy hA10 (by decide)
                have hA11_110 : f_110 (A 11) = some (1011, eJ G 8 (VL 11)) := by rw [e_can]; exact wu_get hy hA11 (by decide)
                have mm_110 : md tM f f_110 := by rw [e_can]; exact md_tr mm0 (md_put hy) (fun _ q => q) (fun t q => by subst q; unfold tM; omega)
                have hM0 : RMx G f_110 st y A V VL (nI 1) := by rw [e_can]; exact RMx_thr hM
                refine r_toi (y := 0) (by rfl) ?_
                have hKC : (k2 (rgL u 1 5000000000 ∧ rgL v 1 100000000) (canP st (nL u) (nL v))) = 1 := k2_1 (fun z => by first | (rw [lg_cmp_lt, l_lt, one64] at c_3; have := z.1.1; omega) | (rw [lg_cmp_gt, l_lt, big64] at c_11; have := z.1.2; omega) | (rw [lg_cmp_lt, l_lt, one64] at c_17; have := z.2.1; omega) | (rw [lg_cmp_gt, l_lt, mil64] at c_25; have := z.2.2; omega))
                refine lv_if_ne (x := 0) (tgt := 118) X.1 X.2.1 dX10_anchor_113 (by decide) (fun c_113 => by first | exact absurd c_113 (by decide) | exact absurd (by decide) c_113) (fun c_113 => ?_)
                refine lv_iconst (v := 0) X.1 X.2.1 dX10_anchor_116 (by decide) ?_
                refine e_i X hr S (Nat.le_of_ble_eq_true rfl) (Nat.le_of_ble_eq_true rfl) dX10_anchor_117 ?_
                rw [hKC]
                exact ⟨⟨A, V, VL, hM0⟩, mm_110, fun z => absurd z (by decide)⟩
              · refine lv_iconst (v := 1) X.1 X.2.1 dX10_anchor_83 (by decide) ?_
                refine lv_goto (tgt := 88) X.1 X.2.1 dX10_anchor_84 (by decide) ?_
                refine lv_istore (lv' := [(6, .int 1), (5, .int 0), (0, .ref y), (1, .long u), (3, .long v)]) X.1 X.2.1 dX10_anchor_88 hl (by decide) rfl (fun ls hl => ?_)
                refine lv_aload_n X.1 X.2.1 dX10_anchor_90 rfl (lv_at hl 2 rfl) ?_
                refine lv_iload X.1 X.2.1 dX10_anchor_91 (lv_at hl 1 rfl) ?_
                refine lv_if_ne (x := 0) (tgt := 100) X.1 X.2.1 dX10_anchor_93 (by decide) (fun c_93 => by first | exact absurd c_93 (by decide) | exact absurd (by decide) c_93) (fun c_93 => ?_)
                refine lv_iconst (v := 1) X.1 X.2.1 dX10_anchor_96 (by decide) ?_
                refine lv_goto (tgt := 110) X.1 X.2.1 dX10_anchor_97 (by decide) ?_
                refine call_i (run_V X S (n_can l G f y A (nI (st 0 0)) (nI (st 0 4)) (nI (st 0 1)) (nI (st 0 2)) (nI (st 0 3)) thr hy 1 (by omega)) 1 gX10_anchor_X10_can rfl rfl rfl (by decide +kernel) ⟨(by exact Nat.le_of_ble_eq_true rfl), (by exact Nat.le_of_ble_eq_true rfl)⟩ ⟨_, _, hy⟩ rfl rfl rfl hl.1 rfl (by exact Nat.le_of_ble_eq_true rfl) dX10_anchor_110 ⟨(by exact Nat.le_of_ble_eq_true rfl), (by exact Nat.le_of_ble_eq_true rfl)⟩) S (fun r_110 f_110 H locs hr_110 S => ?_)
                obtain ⟨rfl, e_can⟩ := hr_110
                have hy_110 : f_110 y = some (1000, .inr (10, [.ref (A 1), .int (nI (st 0 0)), .ref (A 2), .ref (A 3), .ref (A 5), .ref (A 7), .int (nI (st 0 4)), .int (nI (st 0 1)), .int (nI (st 0 2)), .ref (A 9), .int (nI (st 0 3)), .ref (A 10), .ref (A 11), .int (nI 1)])) := by rw [e_can]; exact wu_self _ _ _ _
                have hA10_110 : f_110 (A 10) = some (1010, eJ G 8 (VL 10)) := by rw [e_can]; exact wu_get hy hA10 (by decide)
                have hA11_110 : f_110 (A 11) = some (1011, eJ G 8 (VL 11)) := by rw [e_can]; exact wu_get hy hA11 (by decide)
                have mm_110 : md tM f f_110 := by rw [e_can]; exact md_tr mm0 (md_put hy) (fun _ q => q) (fun t q => by subst q; unfold tM; omega)
                have hM0 : RMx G f_110 st y A V VL (nI 1) := by rw [e_can]; exact RMx_thr hM
                refine r_toi (y := 0) (by rfl) ?_
                have hKC : (k2 (rgL u 1 5000000000 ∧ rgL v 1 100000000) (canP st (nL u) (nL v))) = 1 := k2_1 (fun z => by first | (rw [lg_cmp_lt, l_lt, one64] at c_3; have := z.1.1; omega) | (rw [lg_cmp_gt, l_lt, big64] at c_11; have := z.1.2; omega) | (rw [lg_cmp_lt, l_lt, one64] at c_17; have := z.2.1; omega) | (rw [lg_cmp_gt, l_lt, mil64] at c_25; have := z.2.2; omega))
                refine lv_if_ne (x := 0) (tgt := 118) X.1 X.2.1 dX10_anchor_113 (by decide) (fun c_113 => by first | exact absurd c_113 (by decide) | exact absurd (by decide) c_113) (fun c_113 => ?_)
                refine lv_iconst (v := 0) X.1 X.2.1 dX10_anchor_116 (by decide) ?_
                refine e_i X hr S (Nat.le_of_ble_eq_true rfl) (Nat.le_of_ble_eq_true rfl) dX10_anchor_117 ?_
                rw [hKC]
                exact ⟨⟨A, V, VL, hM0⟩, mm_110, fun z => absurd z (by decide)⟩
      · refine lv_lload_n X.1 X.2.1 dX10_anchor_20 rfl (lv_at hl 2 rfl) ?_
        refine r_ldc2 (v := 100000000) X (by decide +kernel) dX10_anchor_21 ?_
        refine W.lcmp X.1 X.2.1 dX10_anchor_24 ?_
        refine lv_if_gt (tgt := 32) X.1 X.2.1 dX10_anchor_25 (by decide) (fun c_25 => ?_) (fun c_25 => ?_)
        · refine lv_iconst (v := 0) X.1 X.2.1 dX10_anchor_32 (by decide) ?_
          refine lv_istore (lv' := [(5, .int 0), (0, .ref y), (1, .long u), (3, .long v)]) X.1 X.2.1 dX10_anchor_33 hl (by decide) rfl (fun ls hl => ?_)
          refine lv_aload_n X.1 X.2.1 dX10_anchor_35 rfl (lv_at hl 1 rfl) ?_
          refine r_get (C := RX10) (T := TX10) (N := 14) (ref := "CraterclockModel") X S in_RX10 hy rfl 10 (by decide) (by decide +kernel) (fun _ h => h) rfl dX10_anchor_36 ?_
          refine lv_if_eq (tgt := 83) X.1 X.2.1 dX10_anchor_39 (by decide) (fun c_39 => ?_) (fun c_39 => ?_)
          · refine lv_iconst (v := 1) X.1 X.2.1 dX10_anchor_83 (by decide) ?_
            refine lv_goto (tgt := 88) X.1 X.2.1 dX10_anchor_84 (by decide) ?_
            refine lv_istore (lv' := [(6, .int 1), (5, .int 0), (0, .ref y), (1, .long u), (3, .long v)]) X.1 X.2.1 dX10_anchor_88 hl (by decide) rfl (fun ls hl => ?_)
            refine lv_aload_n X.1 X.2.1 dX10_anchor_90 rfl (lv_at hl 2 rfl) ?_
            refine lv_iload X.1 X.2.1 dX10_anchor_91 (lv_at hl 1 rfl) ?_
            refine lv_if_ne (x := 0) (tgt := 100) X.1 X.2.1 dX10_anchor_93 (by decide) (fun c_93 => by first | exact absurd c_93 (by decide) | exact absurd (by decide) c_93) (fun c_93 => ?_)
            refine lv_iconst (v := 1) X.1 X.2.1 dX10_anchor_96 (by decide) ?_
            refine lv_goto (tgt := 110) X.1 X.2.1 dX10_anchor_97 (by decide) ?_
            refine call_i (run_V X S (n_can l G f y A (nI (st 0 0)) (nI (st 0 4)) (nI (st 0 1)) (nI (st 0 2)) (nI (st 0 3)) thr hy 1 (by omega)) 1 gX10_anchor_X10_can rfl rfl rfl (by decide +kernel) ⟨(by exact Nat.le_of_ble_eq_true rfl), (by exact Nat.le_of_ble_eq_true rfl)⟩ ⟨_, _, hy⟩ rfl rfl rfl hl.1 rfl (by exact Nat.le_of_ble_eq_true rfl) dX10_anchor_110 ⟨(by exact Nat.le_of_ble_eq_true rfl), (by exact Nat.le_of_ble_eq_true rfl)⟩) S (fun r_110 f_110 H locs hr_110 S => ?_)
            obtain ⟨rfl, e_can⟩ := hr_110
            have hy_110 : f_110 y = some (1000, .inr (10, [.ref (A 1), .int (nI (st 0 0)), .ref (A 2), .ref (A 3), .ref (A 5), .ref (A 7), .int (nI (st 0 4)), .int (nI (st 0 1)), .int (nI (st 0 2)), .ref (A 9), .int (nI (st 0 3)), .ref (A 10), .ref (A 11), .int (nI 1)])) := by rw [e_can]; exact wu_self _ _ _ _
            have hA10_110 : f_110 (A 10) = some (1010, eJ G 8 (VL 10)) := by rw [e_can]; exact wu_get hy hA10 (by decide)
            have hA11_110 : f_110 (A 11) = some (1011, eJ G 8 (VL 11)) := by rw [e_can]; exact wu_get hy hA11 (by decide)
            have mm_110 : md tM f f_110 := by rw [e_can]; exact md_tr mm0 (md_put hy) (fun _ q => q) (fun t q => by subst q; unfold tM; omega)
            have hM0 : RMx G f_110 st y A V VL (nI 1) := by rw [e_can]; exact RMx_thr hM
            refine r_toi (y := 0) (by rfl) ?_
            have hKC : (k2 (rgL u 1 5000000000 ∧ rgL v 1 100000000) (canP st (nL u) (nL v))) = 1 := k2_1 (fun z => by first | (rw [lg_cmp_lt, l_lt, one64] at c_3; have := z.1.1; omega) | (rw [lg_cmp_gt, l_lt, big64] at c_11; have := z.1.2; omega) | (rw [lg_cmp_lt, l_lt, one64] at c_17; have := z.2.1; omega) | (rw [lg_cmp_gt, l_lt, mil64] at c_25; have := z.2.2; omega))
            refine lv_if_ne (x := 0) (tgt := 118) X.1 X.2.1 dX10_anchor_113 (by decide) (fun c_113 => by first | exact absurd c_113 (by decide) | exact absurd (by decide) c_113) (fun c_113 => ?_)
            refine lv_iconst (v := 0) X.1 X.2.1 dX10_anchor_116 (by decide) ?_
            refine e_i X hr S (Nat.le_of_ble_eq_true rfl) (Nat.le_of_ble_eq_true rfl) dX10_anchor_117 ?_
            rw [hKC]
            exact ⟨⟨A, V, VL, hM0⟩, mm_110, fun z => absurd z (by decide)⟩
          · have hn0 : 0 < st 0 3 := Nat.pos_of_ne_zero (fun z => c_39 (by rw [z]; rfl))
            have hlt_st031 : st 0 3 - 1 < st 0 3 := by omega
            have hab := hi5 _ hlt_st031
            refine lv_aload_n X.1 X.2.1 dX10_anchor_42 rfl (lv_at hl 1 rfl) ?_
            refine r_get (C := RX10) (T := TX10) (N := 14) (ref := "CraterclockModel") X S in_RX10 hy rfl 10 (by decide) (by decide +kernel) (fun _ h => h) rfl dX10_anchor_43 ?_
            refine lv_bipush (v := 8) X.1 X.2.1 dX10_anchor_46 (by decide) ?_
            refine lv_icmp_ge (tgt := 87) X.1 X.2.1 dX10_anchor_48 (by decide) (fun c_48 => ?_) (fun c_48 => ?_)
            · refine lv_iconst (v := 0) X.1 X.2.1 dX10_anchor_87 (by decide) ?_
              refine lv_istore (lv' := [(6, .int 0), (5, .int 0), (0, .ref y), (1, .long u), (3, .long v)]) X.1 X.2.1 dX10_anchor_88 hl (by decide) rfl (fun ls hl => ?_)
              refine lv_aload_n X.1 X.2.1 dX10_anchor_90 rfl (lv_at hl 2 rfl) ?_
              refine lv_iload X.1 X.2.1 dX10_anchor_91 (lv_at hl 1 rfl) ?_
              refine lv_if_ne (x := 0) (tgt := 100) X.1 X.2.1 dX10_anchor_93 (by decide) (fun c_93 => by first | exact absurd c_93 (by decide) | exact absurd (by decide) c_93) (fun c_93 => ?_)
              refine lv_iconst (v := 1) X.1 X.2.1 dX10_anchor_96 (by decide) ?_
              refine lv_goto (tgt := 110) X.1 X.2.1 dX10_anchor_97 (by decide) ?_
              refine call_i (run_V X S (n_can l G f y A (nI (st 0 0)) (nI (st 0 4)) (nI (st 0 1)) (nI (st 0 2)) (nI (st 0 3)) thr hy 1 (by omega)) 1 gX10_anchor_X10_can rfl rfl rfl (by decide +kernel) ⟨(by exact Nat.le_of_ble_eq_true rfl), (by exact Nat.le_of_ble_eq_true rfl)⟩ ⟨_, _, hy⟩ rfl rfl rfl hl.1 rfl (by exact Nat.le_of_ble_eq_true rfl) dX10_anchor_110 ⟨(by exact Nat.le_of_ble_eq_true rfl), (by exact Nat.le_of_ble_eq_true rfl)⟩) S (fun r_110 f_110 H locs hr_110 S => ?_)
              obtain ⟨rfl, e_can⟩ := hr_110
              have hy_110 : f_110 y = some (1000, .inr (10, [.ref (A 1), .int (nI (st 0 0)), .ref (A 2), .ref (A 3), .ref (A 5), .ref (A 7), .int (nI (st 0 4)), .int (nI (st 0 1)), .int (nI (st 0 2)), .ref (A 9), .int (nI (st 0 3)), .ref (A 10), .ref (A 11), .int (nI 1)])) := by rw [e_can]; exact wu_self _ _ _ _
              have hA10_110 : f_110 (A 10) = some (1010, eJ G 8 (VL 10)) := by rw [e_can]; exact wu_get hy hA10 (by decide)
              have hA11_110 : f_110 (A 11) = some (1011, eJ G 8 (VL 11)) := by rw [e_can]; exact wu_get hy hA11 (by decide)
              have mm_110 : md tM f f_110 := by rw [e_can]; exact md_tr mm0 (md_put hy) (fun _ q => q) (fun t q => by subst q; unfold tM; omega)
              have hM0 : RMx G f_110 st y A V VL (nI 1) := by rw [e_can]; exact RMx_thr hM
              refine r_toi (y := 0) (by rfl) ?_
              have hKC : (k2 (rgL u 1 5000000000 ∧ rgL v 1 100000000) (canP st (nL u) (nL v))) = 1 := k2_1 (fun z => by first | (rw [lg_cmp_lt, l_lt, one64] at c_3; have := z.1.1; omega) | (rw [lg_cmp_gt, l_lt, big64] at c_11; have := z.1.2; omega) | (rw [lg_cmp_lt, l_lt, one64] at c_17; have := z.2.1; omega) | (rw [lg_cmp_gt, l_lt, mil64] at c_25; have := z.2.2; omega))
              refine lv_if_ne (x := 0) (tgt := 118) X.1 X.2.1 dX10_anchor_113 (by decide) (fun c_113 => by first | exact absurd c_113 (by decide) | exact absurd (by decide) c_113) (fun c_113 => ?_)
              refine lv_iconst (v := 0) X.1 X.2.1 dX10_anchor_116 (by decide) ?_
              refine e_i X hr S (Nat.le_of_ble_eq_true rfl) (Nat.le_of_ble_eq_true rfl) dX10_anchor_117 ?_
              rw [hKC]
              exact ⟨⟨A, V, VL, hM0⟩, mm_110, fun z => absurd z (by decide)⟩
            · refine lv_lload_n X.1 X.2.1 dX10_anchor_51 rfl (lv_at hl 2 rfl) ?_
              refine lv_aload_n X.1 X.2.1 dX10_anchor_52 rfl (lv_at hl 1 rfl) ?_
              refine r_get (C := RX10) (T := TX10) (N := 14) (ref := "CraterclockModel") X S in_RX10 hy rfl 11 (by decide) (by decide +kernel) (fun _ h => h) rfl dX10_anchor_53 ?_
              refine lv_aload_n X.1 X.2.1 dX10_anchor_56 rfl (lv_at hl 1 rfl) ?_
              refine r_get (C := RX10) (T := TX10) (N := 14) (ref := "CraterclockModel") X S in_RX10 hy rfl 10 (by decide) (by decide +kernel) (fun _ h => h) rfl dX10_anchor_57 ?_
              refine lv_iconst (v := 1) X.1 X.2.1 dX10_anchor_60 (by decide) ?_
              refine lv_isub X.1 X.2.1 dX10_anchor_61 ?_
              refine r_toi (y := nI (st 0 3 - 1)) (nI_m1 (by omega)) ?_
              refine r_lald (v := (lN (st 10 (st 0 3 - 1)))) X S hA10 (vp_in_nI (show (st 0 3 - 1) < 8 by omega) (by omega)) (by rw [nI_clamp (by omega)]; exact (hvL _ hlt_st031).1) dX10_anchor_62 ?_
              refine W.lcmp X.1 X.2.1 dX10_anchor_63 ?_
              refine lv_if_le (tgt := 87) X.1 X.2.1 dX10_anchor_64 (by decide) (fun c_64 => ?_) (fun c_64 => ?_)
              · refine lv_iconst (v := 0) X.1 X.2.1 dX10_anchor_87 (by decide) ?_
                refine lv_istore (lv' := [(6, .int 0), (5, .int 0), (0, .ref y), (1, .long u), (3, .long v)]) X.1 X.2.1 dX10_anchor_88 hl (by decide) rfl (fun ls hl => ?_)
                refine lv_aload_n X.1 X.2.1 dX10_anchor_90 rfl (lv_at hl 2 rfl) ?_
                refine lv_iload X.1 X.2.1 dX10_anchor_91 (lv_at hl 1 rfl) ?_
                refine lv_if_ne (x := 0) (tgt := 100) X.1 X.2.1 dX10_anchor_93 (by decide) (fun c_93 => by first | exact absurd c_93 (by decide) | exact absurd (by decide) c_93) (fun c_93 => ?_)
                refine lv_iconst (v := 1) X.1 X.2.1 dX10_anchor_96 (by decide) ?_
                refine lv_goto (tgt := 110) X.1 X.2.1 dX10_anchor_97 (by decide) ?_
                refine call_i (run_V X S (n_can l G f y A (nI (st 0 0)) (nI (st 0 4)) (nI (st 0 1)) (nI (st 0 2)) (nI (st 0 3)) thr hy 1 (by omega)) 1 gX10_anchor_X10_can rfl rfl rfl (by decide +kernel) ⟨(by exact Nat.le_of_ble_eq_true rfl), (by exact Nat.le_of_ble_eq_true rfl)⟩ ⟨_, _, hy⟩ rfl rfl rfl hl.1 rfl (by exact Nat.le_of_ble_eq_true rfl) dX10_anchor_110 ⟨(by exact Nat.le_of_ble_eq_true rfl), (by exact Nat.le_of_ble_eq_true rfl)⟩) S (fun r_110 f_110 H locs hr_110 S => ?_)
                obtain ⟨rfl, e_can⟩ := hr_110
                have hy_110 : f_110 y = some (1000, .inr (10, [.ref (A 1), .int (nI (st 0 0)), .ref (A 2), .ref (A 3), .ref (A 5), .ref (A 7), .int (nI (st 0 4)), .int (nI (st 0 1)), .int (nI (st 0 2)), .ref (A 9), .int (nI (st 0 3)), .ref (A 10), .ref (A 11), .int (nI 1)])) := by rw [e_can]; exact wu_self _ _ _ _
                have hA10_110 : f_110 (A 10) = some (1010, eJ G 8 (VL 10)) := by rw [e_can]; exact wu_get hy hA10 (by decide)
                have hA11_110 : f_110 (A 11) = some (1011, eJ G 8 (VL 11)) := by rw [e_can]; exact wu_get hy hA11 (by decide)
                have mm_110 : md tM f f_110 := by rw [e_can]; exact md_tr mm0 (md_put hy) (fun _ q => q) (fun t q => by subst q; unfold tM; omega)
                have hM0 : RMx G f_110 st y A V VL (nI 1) := by rw [e_can]; exact RMx_thr hM
                refine r_toi (y := 0) (by rfl) ?_
                have hKC : (k2 (rgL u 1 5000000000 ∧ rgL v 1 100000000) (canP st (nL u) (nL v))) = 1 := k2_1 (fun z => by first | (rw [lg_cmp_lt, l_lt, one64] at c_3; have := z.1.1; omega) | (rw [lg_cmp_gt, l_lt, big64] at c_11; have := z.1.2; omega) | (rw [lg_cmp_lt, l_lt, one64] at c_17; have := z.2.1; omega) | (rw [lg_cmp_gt, l_lt, mil64] at c_25; have := z.2.2; omega))
                refine lv_if_ne (x := 0) (tgt := 118) X.1 X.2.1 dX10_anchor_113 (by decide) (fun c_113 => by first | exact absurd c_113 (by decide) | exact absurd (by decide) c_113) (fun c_113 => ?_)
                refine lv_iconst (v := 0) X.1 X.2.1 dX10_anchor_116 (by decide) ?_
                refine e_i X hr S (Nat.le_of_ble_eq_true rfl) (Nat.le_of_ble_eq_true rfl) dX10_anchor_117 ?_
                rw [hKC]
                exact ⟨⟨A, V, VL, hM0⟩, mm_110, fun z => absurd z (by decide)⟩
              · refine lv_lload_n X.1 X.2.1 dX10_anchor_67 rfl (lv_at hl 3 rfl) ?_
                refine lv_aload_n X.1 X.2.1 dX10_anchor_68 rfl (lv_at hl 1 rfl) ?_
                refine r_get (C := RX10) (T := TX10) (N := 14) (ref := "CraterclockModel") X S in_RX10 hy rfl 12 (by decide) (by decide +kernel) (fun _ h => h) rfl dX10_anchor_69 ?_
                refine lv_aload_n X.1 X.2.1 dX10_anchor_72 rfl (lv_at hl 1 rfl) ?_
                refine r_get (C := RX10) (T := TX10) (N := 14) (ref := "CraterclockModel") X S in_RX10 hy rfl 10 (by decide) (by decide +kernel) (fun _ h => h) rfl dX10_anchor_73 ?_
                refine lv_iconst (v := 1) X.1 X.2.1 dX10_anchor_76 (by decide) ?_
                refine lv_isub X.1 X.2.1 dX10_anchor_77 ?_
                refine r_toi (y := nI (st 0 3 - 1)) (nI_m1 (by omega)) ?_
                refine r_lald (v := (lN (st 11 (st 0 3 - 1)))) X S hA11 (vp_in_nI (show (st 0 3 - 1) < 8 by omega) (by omega)) (by rw [nI_clamp (by omega)]; exact (hvL _ hlt_st031).2) dX10_anchor_78 ?_
                refine W.lcmp X.1 X.2.1 dX10_anchor_79 ?_
                refine lv_if_le (tgt := 87) X.1 X.2.1 dX10_anchor_80 (by decide) (fun c_80 => ?_) (fun c_80 => ?_)
                · refine lv_iconst (v := 0) X.1 X.2.1 dX10_anchor_87 (by decide) ?_
                  refine lv_istore (lv' := [(6, .int 0), (5, .int 0), (0, .ref y), (1, .long u), (3, .long v)]) X.1 X.2.1 dX10_anchor_88 hl (by decide) rfl (fun ls hl => ?_)
                  refine lv_aload_n X.1 X.2.1 dX10_anchor_90 rfl (lv_at hl 2 rfl) ?_
                  refine lv_iload X.1 X.2.1 dX10_anchor_91 (lv_at hl 1 rfl) ?_
                  refine lv_if_ne (x := 0) (tgt := 100) X.1 X.2.1 dX10_anchor_93 (by decide) (fun c_93 => by first | exact absurd c_93 (by decide) | exact absurd (by decide) c_93) (fun c_93 => ?_)
                  refine lv_iconst (v := 1) X.1 X.2.1 dX10_anchor_96 (by decide) ?_
                  refine lv_goto (tgt := 110) X.1 X.2.1 dX10_anchor_97 (by decide) ?_
                  refine call_i (run_V X S (n_can l G f y A (nI (st 0 0)) (nI (st 0 4)) (nI (st 0 1)) (nI (st 0 2)) (nI (st 0 3)) thr hy 1 (by omega)) 1 gX10_anchor_X10_can rfl rfl rfl (by decide +kernel) ⟨(by exact Nat.le_of_ble_eq_true rfl), (by exact Nat.le_of_ble_eq_true rfl)⟩ ⟨_, _, hy⟩ rfl rfl rfl hl.1 rfl (by exact Nat.le_of_ble_eq_true rfl) dX10_anchor_110 ⟨(by exact Nat.le_of_ble_eq_true rfl), (by exact Nat.le_of_ble_eq_true rfl)⟩) S (fun r_110 f_110 H locs hr_110 S => ?_)
                  obtain ⟨rfl, e_can⟩ := hr_110
                  have hy_110 : f_110 y = some (1000, .inr (10, [.ref (A 1), .int (nI (st 0 0)), .ref (A 2), .ref (A 3), .ref (A 5), .ref (A 7), .int (nI (st 0 4)), .int (nI (st 0 1)), .int (nI (st 0 2)), .ref (A 9), .int (nI (st 0 3)), .ref (A 10), .ref (A 11), .int (nI 1)])) := by rw [e_can]; exact wu_self _ _ _ _
                  have hA10_110 : f_110 (A 10) = some (1010, eJ G 8 (VL 10)) := by rw [e_can]; exact wu_get hy hA10 (by decide)
                  have hA11_110 : f_110 (A 11) = some (1011, eJ G 8 (VL 11)) := by rw [e_can]; exact wu_get hy hA11 (by decide)
                  have mm_110 : md tM f f_110 := by rw [e_can]; exact md_tr mm0 (md_put hy) (fun _ q => q) (fun t q => by subst q; unfold tM; omega)
                  have hM0 : RMx G f_110 st y A V VL (nI 1) := by rw [e_can]; exact RMx_thr hM
                  refine r_toi (y := 0) (by rfl) ?_
                  have hKC : (k2 (rgL u 1 5000000000 ∧ rgL v 1 100000000) (canP st (nL u) (nL v))) = 1 := k2_1 (fun z => by first | (rw [lg_cmp_lt, l_lt, one64] at c_3; have := z.1.1; omega) | (rw [lg_cmp_gt, l_lt, big64] at c_11; have := z.1.2; omega) | (rw [lg_cmp_lt, l_lt, one64] at c_17; have := z.2.1; omega) | (rw [lg_cmp_gt, l_lt, mil64] at c_25; have := z.2.2; omega))
                  refine lv_if_ne (x := 0) (tgt := 118) X.1 X.2.1 dX10_anchor_113 (by decide) (fun c_113 => by first | exact absurd c_113 (by decide) | exact absurd (by decide) c_113) (fun c_113 => ?_)
                  refine lv_iconst (v := 0) X.1 X.2.1 dX10_anchor_116 (by decide) ?_
                  refine e_i X hr S (Nat.le_of_ble_eq_true rfl) (Nat.le_of_ble_eq_true rfl) dX10_anchor_117 ?_
                  rw [hKC]
                  exact ⟨⟨A, V, VL, hM0⟩, mm_110, fun z => absurd z (by decide)⟩
                · refine lv_iconst (v := 1) X.1 X.2.1 dX10_anchor_83 (by decide) ?_
                  refine lv_goto (tgt := 88) X.1 X.2.1 dX10_anchor_84 (by decide) ?_
                  refine lv_istore (lv' := [(6, .int 1), (5, .int 0), (0, .ref y), (1, .long u), (3, .long v)]) X.1 X.2.1 dX10_anchor_88 hl (by decide) rfl (fun ls hl => ?_)
                  refine lv_aload_n X.1 X.2.1 dX10_anchor_90 rfl (lv_at hl 2 rfl) ?_
                  refine lv_iload X.1 X.2.1 dX10_anchor_91 (lv_at hl 1 rfl) ?_
                  refine lv_if_ne (x := 0) (tgt := 100) X.1 X.2.1 dX10_anchor_93 (by decide) (fun c_93 => by first | exact absurd c_93 (by decide) | exact absurd (by decide) c_93) (fun c_93 => ?_)
                  refine lv_iconst (v := 1) X.1 X.2.1 dX10_anchor_96 (by decide) ?_
                  refine lv_goto (tgt := 110) X.1 X.2.1 dX10_anchor_97 (by decide) ?_
                  refine call_i (run_V X S (n_can l G f y A (nI (st 0 0)) (nI (st 0 4)) (nI (st 0 1)) (nI (st 0 2)) (nI (st 0 3)) thr hy 1 (by omega)) 1 gX10_anchor_X10_can rfl rfl rfl (by decide +kernel) ⟨(by exact Nat.le_of_ble_eq_true rfl), (by exact Nat.le_of_ble_eq_true rfl)⟩ ⟨_, _, hy⟩ rfl rfl rfl hl.1 rfl (by exact Nat.le_of_ble_eq_true rfl) dX10_anchor_110 ⟨(by exact Nat.le_of_ble_eq_true rfl), (by exact Nat.le_of_ble_eq_true rfl)⟩) S (fun r_110 f_110 H locs hr_110 S => ?_)
                  obtain ⟨rfl, e_can⟩ := hr_110
                  have hy_110 : f_110 y = some (1000, .inr (10, [.ref (A 1), .int (nI (st 0 0)), .ref (A 2), .ref (A 3), .ref (A 5), .ref (A 7), .int (nI (st 0 4)), .int (nI (st 0 1)), .int (nI (st 0 2)), .ref (A 9), .int (nI (st 0 3)), .ref (A 10), .ref (A 11), .int (nI 1)])) := by rw [e_can]; exact wu_self _ _ _ _
                  have hA10_110 : f_110 (A 10) = some (1010, eJ G 8 (VL 10)) := by rw [e_can]; exact wu_get hy hA10 (by decide)
                  have hA11_110 : f_110 (A 11) = some (1011, eJ G 8 (VL 11)) := by rw [e_can]; exact wu_get hy hA11 (by decide)
                  have mm_110 : md tM f f_110 := by rw [e_can]; exact md_tr mm0 (md_put hy) (fun _ q => q) (fun t q => by subst q; unfold tM; omega)
                  have hM0 : RMx G f_110 st y A V VL (nI 1) := by rw [e_can]; exact RMx_thr hM
                  refine r_toi (y := 0) (by rfl) ?_
                  have hKC : (k2 (rgL u 1 5000000000 ∧ rgL v 1 100000000) (canP st (nL u) (nL v))) = 1 := k2_1 (fun z => by first | (rw [lg_cmp_lt, l_lt, one64] at c_3; have := z.1.1; omega) | (rw [lg_cmp_gt, l_lt, big64] at c_11; have := z.1.2; omega) | (rw [lg_cmp_lt, l_lt, one64] at c_17; have := z.2.1; omega) | (rw [lg_cmp_gt, l_lt, mil64] at c_25; have := z.2.2; omega))
                  refine lv_if_ne (x := 0) (tgt := 118) X.1 X.2.1 dX10_anchor_113 (by decide) (fun c_113 => by first | exact absurd c_113 (by decide) | exact absurd (by decide) c_113) (fun c_113 => ?_)
                  refine lv_iconst (v := 0) X.1 X.2.1 dX10_anchor_116 (by decide) ?_
                  refine e_i X hr S (Nat.le_of_ble_eq_true rfl) (Nat.le_of_ble_eq_true rfl) dX10_anchor_117 ?_
                  rw [hKC]
                  exact ⟨⟨A, V, VL, hM0⟩, mm_110, fun z => absurd z (by decide)⟩
        · refine lv_iconst (v := 1) X.1 X.2.1 dX10_anchor_28 (by decide) ?_
          refine lv_goto (tgt := 33) X.1 X.2.1 dX10_anchor_29 (by decide) ?_
          refine lv_istore (lv' := [(5, .int 1), (0, .ref y), (1, .long u), (3, .long v)]) X.1 X.2.1 dX10_anchor_33 hl (by decide) rfl (fun ls hl => ?_)
          refine lv_aload_n X.1 X.2.1 dX10_anchor_35 rfl (lv_at hl 1 rfl) ?_
          refine r_get (C := RX10) (T := TX10) (N := 14) (ref := "CraterclockModel") X S in_RX10 hy rfl 10 (by decide) (by decide +kernel) (fun _ h => h) rfl dX10_anchor_36 ?_
          refine lv_if_eq (tgt := 83) X.1 X.2.1 dX10_anchor_39 (by decide) (fun c_39 => ?_) (fun c_39 => ?_)
          · refine lv_iconst (v := 1) X.1 X.2.1 dX10_anchor_83 (by decide) ?_
            refine lv_goto (tgt := 88) X.1 X.2.1 dX10_anchor_84 (by decide) ?_
            refine lv_istore (lv' := [(6, .int 1), (5, .int 1), (0, .ref y), (1, .long u), (3, .long v)]) X.1 X.2.1 dX10_anchor_88 hl (by decide) rfl (fun ls hl => ?_)
            have hP1 : rgL u 1 5000000000 ∧ rgL v 1 100000000 := by
              rw [lg_cmp_lt, l_lt, one64] at c_3 c_17
              rw [lg_cmp_gt, l_lt, big64] at c_11
              rw [lg_cmp_gt, l_lt, mil64] at c_25
              exact ⟨⟨by omega, by omega⟩, by omega, by omega⟩
            obtain ⟨u1, rfl, ulo, uup, ubd⟩ := lN_sub2 hP1.1.1 hP1.1.2 (by omega)
            have nu : nL (lN u1) = u1 := nL_lN ubd
            obtain ⟨v1, rfl, vlo, vup, vbd⟩ := lN_sub2 hP1.2.1 hP1.2.2 (by omega)
            have nv : nL (lN v1) = v1 := nL_lN vbd
            refine lv_aload_n X.1 X.2.1 dX10_anchor_90 rfl (lv_at hl 2 rfl) ?_
            refine lv_iload X.1 X.2.1 dX10_anchor_91 (lv_at hl 1 rfl) ?_
            refine lv_if_ne (x := 1) (tgt := 100) X.1 X.2.1 dX10_anchor_93 (by decide) (fun c_93 => ?_) (fun c_93 => by first | exact absurd c_93 (by decide) | exact absurd (by decide) c_93)
            refine lv_iload X.1 X.2.1 dX10_anchor_100 (lv_at hl 0 rfl) ?_
            refine lv_if_eq (x := 1) (tgt := 109) X.1 X.2.1 dX10_anchor_102 (by decide) (fun c_102 => by first | exact absurd c_102 (by decide) | exact absurd (by decide) c_102) (fun c_102 => ?_)
            refine lv_iconst (v := 0) X.1 X.2.1 dX10_anchor_105 (by decide) ?_
            refine lv_goto (tgt := 110) X.1 X.2.1 dX10_anchor_106 (by decide) ?_
            refine call_i (run_V X S (n_can l G f y A (nI (st 0 0)) (nI (st 0 4)) (nI (st 0 1)) (nI (st 0 2)) (nI (st 0 3)) thr hy 0 (by omega)) 1 gX10_anchor_X10_can rfl rfl rfl (by decide +kernel) ⟨(by exact Nat.le_of_ble_eq_true rfl), (by exact Nat.le_of_ble_eq_true rfl)⟩ ⟨_, _, hy⟩ rfl rfl rfl hl.1 rfl (by exact Nat.le_of_ble_eq_true rfl) dX10_anchor_110 ⟨(by exact Nat.le_of_ble_eq_true rfl), (by exact Nat.le_of_ble_eq_true rfl)⟩) S (fun r_110 f_110 H locs hr_110 S => ?_)
            obtain ⟨rfl, e_can⟩ := hr_110
            have hy_110 : f_110 y = some (1000, .inr (10, [.ref (A 1), .int (nI (st 0 0)), .ref (A 2), .ref (A 3), .ref (A 5), .ref (A 7), .int (nI (st 0 4)), .int (nI (st 0 1)), .int (nI (st 0 2)), .ref (A 9), .int (nI (st 0 3)), .ref (A 10), .ref (A 11), .int (nI 0)])) := by rw [e_can]; exact wu_self _ _ _ _
            have hA10_110 : f_110 (A 10) = some (1010, eJ G 8 (VL 10)) := by rw [e_can]; exact wu_get hy hA10 (by decide)
            have hA11_110 : f_110 (A 11) = some (1011, eJ G 8 (VL 11)) := by rw [e_can]; exact wu_get hy hA11 (by decide)
            have mm_110 : md tM f f_110 := by rw [e_can]; exact md_tr mm0 (md_put hy) (fun _ q => q) (fun t q => by subst q; unfold tM; omega)
            have hM0 : RMx G f_110 st y A V VL (nI 0) := by rw [e_can]; exact RMx_thr hM
            refine r_toi (y := 1) (by rfl) ?_
            have hcan : canP st (nL (lN u1)) (nL (lN v1)) := (by rw [nu, nv]; first | exact Or.inl ((nI_eq (b := 0) (by omega) (by omega)).mp c_39) | exact Or.inr ⟨Nat.lt_of_not_le (fun z => c_48 (nI_le z (by omega))), lN_ltn (by omega) (by omega) (by have z := c_64; rw [lg_cmp_le] at z; exact Int64.not_le.mp z), lN_ltn (by omega) (by omega) (by have z := c_80; rw [lg_cmp_le] at z; exact Int64.not_le.mp z)⟩)
            have hKC : (k2 (rgL (lN u1) 1 5000000000 ∧ rgL (lN v1) 1 100000000) (canP st (nL (lN u1)) (nL (lN v1)))) = 0 := k2_0 hP1 hcan
            rw [nu, nv] at hcan
            have h8 : st 0 3 < 8 := by unfold canP at hcan; omega
            refine lv_if_ne (x := 1) (tgt := 118) X.1 X.2.1 dX10_anchor_113 (by decide) (fun c_113 => ?_) (fun c_113 => by first | exact absurd c_113 (by decide) | exact absurd (by decide) c_113)
            refine lv_aload_n X.1 X.2.1 dX10_anchor_118 rfl (lv_at hl 2 rfl) ?_
            refine r_get (C := RX10) (T := TX10) (N := 14) (ref := "CraterclockModel") X S in_RX10 hy_110 rfl 11 (by decide) (by decide +kernel) (fun _ h => h) rfl dX10_anchor_119 ?_
            refine lv_aload_n X.1 X.2.1 dX10_anchor_122 rfl (lv_at hl 2 rfl) ?_
            refine r_get (C := RX10) (T := TX10) (N := 14) (ref := "CraterclockModel") X S in_RX10 hy_110 rfl 10 (by decide) (by decide +kernel) (fun _ h => h) rfl dX10_anchor_123 ?_
            refine lv_lload_n X.1 X.2.1 dX10_anchor_126 rfl (lv_at hl 3 rfl) ?_
            refine r_last X S hA10_110 (by decide) (vp_in_nI (show (st 0 3) < 8 by omega) (by omega)) dX10_anchor_127 (fun H locs S => ?_)
            rw [nI_clamp (by omega)] at S
            obtain ⟨f_127, ef_127⟩ : ∃ z9 : Wd, z9 = wu f_110 (A 10) 1010 (eJ G 8 (vp_updL (VL 10) (st 0 3) (lN u1))) := ⟨_, rfl⟩
            rw [← ef_127] at S
            have hy_127 : f_127 y = some (1000, .inr (10, [.ref (A 1), .int (nI (st 0 0)), .ref (A 2), .ref (A 3), .ref (A 5), .ref (A 7), .int (nI (st 0 4)), .int (nI (st 0 1)), .int (nI (st 0 2)), .ref (A 9), .int (nI (st 0 3)), .ref (A 10), .ref (A 11), .int (nI 0)])) := by rw [ef_127]; exact wu_get hA10_110 hy_110 (by decide)
            have hA10_127 : f_127 (A 10) = some (1010, eJ G 8 (vp_updL (VL 10) (st 0 3) (lN u1))) := by rw [ef_127]; exact wu_self _ _ _ _
            have hA11_127 : f_127 (A 11) = some (1011, eJ G 8 (VL 11)) := by rw [ef_127]; exact wu_get hA10_110 hA11_110 (by decide)
            have mm_127 : md tM f f_127 := by rw [ef_127]; exact md_tr mm_110 (md_put hA10_110) (fun _ q => q) (fun t q => by subst q; unfold tM; omega)
            refine lv_aload_n X.1 X.2.1 dX10_anchor_128 rfl (lv_at hl 2 rfl) ?_
            refine r_get (C := RX10) (T := TX10) (N := 14) (ref := "CraterclockModel") X S in_RX10 hy_127 rfl 12 (by decide) (by decide +kernel) (fun _ h => h) rfl dX10_anchor_129 ?_
            refine lv_aload_n X.1 X.2.1 dX10_anchor_132 rfl (lv_at hl 2 rfl) ?_
            refine r_get (C := RX10) (T := TX10) (N := 14) (ref := "CraterclockModel") X S in_RX10 hy_127 rfl 10 (by decide) (by decide +kernel) (fun _ h => h) rfl dX10_anchor_133 ?_
            refine lv_lload_n X.1 X.2.1 dX10_anchor_136 rfl (lv_at hl 4 rfl) ?_
            refine r_last X S hA11_127 (by decide) (vp_in_nI (show (st 0 3) < 8 by omega) (by omega)) dX10_anchor_137 (fun H locs S => ?_)
            rw [nI_clamp (by omega)] at S
            obtain ⟨f_137, ef_137⟩ : ∃ z9 : Wd, z9 = wu f_127 (A 11) 1011 (eJ G 8 (vp_updL (VL 11) (st 0 3) (lN v1))) := ⟨_, rfl⟩
            rw [← ef_137] at S
            have hy_137 : f_137 y = some (1000, .inr (10, [.ref (A 1), .int (nI (st 0 0)), .ref (A 2), .ref (A 3), .ref (A 5), .ref (A 7), .int (nI (st 0 4)), .int (nI (st 0 1)), .int (nI (st 0 2)), .ref (A 9), .int (nI (st 0 3)), .ref (A 10), .ref (A 11), .int (nI 0)])) := by rw [ef_137]; exact wu_get hA11_127 hy_127 (by decide)
            have hA10_137 : f_137 (A 10) = some (1010, eJ G 8 (vp_updL (VL 10) (st 0 3) (lN u1))) := by rw [ef_137]; exact wu_get hA11_127 hA10_127 (by decide)
            have hA11_137 : f_137 (A 11) = some (1011, eJ G 8 (vp_updL (VL 11) (st 0 3) (lN v1))) := by rw [ef_137]; exact wu_self _ _ _ _
            have mm_137 : md tM f f_137 := by rw [ef_137]; exact md_tr mm_127 (md_put hA11_127) (fun _ q => q) (fun t q => by subst q; unfold tM; omega)
            refine lv_aload_n X.1 X.2.1 dX10_anchor_138 rfl (lv_at hl 2 rfl) ?_
            refine lv_dup X.1 X.2.1 dX10_anchor_139 rfl ?_
            refine r_get (C := RX10) (T := TX10) (N := 14) (ref := "CraterclockModel") X S in_RX10 hy_137 rfl 10 (by decide) (by decide +kernel) (fun _ h => h) rfl dX10_anchor_140 ?_
            refine lv_iconst (v := 1) X.1 X.2.1 dX10_anchor_143 (by decide) ?_
            refine lv_iadd X.1 X.2.1 dX10_anchor_144 ?_
            refine r_toi (y := nI (st 0 3 + 1)) (nI_1 _) ?_
            refine r_put (C := RX10) (T := TX10) (N := 14) (ref := "CraterclockModel") (fs' := [.ref (A 1), .int (nI (st 0 0)), .ref (A 2), .ref (A 3), .ref (A 5), .ref (A 7), .int (nI (st 0 4)), .int (nI (st 0 1)), .int (nI (st 0 2)), .ref (A 9), .int (nI (st 0 3 + 1)), .ref (A 10), .ref (A 11), .int (nI 0)]) (ty := .int) X S in_RX10 tyX10 tyX10_ok nmX10 hy_137 (by decide) rfl 10 (by decide) (by decide +kernel) (fun _ h => h) rfl (by decide +kernel) rfl rfl (Nat.le_of_ble_eq_true rfl) rfl dX10_anchor_145 (fun H locs S => ?_)
            obtain ⟨f_145, ef_145⟩ : ∃ z9 : Wd, z9 = wu f_137 y 1000 (.inr (10, [.ref (A 1), .int (nI (st 0 0)), .ref (A 2), .ref (A 3), .ref (A 5), .ref (A 7), .int (nI (st 0 4)), .int (nI (st 0 1)), .int (nI (st 0 2)), .ref (A 9), .int (nI (st 0 3 + 1)), .ref (A 10), .ref (A 11), .int (nI 0)])) := ⟨_, rfl⟩
            rw [← ef_145] at S
            have hy_145 : f_145 y = some (1000, .inr (10, [.ref (A 1), .int (nI (st 0 0)), .ref (A 2), .ref (A 3), .ref (A 5), .ref (A 7), .int (nI (st 0 4)), .int (nI (st 0 1)), .int (nI (st 0 2)), .ref (A 9), .int (nI (st 0 3 + 1)), .ref (A 10), .ref (A 11), .int (nI 0)])) := by rw [ef_145]; exact wu_self _ _ _ _
            have hA10_145 : f_145 (A 10) = some (1010, eJ G 8 (vp_updL (VL 10) (st 0 3) (lN u1))) := by rw [ef_145]; exact wu_get hy_137 hA10_137 (by decide)
            have hA11_145 : f_145 (A 11) = some (1011, eJ G 8 (vp_updL (VL 11) (st 0 3) (lN v1))) := by rw [ef_145]; exact wu_get hy_137 hA11_137 (by decide)
            have mm_145 : md tM f f_145 := by rw [ef_145]; exact md_tr mm_137 (md_put hy_137) (fun _ q => q) (fun t q => by subst q; unfold tM; omega)
            refine lv_aload_n X.1 X.2.1 dX10_anchor_148 rfl (lv_at hl 2 rfl) ?_
            refine r_get (C := RX10) (T := TX10) (N := 14) (ref := "CraterclockModel") X S in_RX10 hy_145 rfl 10 (by decide) (by decide +kernel) (fun _ h => h) rfl dX10_anchor_149 ?_
            refine e_i X hr S (Nat.le_of_ble_eq_true rfl) (Nat.le_of_ble_eq_true rfl) dX10_anchor_152 ?_
            rw [hKC]
            refine ⟨?_, mm_145, fun _ => ?_⟩
            · rw [nu, nv]; exact ⟨A, V, _, by rw [ef_145, ef_137, ef_127]; exact RMx_anch hM0⟩
            · rfl
          · have hn0 : 0 < st 0 3 := Nat.pos_of_ne_zero (fun z => c_39 (by rw [z]; rfl))
            have hlt_st031 : st 0 3 - 1 < st 0 3 := by omega
            have hab := hi5 _ hlt_st031
            refine lv_aload_n X.1 X.2.1 dX10_anchor_42 rfl (lv_at hl 1 rfl) ?_
            refine r_get (C := RX10) (T := TX10) (N := 14) (ref := "CraterclockModel") X S in_RX10 hy rfl 10 (by decide) (by decide +kernel) (fun _ h => h) rfl dX10_anchor_43 ?_
            refine lv_bipush (v := 8) X.1 X.2.1 dX10_anchor_46 (by decide) ?_
            refine lv_icmp_ge (tgt := 87) X.1 X.2.1 dX10_anchor_48 (by decide) (fun c_48 => ?_) (fun c_48 => ?_)
            · refine lv_iconst (v := 0) X.1 X.2.1 dX10_anchor_87 (by decide) ?_
              refine lv_istore (lv' := [(6, .int 0), (5, .int 1), (0, .ref y), (1, .long u), (3, .long v)]) X.1 X.2.1 dX10_anchor_88 hl (by decide) rfl (fun ls hl => ?_)
              have hP1 : rgL u 1 5000000000 ∧ rgL v 1 100000000 := by
                rw [lg_cmp_lt, l_lt, one64] at c_3 c_17
                rw [lg_cmp_gt, l_lt, big64] at c_11
                rw [lg_cmp_gt, l_lt, mil64] at c_25
                exact ⟨⟨by omega, by omega⟩, by omega, by omega⟩
              obtain ⟨u1, rfl, ulo, uup, ubd⟩ := lN_sub2 hP1.1.1 hP1.1.2 (by omega)
              have nu : nL (lN u1) = u1 := nL_lN ubd
              obtain ⟨v1, rfl, vlo, vup, vbd⟩ := lN_sub2 hP1.2.1 hP1.2.2 (by omega)
              have nv : nL (lN v1) = v1 := nL_lN vbd
              refine lv_aload_n X.1 X.2.1 dX10_anchor_90 rfl (lv_at hl 2 rfl) ?_
              refine lv_iload X.1 X.2.1 dX10_anchor_91 (lv_at hl 1 rfl) ?_
              refine lv_if_ne (x := 1) (tgt := 100) X.1 X.2.1 dX10_anchor_93 (by decide) (fun c_93 => ?_) (fun c_93 => by first | exact absurd c_93 (by decide) | exact absurd (by decide) c_93)
              refine lv_iload X.1 X.2.1 dX10_anchor_100 (lv_at hl 0 rfl) ?_
              refine lv_if_eq (x := 0) (tgt := 109) X.1 X.2.1 dX10_anchor_102 (by decide) (fun c_102 => ?_) (fun c_102 => by first | exact absurd c_102 (by decide) | exact absurd (by decide) c_102)
              refine lv_iconst (v := 2) X.1 X.2.1 dX10_anchor_109 (by decide) ?_
              refine call_i (run_V X S (n_can l G f y A (nI (st 0 0)) (nI (st 0 4)) (nI (st 0 1)) (nI (st 0 2)) (nI (st 0 3)) thr hy 2 (by omega)) 1 gX10_anchor_X10_can rfl rfl rfl (by decide +kernel) ⟨(by exact Nat.le_of_ble_eq_true rfl), (by exact Nat.le_of_ble_eq_true rfl)⟩ ⟨_, _, hy⟩ rfl rfl rfl hl.1 rfl (by exact Nat.le_of_ble_eq_true rfl) dX10_anchor_110 ⟨(by exact Nat.le_of_ble_eq_true rfl), (by exact Nat.le_of_ble_eq_true rfl)⟩) S (fun r_110 f_110 H locs hr_110 S => ?_)
              obtain ⟨rfl, e_can⟩ := hr_110
              have hy_110 : f_110 y = some (1000, .inr (10, [.ref (A 1), .int (nI (st 0 0)), .ref (A 2), .ref (A 3), .ref (A 5), .ref (A 7), .int (nI (st 0 4)), .int (nI (st 0 1)), .int (nI (st 0 2)), .ref (A 9), .int (nI (st 0 3)), .ref (A 10), .ref (A 11), .int (nI 2)])) := by rw [e_can]; exact wu_self _ _ _ _
              have hA10_110 : f_110 (A 10) = some (1010, eJ G 8 (VL 10)) := by rw [e_can]; exact wu_get hy hA10 (by decide)
              have hA11_110 : f_110 (A 11) = some (1011, eJ G 8 (VL 11)) := by rw [e_can]; exact wu_get hy hA11 (by decide)
              have mm_110 : md tM f f_110 := by rw [e_can]; exact md_tr mm0 (md_put hy) (fun _ q => q) (fun t q => by subst q; unfold tM; omega)
              have hM0 : RMx G f_110 st y A V VL (nI 2) := by rw [e_can]; exact RMx_thr hM
              refine r_toi (y := 0) (by rfl) ?_
              have hKC : (k2 (rgL (lN u1) 1 5000000000 ∧ rgL (lN v1) 1 100000000) (canP st (nL (lN u1)) (nL (lN v1)))) = 2 := k2_2 hP1 (fun z => by rw [nu, nv] at z; unfold canP at z; have hn0 : st 0 3 ≠ 0 := (fun q => c_39 (by rw [q]; rfl)); have hz := z.resolve_left hn0; first | exact nI_nle8 hz.1 c_48 | exact absurd (lN_len (by omega) (by omega) ((lg_cmp_le _ _).mp c_64)) (by omega) | exact absurd (lN_len (by omega) (by omega) ((lg_cmp_le _ _).mp c_80)) (by omega))
              refine lv_if_ne (x := 0) (tgt := 118) X.1 X.2.1 dX10_anchor_113 (by decide) (fun c_113 => by first | exact absurd c_113 (by decide) | exact absurd (by decide) c_113) (fun c_113 => ?_)
              refine lv_iconst (v := 0) X.1 X.2.1 dX10_anchor_116 (by decide) ?_
              refine e_i X hr S (Nat.le_of_ble_eq_true rfl) (Nat.le_of_ble_eq_true rfl) dX10_anchor_117 ?_
              rw [hKC]
              exact ⟨⟨A, V, VL, hM0⟩, mm_110, fun z => absurd z (by decide)⟩
            · refine lv_lload_n X.1 X.2.1 dX10_anchor_51 rfl (lv_at hl 2 rfl) ?_
              refine lv_aload_n X.1 X.2.1 dX10_anchor_52 rfl (lv_at hl 1 rfl) ?_
              refine r_get (C := RX10) (T := TX10) (N := 14) (ref := "CraterclockModel") X S in_RX10 hy rfl 11 (by decide) (by decide +kernel) (fun _ h => h) rfl dX10_anchor_53 ?_
              refine lv_aload_n X.1 X.2.1 dX10_anchor_56 rfl (lv_at hl 1 rfl) ?_
              refine r_get (C := RX10) (T := TX10) (N := 14) (ref := "CraterclockModel") X S in_RX10 hy rfl 10 (by decide) (by decide +kernel) (fun _ h => h) rfl dX10_anchor_57 ?_
              refine lv_iconst (v := 1) X.1 X.2.1 dX10_anchor_60 (by decide) ?_
              refine lv_isub X.1 X.2.1 dX10_anchor_61 ?_
              refine r_toi (y := nI (st 0 3 - 1)) (nI_m1 (by omega)) ?_
              refine r_lald (v := (lN (st 10 (st 0 3 - 1)))) X S hA10 (vp_in_nI (show (st 0 3 - 1) < 8 by omega) (by omega)) (by rw [nI_clamp (by omega)]; exact (hvL _ hlt_st031).1) dX10_anchor_62 ?_
              refine W.lcmp X.1 X.2.1 dX10_anchor_63 ?_
              refine lv_if_le (tgt := 87) X.1 X.2.1 dX10_anchor_64 (by decide) (fun c_64 => ?_) (fun c_64 => ?_)
              · refine lv_iconst (v := 0) X.1 X.2.1 dX10_anchor_87 (by decide) ?_
                refine lv_istore (lv' := [(6, .int 0), (5, .int 1), (0, .ref y), (1, .long u), (3, .long v)]) X.1 X.2.1 dX10_anchor_88 hl (by decide) rfl (fun ls hl => ?_)
                have hP1 : rgL u 1 5000000000 ∧ rgL v 1 100000000 := by
                  rw [lg_cmp_lt, l_lt, one64] at c_3 c_17
                  rw [lg_cmp_gt, l_lt, big64] at c_11
                  rw [lg_cmp_gt, l_lt, mil64] at c_25
                  exact ⟨⟨by omega, by omega⟩, by omega, by omega⟩
                obtain ⟨u1, rfl, ulo, uup, ubd⟩ := lN_sub2 hP1.1.1 hP1.1.2 (by omega)
                have nu : nL (lN u1) = u1 := nL_lN ubd
                obtain ⟨v1, rfl, vlo, vup, vbd⟩ := lN_sub2 hP1.2.1 hP1.2.2 (by omega)
                have nv : nL (lN v1) = v1 := nL_lN vbd
                refine lv_aload_n X.1 X.2.1 dX10_anchor_90 rfl (lv_at hl 2 rfl) ?_
                refine lv_iload X.1 X.2.1 dX10_anchor_91 (lv_at hl 1 rfl) ?_
                refine lv_if_ne (x := 1) (tgt := 100) X.1 X.2.1 dX10_anchor_93 (by decide) (fun c_93 => ?_) (fun c_93 => by first | exact absurd c_93 (by decide) | exact absurd (by decide) c_93)
                refine lv_iload X.1 X.2.1 dX10_anchor_100 (lv_at hl 0 rfl) ?_
                refine lv_if_eq (x := 0) (tgt := 109) X.1 X.2.1 dX10_anchor_102 (by decide) (fun c_102 => ?_) (fun c_102 => by first | exact absurd c_102 (by decide) | exact absurd (by decide) c_102)
                refine lv_iconst (v := 2) X.1 X.2.1 dX10_anchor_109 (by decide) ?_
                refine call_i (run_V X S (n_can l G f y A (nI (st 0 0)) (nI (st 0 4)) (nI (st 0 1)) (nI (st 0 2)) (nI (st 0 3)) thr hy 2 (by omega)) 1 gX10_anchor_X10_can rfl rfl rfl (by decide +kernel) ⟨(by exact Nat.le_of_ble_eq_true rfl), (by exact Nat.le_of_ble_eq_true rfl)⟩ ⟨_, _, hy⟩ rfl rfl rfl hl.1 rfl (by exact Nat.le_of_ble_eq_true rfl) dX10_anchor_110 ⟨(by exact Nat.le_of_ble_eq_true rfl), (by exact Nat.le_of_ble_eq_true rfl)⟩) S (fun r_110 f_110 H locs hr_110 S => ?_)
                obtain ⟨rfl, e_can⟩ := hr_110
                have hy_110 : f_110 y = some (1000, .inr (10, [.ref (A 1), .int (nI (st 0 0)), .ref (A 2), .ref (A 3), .ref (A 5), .ref (A 7), .int (nI (st 0 4)), .int (nI (st 0 1)), .int (nI (st 0 2)), .ref (A 9), .int (nI (st 0 3)), .ref (A 10), .ref (A 11), .int (nI 2)])) := by rw [e_can]; exact wu_self _ _ _ _
                have hA10_110 : f_110 (A 10) = some (1010, eJ G 8 (VL 10)) := by rw [e_can]; exact wu_get hy hA10 (by decide)
                have hA11_110 : f_110 (A 11) = some (1011, eJ G 8 (VL 11)) := by rw [e_can]; exact wu_get hy hA11 (by decide)
                have mm_110 : md tM f f_110 := by rw [e_can]; exact md_tr mm0 (md_put hy) (fun _ q => q) (fun t q => by subst q; unfold tM; omega)
                have hM0 : RMx G f_110 st y A V VL (nI 2) := by rw [e_can]; exact RMx_thr hM
                refine r_toi (y := 0) (by rfl) ?_
                have hKC : (k2 (rgL (lN u1) 1 5000000000 ∧ rgL (lN v1) 1 100000000) (canP st (nL (lN u1)) (nL (lN v1)))) = 2 := k2_2 hP1 (fun z => by rw [nu, nv] at z; unfold canP at z; have hn0 : st 0 3 ≠ 0 := (fun q => c_39 (by rw [q]; rfl)); have hz := z.resolve_left hn0; first | exact nI_nle8 hz.1 c_48 | exact absurd (lN_len (by omega) (by omega) ((lg_cmp_le _ _).mp c_64)) (by omega) | exact absurd (lN_len (by omega) (by omega) ((lg_cmp_le _ _).mp c_80)) (by omega))
                refine lv_if_ne (x := 0) (tgt := 118) X.1 X.2.1 dX10_anchor_113 (by decide) (fun c_113 => by first | exact absurd c_113 (by decide) | exact absurd (by decide) c_113) (fun c_113 => ?_)
                refine lv_iconst (v := 0) X.1 X.2.1 dX10_anchor_116 (by decide) ?_
                refine e_i X hr S (Nat.le_of_ble_eq_true rfl) (Nat.le_of_ble_eq_true rfl) dX10_anchor_117 ?_
                rw [hKC]
                exact ⟨⟨A, V, VL, hM0⟩, mm_110, fun z => absurd z (by decide)⟩
              · refine lv_lload_n X.1 X.2.1 dX10_anchor_67 rfl (lv_at hl 3 rfl) ?_
                refine lv_aload_n X.1 X.2.1 dX10_anchor_68 rfl (lv_at hl 1 rfl) ?_
                refine r_get (C := RX10) (T := TX10) (N := 14) (ref := "CraterclockModel") X S in_RX10 hy rfl 12 (by decide) (by decide +kernel) (fun _ h => h) rfl dX10_anchor_69 ?_
                refine lv_aload_n X.1 X.2.1 dX10_anchor_72 rfl (lv_at hl 1 rfl) ?_
                refine r_get (C := RX10) (T := TX10) (N := 14) (ref := "CraterclockModel") X S in_RX10 hy rfl 10 (by decide) (by decide +kernel) (fun _ h => h) rfl dX10_anchor_73 ?_
                refine lv_iconst (v := 1) X.1 X.2.1 dX10_anchor_76 (by decide) ?_
                refine lv_isub X.1 X.2.1 dX10_anchor_77 ?_
                refine r_toi (y := nI (st 0 3 - 1)) (nI_m1 (by omega)) ?_
                refine r_lald (v := (lN (st 11 (st 0 3 - 1)))) X S hA11 (vp_in_nI (show (st 0 3 - 1) < 8 by omega) (by omega)) (by rw [nI_clamp (by omega)]; exact (hvL _ hlt_st031).2) dX10_anchor_78 ?_
                refine W.lcmp X.1 X.2.1 dX10_anchor_79 ?_
                refine lv_if_le (tgt := 87) X.1 X.2.1 dX10_anchor_80 (by decide) (fun c_80 => ?_) (fun c_80 => ?_)
                · refine lv_iconst (v := 0) X.1 X.2.1 dX10_anchor_87 (by decide) ?_
                  refine lv_istore (lv' := [(6, .int 0), (5, .int 1), (0, .ref y), (1, .long u), (3, .long v)]) X.1 X.2.1 dX10_anchor_88 hl (by decide) rfl (fun ls hl => ?_)
                  have hP1 : rgL u 1 5000000000 ∧ rgL v 1 100000000 := by
                    rw [lg_cmp_lt, l_lt, one64] at c_3 c_17
                    rw [lg_cmp_gt, l_lt, big64] at c_11
                    rw [lg_cmp_gt, l_lt, mil64] at c_25
                    exact ⟨⟨by omega, by omega⟩, by omega, by omega⟩
                  obtain ⟨u1, rfl, ulo, uup, ubd⟩ := lN_sub2 hP1.1.1 hP1.1.2 (by omega)
                  have nu : nL (lN u1) = u1 := nL_lN ubd
                  obtain ⟨v1, rfl, vlo, vup, vbd⟩ := lN_sub2 hP1.2.1 hP1.2.2 (by omega)
                  have nv : nL (lN v1) = v1 := nL_lN vbd
                  refine lv_aload_n X.1 X.2.1 dX10_anchor_90 rfl (lv_at hl 2 rfl) ?_
                  refine lv_iload X.1 X.2.1 dX10_anchor_91 (lv_at hl 1 rfl) ?_
                  refine lv_if_ne (x := 1) (tgt := 100) X.1 X.2.1 dX10_anchor_93 (by decide) (fun c_93 => ?_) (fun c_93 => by first | exact absurd c_93 (by decide) | exact absurd (by decide) c_93)
                  refine lv_iload X.1 X.2.1 dX10_anchor_100 (lv_at hl 0 rfl) ?_
                  refine lv_if_eq (x := 0) (tgt := 109) X.1 X.2.1 dX10_anchor_102 (by decide) (fun c_102 => ?_) (fun c_102 => by first | exact absurd c_102 (by decide) | exact absurd (by decide) c_102)
                  refine lv_iconst (v := 2) X.1 X.2.1 dX10_anchor_109 (by decide) ?_
                  refine call_i (run_V X S (n_can l G f y A (nI (st 0 0)) (nI (st 0 4)) (nI (st 0 1)) (nI (st 0 2)) (nI (st 0 3)) thr hy 2 (by omega)) 1 gX10_anchor_X10_can rfl rfl rfl (by decide +kernel) ⟨(by exact Nat.le_of_ble_eq_true rfl), (by exact Nat.le_of_ble_eq_true rfl)⟩ ⟨_, _, hy⟩ rfl rfl rfl hl.1 rfl (by exact Nat.le_of_ble_eq_true rfl) dX10_anchor_110 ⟨(by exact Nat.le_of_ble_eq_true rfl), (by exact Nat.le_of_ble_eq_true rfl)⟩) S (fun r_110 f_110 H locs hr_110 S => ?_)
                  obtain ⟨rfl, e_can⟩ := hr_110
                  have hy_110 : f_110 y = some (1000, .inr (10, [.ref (A 1), .int (nI (st 0 0)), .ref (A 2), .ref (A 3), .ref (A 5), .ref (A 7), .int (nI (st 0 4)), .int (nI (st 0 1)), .int (nI (st 0 2)), .ref (A 9), .int (nI (st 0 3)), .ref (A 10), .ref (A 11), .int (nI 2)])) := by rw [e_can]; exact wu_self _ _ _ _
                  have hA10_110 : f_110 (A 10) = some (1010, eJ G 8 (VL 10)) := by rw [e_can]; exact wu_get hy hA10 (by decide)
                  have hA11_110 : f_110 (A 11) = some (1011, eJ G 8 (VL 11)) := by rw [e_can]; exact wu_get hy hA11 (by decide)
                  have mm_110 : md tM f f_110 := by rw [e_can]; exact md_tr mm0 (md_put hy) (fun _ q => q) (fun t q => by subst q; unfold tM; omega)
                  have hM0 : RMx G f_110 st y A V VL (nI 2) := by rw [e_can]; exact RMx_thr hM
                  refine r_toi (y := 0) (by rfl) ?_
                  have hKC : (k2 (rgL (lN u1) 1 5000000000 ∧ rgL (lN v1) 1 100000000) (canP st (nL (lN u1)) (nL (lN v1)))) = 2 := k2_2 hP1 (fun z => by rw [nu, nv] at z; unfold canP at z; have hn0 : st 0 3 ≠ 0 := (fun q => c_39 (by rw [q]; rfl)); have hz := z.resolve_left hn0; first | exact nI_nle8 hz.1 c_48 | exact absurd (lN_len (by omega) (by omega) ((lg_cmp_le _ _).mp c_64)) (by omega) | exact absurd (lN_len (by omega) (by omega) ((lg_cmp_le _ _).mp c_80)) (by omega))
                  refine lv_if_ne (x := 0) (tgt := 118) X.1 X.2.1 dX10_anchor_113 (by decide) (fun c_113 => by first | exact absurd c_113 (by decide) | exact absurd (by decide) c_113) (fun c_113 => ?_)
                  refine lv_iconst (v := 0) X.1 X.2.1 dX10_anchor_116 (by decide) ?_
                  refine e_i X hr S (Nat.le_of_ble_eq_true rfl) (Nat.le_of_ble_eq_true rfl) dX10_anchor_117 ?_
                  rw [hKC]
                  exact ⟨⟨A, V, VL, hM0⟩, mm_110, fun z => absurd z (by decide)⟩
                · refine lv_iconst (v := 1) X.1 X.2.1 dX10_anchor_83 (by decide) ?_
                  refine lv_goto (tgt := 88) X.1 X.2.1 dX10_anchor_84 (by decide) ?_
                  refine lv_istore (lv' := [(6, .int 1), (5, .int 1), (0, .ref y), (1, .long u), (3, .long v)]) X.1 X.2.1 dX10_anchor_88 hl (by decide) rfl (fun ls hl => ?_)
                  have hP1 : rgL u 1 5000000000 ∧ rgL v 1 100000000 := by
                    rw [lg_cmp_lt, l_lt, one64] at c_3 c_17
                    rw [lg_cmp_gt, l_lt, big64] at c_11
                    rw [lg_cmp_gt, l_lt, mil64] at c_25
                    exact ⟨⟨by omega, by omega⟩, by omega, by omega⟩
                  obtain ⟨u1, rfl, ulo, uup, ubd⟩ := lN_sub2 hP1.1.1 hP1.1.2 (by omega)
                  have nu : nL (lN u1) = u1 := nL_lN ubd
                  obtain ⟨v1, rfl, vlo, vup, vbd⟩ := lN_sub2 hP1.2.1 hP1.2.2 (by omega)
                  have nv : nL (lN v1) = v1 := nL_lN vbd
                  refine lv_aload_n X.1 X.2.1 dX10_anchor_90 rfl (lv_at hl 2 rfl) ?_
                  refine lv_iload X.1 X.2.1 dX10_anchor_91 (lv_at hl 1 rfl) ?_
                  refine lv_if_ne (x := 1) (tgt := 100) X.1 X.2.1 dX10_anchor_93 (by decide) (fun c_93 => ?_) (fun c_93 => by first | exact absurd c_93 (by decide) | exact absurd (by decide) c_93)
                  refine lv_iload X.1 X.2.1 dX10_anchor_100 (lv_at hl 0 rfl) ?_
                  refine lv_if_eq (x := 1) (tgt := 109) X.1 X.2.1 dX10_anchor_102 (by decide) (fun c_102 => by first | exact absurd c_102 (by decide) | exact absurd (by decide) c_102) (fun c_102 => ?_)
                  refine lv_iconst (v := 0) X.1 X.2.1 dX10_anchor_105 (by decide) ?_
                  refine lv_goto (tgt := 110) X.1 X.2.1 dX10_anchor_106 (by decide) ?_
                  refine call_i (run_V X S (n_can l G f y A (nI (st 0 0)) (nI (st 0 4)) (nI (st 0 1)) (nI (st 0 2)) (nI (st 0 3)) thr hy 0 (by omega)) 1 gX10_anchor_X10_can rfl rfl rfl (by decide +kernel) ⟨(by exact Nat.le_of_ble_eq_true rfl), (by exact Nat.le_of_ble_eq_true rfl)⟩ ⟨_, _, hy⟩ rfl rfl rfl hl.1 rfl (by exact Nat.le_of_ble_eq_true rfl) dX10_anchor_110 ⟨(by exact Nat.le_of_ble_eq_true rfl), (by exact Nat.le_of_ble_eq_true rfl)⟩) S (fun r_110 f_110 H locs hr_110 S => ?_)
                  obtain ⟨rfl, e_can⟩ := hr_110
                  have hy_110 : f_110 y = some (1000, .inr (10, [.ref (A 1), .int (nI (st 0 0)), .ref (A 2), .ref (A 3), .ref (A 5), .ref (A 7), .int (nI (st 0 4)), .int (nI (st 0 1)), .int (nI (st 0 2)), .ref (A 9), .int (nI (st 0 3)), .ref (A 10), .ref (A 11), .int (nI 0)])) := by rw [e_can]; exact wu_self _ _ _ _
                  have hA10_110 : f_110 (A 10) = some (1010, eJ G 8 (VL 10)) := by rw [e_can]; exact wu_get hy hA10 (by decide)
                  have hA11_110 : f_110 (A 11) = some (1011, eJ G 8 (VL 11)) := by rw [e_can]; exact wu_get hy hA11 (by decide)
                  have mm_110 : md tM f f_110 := by rw [e_can]; exact md_tr mm0 (md_put hy) (fun _ q => q) (fun t q => by subst q; unfold tM; omega)
                  have hM0 : RMx G f_110 st y A V VL (nI 0) := by rw [e_can]; exact RMx_thr hM
                  refine r_toi (y := 1) (by rfl) ?_
                  have hcan : canP st (nL (lN u1)) (nL (lN v1)) := (by rw [nu, nv]; first | exact Or.inl ((nI_eq (b := 0) (by omega) (by omega)).mp c_39) | exact Or.inr ⟨Nat.lt_of_not_le (fun z => c_48 (nI_le z (by omega))), lN_ltn (by omega) (by omega) (by have z := c_64; rw [lg_cmp_le] at z; exact Int64.not_le.mp z), lN_ltn (by omega) (by omega) (by have z := c_80; rw [lg_cmp_le] at z; exact Int64.not_le.mp z)⟩)
                  have hKC : (k2 (rgL (lN u1) 1 5000000000 ∧ rgL (lN v1) 1 100000000) (canP st (nL (lN u1)) (nL (lN v1)))) = 0 := k2_0 hP1 hcan
                  rw [nu, nv] at hcan
                  have h8 : st 0 3 < 8 := by unfold canP at hcan; omega
                  refine lv_if_ne (x := 1) (tgt := 118) X.1 X.2.1 dX10_anchor_113 (by decide) (fun c_113 => ?_) (fun c_113 => by first | exact absurd c_113 (by decide) | exact absurd (by decide) c_113)
                  refine lv_aload_n X.1 X.2.1 dX10_anchor_118 rfl (lv_at hl 2 rfl) ?_
                  refine r_get (C := RX10) (T := TX10) (N := 14) (ref := "CraterclockModel") X S in_RX10 hy_110 rfl 11 (by decide) (by decide +kernel) (fun _ h => h) rfl dX10_anchor_119 ?_
                  refine lv_aload_n X.1 X.2.1 dX10_anchor_122 rfl (lv_at hl 2 rfl) ?_
                  refine r_get (C := RX10) (T := TX10) (N := 14) (ref := "CraterclockModel") X S in_RX10 hy_110 rfl 10 (by decide) (by decide +kernel) (fun _ h => h) rfl dX10_anchor_123 ?_
                  refine lv_lload_n X.1 X.2.1 dX10_anchor_126 rfl (lv_at hl 3 rfl) ?_
                  refine r_last X S hA10_110 (by decide) (vp_in_nI (show (st 0 3) < 8 by omega) (by omega)) dX10_anchor_127 (fun H locs S => ?_)
                  rw [nI_clamp (by omega)] at S
                  obtain ⟨f_127, ef_127⟩ : ∃ z9 : Wd, z9 = wu f_110 (A 10) 1010 (eJ G 8 (vp_updL (VL 10) (st 0 3) (lN u1))) := ⟨_, rfl⟩
                  rw [← ef_127] at S
                  have hy_127 : f_127 y = some (1000, .inr (10, [.ref (A 1), .int (nI (st 0 0)), .ref (A 2), .ref (A 3), .ref (A 5), .ref (A 7), .int (nI (st 0 4)), .int (nI (st 0 1)), .int (nI (st 0 2)), .ref (A 9), .int (nI (st 0 3)), .ref (A 10), .ref (A 11), .int (nI 0)])) := by rw [ef_127]; exact wu_get hA10_110 hy_110 (by decide)
                  have hA10_127 : f_127 (A 10) = some (1010, eJ G 8 (vp_updL (VL 10) (st 0 3) (lN u1))) := by rw [ef_127]; exact wu_self _ _ _ _
                  have hA11_127 : f_127 (A 11) = some (1011, eJ G 8 (VL 11)) := by rw [ef_127]; exact wu_get hA10_110 hA11_110 (by decide)
                  have mm_127 : md tM f f_127 := by rw [ef_127]; exact md_tr mm_110 (md_put hA10_110) (fun _ q => q) (fun t q => by subst q; unfold tM; omega)
                  refine lv_aload_n X.1 X.2.1 dX10_anchor_128 rfl (lv_at hl 2 rfl) ?_
                  refine r_get (C := RX10) (T := TX10) (N := 14) (ref := "CraterclockModel") X S in_RX10 hy_127 rfl 12 (by decide) (by decide +kernel) (fun _ h => h) rfl dX10_anchor_129 ?_
                  refine lv_aload_n X.1 X.2.1 dX10_anchor_132 rfl (lv_at hl 2 rfl) ?_
                  refine r_get (C := RX10) (T := TX10) (N := 14) (ref := "CraterclockModel") X S in_RX10 hy_127 rfl 10 (by decide) (by decide +kernel) (fun _ h => h) rfl dX10_anchor_133 ?_
                  refine lv_lload_n X.1 X.2.1 dX10_anchor_136 rfl (lv_at hl 4 rfl) ?_
                  refine r_last X S hA11_127 (by decide) (vp_in_nI (show (st 0 3) < 8 by omega) (by omega)) dX10_anchor_137 (fun H locs S => ?_)
                  rw [nI_clamp (by omega)] at S
                  obtain ⟨f_137, ef_137⟩ : ∃ z9 : Wd, z9 = wu f_127 (A 11) 1011 (eJ G 8 (vp_updL (VL 11) (st 0 3) (lN v1))) := ⟨_, rfl⟩
                  rw [← ef_137] at S
                  have hy_137 : f_137 y = some (1000, .inr (10, [.ref (A 1), .int (nI (st 0 0)), .ref (A 2), .ref (A 3), .ref (A 5), .ref (A 7), .int (nI (st 0 4)), .int (nI (st 0 1)), .int (nI (st 0 2)), .ref (A 9), .int (nI (st 0 3)), .ref (A 10), .ref (A 11), .int (nI 0)])) := by rw [ef_137]; exact wu_get hA11_127 hy_127 (by decide)
                  have hA10_137 : f_137 (A 10) = some (1010, eJ G 8 (vp_updL (VL 10) (st 0 3) (lN u1))) := by rw [ef_137]; exact wu_get hA11_127 hA10_127 (by decide)
                  have hA11_137 : f_137 (A 11) = some (1011, eJ G 8 (vp_updL (VL 11) (st 0 3) (lN v1))) := by rw [ef_137]; exact wu_self _ _ _ _
                  have mm_137 : md tM f f_137 := by rw [ef_137]; exact md_tr mm_127 (md_put hA11_127) (fun _ q => q) (fun t q => by subst q; unfold tM; omega)
                  refine lv_aload_n X.1 X.2.1 dX10_anchor_138 rfl (lv_at hl 2 rfl) ?_
                  refine lv_dup X.1 X.2.1 dX10_anchor_139 rfl ?_
                  refine r_get (C := RX10) (T := TX10) (N := 14) (ref := "CraterclockModel") X S in_RX10 hy_137 rfl 10 (by decide) (by decide +kernel) (fun _ h => h) rfl dX10_anchor_140 ?_
                  refine lv_iconst (v := 1) X.1 X.2.1 dX10_anchor_143 (by decide) ?_
                  refine lv_iadd X.1 X.2.1 dX10_anchor_144 ?_
                  refine r_toi (y := nI (st 0 3 + 1)) (nI_1 _) ?_
                  refine r_put (C := RX10) (T := TX10) (N := 14) (ref := "CraterclockModel") (fs' := [.ref (A 1), .int (nI (st 0 0)), .ref (A 2), .ref (A 3), .ref (A 5), .ref (A 7), .int (nI (st 0 4)), .int (nI (st 0 1)), .int (nI (st 0 2)), .ref (A 9), .int (nI (st 0 3 + 1)), .ref (A 10), .ref (A 11), .int (nI 0)]) (ty := .int) X S in_RX10 tyX10 tyX10_ok nmX10 hy_137 (by decide) rfl 10 (by decide) (by decide +kernel) (fun _ h => h) rfl (by decide +kernel) rfl rfl (Nat.le_of_ble_eq_true rfl) rfl dX10_anchor_145 (fun H locs S => ?_)
                  obtain ⟨f_145, ef_145⟩ : ∃ z9 : Wd, z9 = wu f_137 y 1000 (.inr (10, [.ref (A 1), .int (nI (st 0 0)), .ref (A 2), .ref (A 3), .ref (A 5), .ref (A 7), .int (nI (st 0 4)), .int (nI (st 0 1)), .int (nI (st 0 2)), .ref (A 9), .int (nI (st 0 3 + 1)), .ref (A 10), .ref (A 11), .int (nI 0)])) := ⟨_, rfl⟩
                  rw [← ef_145] at S
                  have hy_145 : f_145 y = some (1000, .inr (10, [.ref (A 1), .int (nI (st 0 0)), .ref (A 2), .ref (A 3), .ref (A 5), .ref (A 7), .int (nI (st 0 4)), .int (nI (st 0 1)), .int (nI (st 0 2)), .ref (A 9), .int (nI (st 0 3 + 1)), .ref (A 10), .ref (A 11), .int (nI 0)])) := by rw [ef_145]; exact wu_self _ _ _ _
                  have hA10_145 : f_145 (A 10) = some (1010, eJ G 8 (vp_updL (VL 10) (st 0 3) (lN u1))) := by rw [ef_145]; exact wu_get hy_137 hA10_137 (by decide)
                  have hA11_145 : f_145 (A 11) = some (1011, eJ G 8 (vp_updL (VL 11) (st 0 3) (lN v1))) := by rw [ef_145]; exact wu_get hy_137 hA11_137 (by decide)
                  have mm_145 : md tM f f_145 := by rw [ef_145]; exact md_tr mm_137 (md_put hy_137) (fun _ q => q) (fun t q => by subst q; unfold tM; omega)
                  refine lv_aload_n X.1 X.2.1 dX10_anchor_148 rfl (lv_at hl 2 rfl) ?_
                  refine r_get (C := RX10) (T := TX10) (N := 14) (ref := "CraterclockModel") X S in_RX10 hy_145 rfl 10 (by decide) (by decide +kernel) (fun _ h => h) rfl dX10_anchor_149 ?_
                  refine e_i X hr S (Nat.le_of_ble_eq_true rfl) (Nat.le_of_ble_eq_true rfl) dX10_anchor_152 ?_
                  rw [hKC]
                  refine ⟨?_, mm_145, fun _ => ?_⟩
                  · rw [nu, nv]; exact ⟨A, V, _, by rw [ef_145, ef_137, ef_127]; exact RMx_anch hM0⟩
                  · rfl

set_option maxRecDepth 100000 in
set_option maxHeartbeats 4000000 in
/-- CraterclockModel() -/
theorem n_init (l : Launch) (G : cx_G) (f : Wd) (y : Nat) (hy : f y = some (1000, .inr (10, [.null, .int 0, .null, .null, .null, .null, .int 0, .int 0, .int 0, .null, .int 0, .null, .null, .int 0]))) : MV l G yX10_init wsX10_init 1 20 8 1078 [.ref y] f (fun f' => RM G f' st0 y 0 ∧ md (fun t => t = 1000) f f') := by
  refine cx_body (cc := cX10_init) (n := 1) (ret := none) (by decide +kernel) rfl (Nat.le_of_ble_eq_true rfl) ?_
  intro p0 e0 s0 m0 b0 meth0 c0 ls X hr hnm S hl
  have X : cxC G p0 l _ c0 cX10_init 1 m0 meth0 s0 _ RX10 wsX10_init := X
  have hl : lv_has ls 1 [(0, .ref y)] := hl
  have in_RX10 : ∀ w ∈ u_ws RX10 TX10 14, w ∈ wsX10_init := by decide +kernel
  have mx0 : mdx y f f := mdx_rf (by rw [hy]; exact fun z => nomatch z)
  refine lv_aload_n X.1 X.2.1 dX10_init_0 rfl (lv_at hl 0 rfl) ?_
  refine r_objInit X (by decide +kernel) (by decide +kernel) (by decide +kernel) hl.1 dX10_init_1 (by exact Nat.le_of_ble_eq_true rfl) (by exact Nat.le_of_ble_eq_true rfl) ?_
  refine lv_aload_n X.1 X.2.1 dX10_init_4 rfl (lv_at hl 0 rfl) ?_
  refine lv_sipush (v := 256) X.1 X.2.1 dX10_init_5 (by decide) ?_
  refine r_newI (N' := 256) X S 1001 (by decide) (by decide +kernel) (by decide) (by decide) (by decide) (by exact Nat.le_of_ble_eq_true rfl) (by exact Nat.le_of_ble_eq_true rfl) dX10_init_8 (fun q_8 H hn_q_8 S => ?_)
  obtain ⟨f_8, ef_8⟩ : ∃ z9 : Wd, z9 = wu f q_8 1001 (eI G 256 (fun _ => 0)) := ⟨_, rfl⟩
  rw [← ef_8] at S
  have hy_8 : f_8 y = some (1000, .inr (10, [.null, .int 0, .null, .null, .null, .null, .int 0, .int 0, .int 0, .null, .int 0, .null, .null, .int 0])) := by rw [ef_8]; exact wu_new hn_q_8 hy
  have hNq8 : f_8 q_8 = some (1001, eI G 256 (fun _ => 0)) := by rw [ef_8]; exact wu_self _ _ _ _
  have hz_q_8 := mdx_none mx0 hn_q_8
  have mx_new_8 : mdx y f f_8 := by rw [ef_8]; exact mdx_new mx0 hn_q_8
  refine r_putF (C := RX10) (T := TX10) (N := 14) (ref := "CraterclockModel") (fs' := [.ref q_8, .int 0, .null, .null, .null, .null, .int 0, .int 0, .int 0, .null, .int 0, .null, .null, .int 0]) (ty := .array .int) X S in_RX10 tyX10 tyX10_ok nmX10 hy_8 (by decide) rfl 0 (by decide) (by decide +kernel) (fun _ h => h) rfl hnm rfl (by decide +kernel) rfl rfl (Nat.le_of_ble_eq_true rfl) rfl dX10_init_10 (fun H locs S => ?_)
  obtain ⟨f_10, ef_10⟩ : ∃ z9 : Wd, z9 = wu f_8 y 1000 (.inr (10, [.ref q_8, .int 0, .null, .null, .null, .null, .int 0, .int 0, .int 0, .null, .int 0, .null, .null, .int 0])) := ⟨_, rfl⟩
  rw [← ef_10] at S
  have hy_10 : f_10 y = some (1000, .inr (10, [.ref q_8, .int 0, .null, .null, .null, .null, .int 0, .int 0, .int 0, .null, .int 0, .null, .null, .int 0])) := by rw [ef_10]; exact wu_self _ _ _ _
  have hNq8_10 : f_10 q_8 = some (1001, eI G 256 (fun _ => 0)) := by rw [ef_10]; exact wu_get hy_8 hNq8 (by decide)
  have mx_set_10 : mdx y f f_10 := by rw [ef_10]; exact mdx_putx mx_new_8
  refine lv_aload_n X.1 X.2.1 dX10_init_13 rfl (lv_at hl 0 rfl) ?_
  refine lv_sipush (v := 200) X.1 X.2.1 dX10_init_14 (by decide) ?_
  refine r_newI (N' := 200) X S 1002 (by decide) (by decide +kernel) (by decide) (by decide) (by decide) (by exact Nat.le_of_ble_eq_true rfl) (by exact Nat.le_of_ble_eq_true rfl) dX10_init_17 (fun q_17 H hn_q_17 S => ?_)
  obtain ⟨f_17, ef_17⟩ : ∃ z9 : Wd, z9 = wu f_10 q_17 1002 (eI G 200 (fun _ => 0)) := ⟨_, rfl⟩
  rw [← ef_17] at S
  have hy_17 : f_17 y = some (1000, .inr (10, [.ref q_8, .int 0, .null, .null, .null, .null, .int 0, .int 0, .int 0, .null, .int 0, .null, .null, .int 0])) := by rw [ef_17]; exact wu_new hn_q_17 hy_10
  have hNq8_17 : f_17 q_8 = some (1001, eI G 256 (fun _ => 0)) := by rw [ef_17]; exact wu_new hn_q_17 hNq8_10
  have hNq17 : f_17 q_17 = some (1002, eI G 200 (fun _ => 0)) := by rw [ef_17]; exact wu_self _ _ _ _
  have hz_q_17 := mdx_none mx_set_10 hn_q_17
  have mx_new_17 : mdx y f f_17 := by rw [ef_17]; exact mdx_new mx_set_10 hn_q_17
  refine r_putF (C := RX10) (T := TX10) (N := 14) (ref := "CraterclockModel") (fs' := [.ref q_8, .int 0, .ref q_17, .null, .null, .null, .int 0, .int 0, .int 0, .null, .int 0, .null, .null, .int 0]) (ty := .array .int) X S in_RX10 tyX10 tyX10_ok nmX10 hy_17 (by decide) rfl 2 (by decide) (by decide +kernel) (fun _ h => h) rfl hnm rfl (by decide +kernel) rfl rfl (Nat.le_of_ble_eq_true rfl) rfl dX10_init_19 (fun H locs S => ?_)
  obtain ⟨f_19, ef_19⟩ : ∃ z9 : Wd, z9 = wu f_17 y 1000 (.inr (10, [.ref q_8, .int 0, .ref q_17, .null, .null, .null, .int 0, .int 0, .int 0, .null, .int 0, .null, .null, .int 0])) := ⟨_, rfl⟩
  rw [← ef_19] at S
  have hy_19 : f_19 y = some (1000, .inr (10, [.ref q_8, .int 0, .ref q_17, .null, .null, .null, .int 0, .int 0, .int 0, .null, .int 0, .null, .null, .int 0])) := by rw [ef_19]; exact wu_self _ _ _ _
  have hNq8_19 : f_19 q_8 = some (1001, eI G 256 (fun _ => 0)) := by rw [ef_19]; exact wu_get hy_17 hNq8_17 (by decide)
  have hNq17_19 : f_19 q_17 = some (1002, eI G 200 (fun _ => 0)) := by rw [ef_19]; exact wu_get hy_17 hNq17 (by decide)
  have mx_set_19 : mdx y f f_19 := by rw [ef_19]; exact mdx_putx mx_new_17
  refine lv_aload_n X.1 X.2.1 dX10_init_22 rfl (lv_at hl 0 rfl) ?_
  refine lv_sipush (v := 200) X.1 X.2.1 dX10_init_23 (by decide) ?_
  refine r_newI (N' := 200) X S 1003 (by decide) (by decide +kernel) (by decide) (by decide) (by decide) (by exact Nat.le_of_ble_eq_true rfl) (by exact Nat.le_of_ble_eq_true rfl) dX10_init_26 (fun q_26 H hn_q_26 S => ?_)
  obtain ⟨f_26, ef_26⟩ : ∃ z9 : Wd, z9 = wu f_19 q_26 1003 (eI G 200 (fun _ => 0)) := ⟨_, rfl⟩
  rw [← ef_26] at S
  have hy_26 : f_26 y = some (1000, .inr (10, [.ref q_8, .int 0, .ref q_17, .null, .null, .null, .int 0, .int 0, .int 0, .null, .int 0, .null, .null, .int 0])) := by rw [ef_26]; exact wu_new hn_q_26 hy_19
  have hNq8_26 : f_26 q_8 = some (1001, eI G 256 (fun _ => 0)) := by rw [ef_26]; exact wu_new hn_q_26 hNq8_19
  have hNq17_26 : f_26 q_17 = some (1002, eI G 200 (fun _ => 0)) := by rw [ef_26]; exact wu_new hn_q_26 hNq17_19
  have hNq26 : f_26 q_26 = some (1003, eI G 200 (fun _ => 0)) := by rw [ef_26]; exact wu_self _ _ _ _
  have hz_q_26 := mdx_none mx_set_19 hn_q_26
  have mx_new_26 : mdx y f f_26 := by rw [ef_26]; exact mdx_new mx_set_19 hn_q_26
  refine r_putF (C := RX10) (T := TX10) (N := 14) (ref := "CraterclockModel") (fs' := [.ref q_8, .int 0, .ref q_17, .ref q_26, .null, .null, .int 0, .int 0, .int 0, .null, .int 0, .null, .null, .int 0]) (ty := .array .int) X S in_RX10 tyX10 tyX10_ok nmX10 hy_26 (by decide) rfl 3 (by decide) (by decide +kernel) (fun _ h => h) rfl hnm rfl (by decide +kernel) rfl rfl (Nat.le_of_ble_eq_true rfl) rfl dX10_init_28 (fun H locs S => ?_)
  obtain ⟨f_28, ef_28⟩ : ∃ z9 : Wd, z9 = wu f_26 y 1000 (.inr (10, [.ref q_8, .int 0, .ref q_17, .ref q_26, .null, .null, .int 0, .int 0, .int 0, .null, .int 0, .null, .null, .int 0])) := ⟨_, rfl⟩
  rw [← ef_28] at S
  have hy_28 : f_28 y = some (1000, .inr (10, [.ref q_8, .int 0, .ref q_17, .ref q_26, .null, .null, .int 0, .int 0, .int 0, .null, .int 0, .null, .null, .int 0])) := by rw [ef_28]; exact wu_self _ _ _ _
  have hNq8_28 : f_28 q_8 = some (1001, eI G 256 (fun _ => 0)) := by rw [ef_28]; exact wu_get hy_26 hNq8_26 (by decide)
  have hNq17_28 : f_28 q_17 = some (1002, eI G 200 (fun _ => 0)) := by rw [ef_28]; exact wu_get hy_26 hNq17_26 (by decide)
  have hNq26_28 : f_28 q_26 = some (1003, eI G 200 (fun _ => 0)) := by rw [ef_28]; exact wu_get hy_26 hNq26 (by decide)
  have mx_set_28 : mdx y f f_28 := by rw [ef_28]; exact mdx_putx mx_new_26
  refine lv_aload_n X.1 X.2.1 dX10_init_31 rfl (lv_at hl 0 rfl) ?_
  refine lv_sipush (v := 200) X.1 X.2.1 dX10_init_32 (by decide) ?_
  refine r_newI (N' := 200) X S 1005 (by decide) (by decide +kernel) (by decide) (by decide) (by decide) (by exact Nat.le_of_ble_eq_true rfl) (by exact Nat.le_of_ble_eq_true rfl) dX10_init_35 (fun q_35 H hn_q_35 S => ?_)
  obtain ⟨f_35, ef_35⟩ : ∃ z9 : Wd, z9 = wu f_28 q_35 1005 (eI G 200 (fun _ => 0)) := ⟨_, rfl⟩
  rw [← ef_35] at S
  have hy_35 : f_35 y = some (1000, .inr (10, [.ref q_8, .int 0, .ref q_17, .ref q_26, .null, .null, .int 0, .int 0, .int 0, .null, .int 0, .null, .null, .int 0])) := by rw [ef_35]; exact wu_new hn_q_35 hy_28
  have hNq8_35 : f_35 q_8 = some (1001, eI G 256 (fun _ => 0)) := by rw [ef_35]; exact wu_new hn_q_35 hNq8_28
  have hNq17_35 : f_35 q_17 = some (1002, eI G 200 (fun _ => 0)) := by rw [ef_35]; exact wu_new hn_q_35 hNq17_28
  have hNq26_35 : f_35 q_26 = some (1003, eI G 200 (fun _ => 0)) := by rw [ef_35]; exact wu_new hn_q_35 hNq26_28
  have hNq35 : f_35 q_35 = some (1005, eI G 200 (fun _ => 0)) := by rw [ef_35]; exact wu_self _ _ _ _
  have hz_q_35 := mdx_none mx_set_28 hn_q_35
  have mx_new_35 : mdx y f f_35 := by rw [ef_35]; exact mdx_new mx_set_28 hn_q_35
  refine r_putF (C := RX10) (T := TX10) (N := 14) (ref := "CraterclockModel") (fs' := [.ref q_8, .int 0, .ref q_17, .ref q_26, .ref q_35, .null, .int 0, .int 0, .int 0, .null, .int 0, .null, .null, .int 0]) (ty := .array .int) X S in_RX10 tyX10 tyX10_ok nmX10 hy_35 (by decide) rfl 4 (by decide) (by decide +kernel) (fun _ h => h) rfl hnm rfl (by decide +kernel) rfl rfl (Nat.le_of_ble_eq_true rfl) rfl dX10_init_37 (fun H locs S => ?_)
  obtain ⟨f_37, ef_37⟩ : ∃ z9 : Wd, z9 = wu f_35 y 1000 (.inr (10, [.ref q_8, .int 0, .ref q_17, .ref q_26, .ref q_35, .null, .int 0, .int 0, .int 0, .null, .int 0, .null, .null, .int 0])) := ⟨_, rfl⟩
  rw [← ef_37] at S
  have hy_37 : f_37 y = some (1000, .inr (10, [.ref q_8, .int 0, .ref q_17, .ref q_26, .ref q_35, .null, .int 0, .int 0, .int 0, .null, .int 0, .null, .null, .int 0])) := by rw [ef_37]; exact wu_self _ _ _ _
  have hNq8_37 : f_37 q_8 = some (1001, eI G 256 (fun _ => 0)) := by rw [ef_37]; exact wu_get hy_35 hNq8_35 (by decide)
  have hNq17_37 : f_37 q_17 = some (1002, eI G 200 (fun _ => 0)) := by rw [ef_37]; exact wu_get hy_35 hNq17_35 (by decide)
  have hNq26_37 : f_37 q_26 = some (1003, eI G 200 (fun _ => 0)) := by rw [ef_37]; exact wu_get hy_35 hNq26_35 (by decide)
  have hNq35_37 : f_37 q_35 = some (1005, eI G 200 (fun _ => 0)) := by rw [ef_37]; exact wu_get hy_35 hNq35 (by decide)
  have mx_set_37 : mdx y f f_37 := by rw [ef_37]; exact mdx_putx mx_new_35
  refine lv_aload_n X.1 X.2.1 dX10_init_40 rfl (lv_at hl 0 rfl) ?_
  refine lv_sipush (v := 200) X.1 X.2.1 dX10_init_41 (by decide) ?_
  refine r_newI (N' := 200) X S 1007 (by decide) (by decide +kernel) (by decide) (by decide) (by decide) (by exact Nat.le_of_ble_eq_true rfl) (by exact Nat.le_of_ble_eq_true rfl) dX10_init_44 (fun q_44 H hn_q_44 S => ?_)
  obtain ⟨f_44, ef_44⟩ : ∃ z9 : Wd, z9 = wu f_37 q_44 1007 (eI G 200 (fun _ => 0)) := ⟨_, rfl⟩
  rw [← ef_44] at S
  have hy_44 : f_44 y = some (1000, .inr (10, [.ref q_8, .int 0, .ref q_17, .ref q_26, .ref q_35, .null, .int 0, .int 0, .int 0, .null, .int 0, .null, .null, .int 0])) := by rw [ef_44]; exact wu_new hn_q_44 hy_37
  have hNq8_44 : f_44 q_8 = some (1001, eI G 256 (fun _ => 0)) := by rw [ef_44]; exact wu_new hn_q_44 hNq8_37
  have hNq17_44 : f_44 q_17 = some (1002, eI G 200 (fun _ => 0)) := by rw [ef_44]; exact wu_new hn_q_44 hNq17_37
  have hNq26_44 : f_44 q_26 = some (1003, eI G 200 (fun _ => 0)) := by rw [ef_44]; exact wu_new hn_q_44 hNq26_37
  have hNq35_44 : f_44 q_35 = some (1005, eI G 200 (fun _ => 0)) := by rw [ef_44]; exact wu_new hn_q_44 hNq35_37
  have hNq44 : f_44 q_44 = some (1007, eI G 200 (fun _ => 0)) := by rw [ef_44]; exact wu_self _ _ _ _
  have hz_q_44 := mdx_none mx_set_37 hn_q_44
  have mx_new_44 : mdx y f f_44 := by rw [ef_44]; exact mdx_new mx_set_37 hn_q_44
  refine r_putF (C := RX10) (T := TX10) (N := 14) (ref := "CraterclockModel") (fs' := [.ref q_8, .int 0, .ref q_17, .ref q_26, .ref q_35, .ref q_44, .int 0, .int 0, .int 0, .null, .int 0, .null, .null, .int 0]) (ty := .array .int) X S in_RX10 tyX10 tyX10_ok nmX10 hy_44 (by decide) rfl 5 (by decide) (by decide +kernel) (fun _ h => h) rfl hnm rfl (by decide +kernel) rfl rfl (Nat.le_of_ble_eq_true rfl) rfl dX10_init_46 (fun H locs S => ?_)
  obtain ⟨f_46, ef_46⟩ : ∃ z9 : Wd, z9 = wu f_44 y 1000 (.inr (10, [.ref q_8, .int 0, .ref q_17, .ref q_26, .ref q_35, .ref q_44, .int 0, .int 0, .int 0, .null, .int 0, .null, .null, .int 0])) := ⟨_, rfl⟩
  rw [← ef_46] at S
  have hy_46 : f_46 y = some (1000, .inr (10, [.ref q_8, .int 0, .ref q_17, .ref q_26, .ref q_35, .ref q_44, .int 0, .int 0, .int 0, .null, .int 0, .null, .null, .int 0])) := by rw [ef_46]; exact wu_self _ _ _ _
  have hNq8_46 : f_46 q_8 = some (1001, eI G 256 (fun _ => 0)) := by rw [ef_46]; exact wu_get hy_44 hNq8_44 (by decide)
  have hNq17_46 : f_46 q_17 = some (1002, eI G 200 (fun _ => 0)) := by rw [ef_46]; exact wu_get hy_44 hNq17_44 (by decide)
  have hNq26_46 : f_46 q_26 = some (1003, eI G 200 (fun _ => 0)) := by rw [ef_46]; exact wu_get hy_44 hNq26_44 (by decide)
  have hNq35_46 : f_46 q_35 = some (1005, eI G 200 (fun _ => 0)) := by rw [ef_46]; exact wu_get hy_44 hNq35_44 (by decide)
  have hNq44_46 : f_46 q_44 = some (1007, eI G 200 (fun _ => 0)) := by rw [ef_46]; exact wu_get hy_44 hNq44 (by decide)
  have mx_set_46 : mdx y f f_46 := by rw [ef_46]; exact mdx_putx mx_new_44
  refine lv_aload_n X.1 X.2.1 dX10_init_49 rfl (lv_at hl 0 rfl) ?_
  refine lv_iconst (v := 1) X.1 X.2.1 dX10_init_50 (by decide) ?_
  refine r_put (C := RX10) (T := TX10) (N := 14) (ref := "CraterclockModel") (fs' := [.ref q_8, .int 0, .ref q_17, .ref q_26, .ref q_35, .ref q_44, .int 1, .int 0, .int 0, .null, .int 0, .null, .null, .int 0]) (ty := .int) X S in_RX10 tyX10 tyX10_ok nmX10 hy_46 (by decide) rfl 6 (by decide) (by decide +kernel) (fun _ h => h) rfl (by decide +kernel) rfl rfl (Nat.le_of_ble_eq_true rfl) rfl dX10_init_51 (fun H locs S => ?_)
  obtain ⟨f_51, ef_51⟩ : ∃ z9 : Wd, z9 = wu f_46 y 1000 (.inr (10, [.ref q_8, .int 0, .ref q_17, .ref q_26, .ref q_35, .ref q_44, .int 1, .int 0, .int 0, .null, .int 0, .null, .null, .int 0])) := ⟨_, rfl⟩
  rw [← ef_51] at S
  have hy_51 : f_51 y = some (1000, .inr (10, [.ref q_8, .int 0, .ref q_17, .ref q_26, .ref q_35, .ref q_44, .int 1, .int 0, .int 0, .null, .int 0, .null, .null, .int 0])) := by rw [ef_51]; exact wu_self _ _ _ _
  have hNq8_51 : f_51 q_8 = some (1001, eI G 256 (fun _ => 0)) := by rw [ef_51]; exact wu_get hy_46 hNq8_46 (by decide)
  have hNq17_51 : f_51 q_17 = some (1002, eI G 200 (fun _ => 0)) := by rw [ef_51]; exact wu_get hy_46 hNq17_46 (by decide)
  have hNq26_51 : f_51 q_26 = some (1003, eI G 200 (fun _ => 0)) := by rw [ef_51]; exact wu_get hy_46 hNq26_46 (by decide)
  have hNq35_51 : f_51 q_35 = some (1005, eI G 200 (fun _ => 0)) := by rw [ef_51]; exact wu_get hy_46 hNq35_46 (by decide)
  have hNq44_51 : f_51 q_44 = some (1007, eI G 200 (fun _ => 0)) := by rw [ef_51]; exact wu_get hy_46 hNq44_46 (by decide)
  have mx_set_51 : mdx y f f_51 := by rw [ef_51]; exact mdx_putx mx_set_46
  refine lv_aload_n X.1 X.2.1 dX10_init_54 rfl (lv_at hl 0 rfl) ?_
  refine lv_bipush (v := 6) X.1 X.2.1 dX10_init_55 (by decide) ?_
  refine r_newI (N' := 6) X S 1009 (by decide) (by decide +kernel) (by decide) (by decide) (by decide) (by exact Nat.le_of_ble_eq_true rfl) (by exact Nat.le_of_ble_eq_true rfl) dX10_init_57 (fun q_57 H hn_q_57 S => ?_)
  obtain ⟨f_57, ef_57⟩ : ∃ z9 : Wd, z9 = wu f_51 q_57 1009 (eI G 6 (fun _ => 0)) := ⟨_, rfl⟩
  rw [← ef_57] at S
  have hy_57 : f_57 y = some (1000, .inr (10, [.ref q_8, .int 0, .ref q_17, .ref q_26, .ref q_35, .ref q_44, .int 1, .int 0, .int 0, .null, .int 0, .null, .null, .int 0])) := by rw [ef_57]; exact wu_new hn_q_57 hy_51
  have hNq8_57 : f_57 q_8 = some (1001, eI G 256 (fun _ => 0)) := by rw [ef_57]; exact wu_new hn_q_57 hNq8_51
  have hNq17_57 : f_57 q_17 = some (1002, eI G 200 (fun _ => 0)) := by rw [ef_57]; exact wu_new hn_q_57 hNq17_51
  have hNq26_57 : f_57 q_26 = some (1003, eI G 200 (fun _ => 0)) := by rw [ef_57]; exact wu_new hn_q_57 hNq26_51
  have hNq35_57 : f_57 q_35 = some (1005, eI G 200 (fun _ => 0)) := by rw [ef_57]; exact wu_new hn_q_57 hNq35_51
  have hNq44_57 : f_57 q_44 = some (1007, eI G 200 (fun _ => 0)) := by rw [ef_57]; exact wu_new hn_q_57 hNq44_51
  have hNq57 : f_57 q_57 = some (1009, eI G 6 (fun _ => 0)) := by rw [ef_57]; exact wu_self _ _ _ _
  have hz_q_57 := mdx_none mx_set_51 hn_q_57
  have mx_new_57 : mdx y f f_57 := by rw [ef_57]; exact mdx_new mx_set_51 hn_q_57
  refine r_putF (C := RX10) (T := TX10) (N := 14) (ref := "CraterclockModel") (fs' := [.ref q_8, .int 0, .ref q_17, .ref q_26, .ref q_35, .ref q_44, .int 1, .int 0, .int 0, .ref q_57, .int 0, .null, .null, .int 0]) (ty := .array .int) X S in_RX10 tyX10 tyX10_ok nmX10 hy_57 (by decide) rfl 9 (by decide) (by decide +kernel) (fun _ h => h) rfl hnm rfl (by decide +kernel) rfl rfl (Nat.le_of_ble_eq_true rfl) rfl dX10_init_59 (fun H locs S => ?_)
  obtain ⟨f_59, ef_59⟩ : ∃ z9 : Wd, z9 = wu f_57 y 1000 (.inr (10, [.ref q_8, .int 0, .ref q_17, .ref q_26, .ref q_35, .ref q_44, .int 1, .int 0, .int 0, .ref q_57, .int 0, .null, .null, .int 0])) := ⟨_, rfl⟩
  rw [← ef_59] at S
  have hy_59 : f_59 y = some (1000, .inr (10, [.ref q_8, .int 0, .ref q_17, .ref q_26, .ref q_35, .ref q_44, .int 1, .int 0, .int 0, .ref q_57, .int 0, .null, .null, .int 0])) := by rw [ef_59]; exact wu_self _ _ _ _
  have hNq8_59 : f_59 q_8 = some (1001, eI G 256 (fun _ => 0)) := by rw [ef_59]; exact wu_get hy_57 hNq8_57 (by decide)
  have hNq17_59 : f_59 q_17 = some (1002, eI G 200 (fun _ => 0)) := by rw [ef_59]; exact wu_get hy_57 hNq17_57 (by decide)
  have hNq26_59 : f_59 q_26 = some (1003, eI G 200 (fun _ => 0)) := by rw [ef_59]; exact wu_get hy_57 hNq26_57 (by decide)
  have hNq35_59 : f_59 q_35 = some (1005, eI G 200 (fun _ => 0)) := by rw [ef_59]; exact wu_get hy_57 hNq35_57 (by decide)
  have hNq44_59 : f_59 q_44 = some (1007, eI G 200 (fun _ => 0)) := by rw [ef_59]; exact wu_get hy_57 hNq44_57 (by decide)
  have hNq57_59 : f_59 q_57 = some (1009, eI G 6 (fun _ => 0)) := by rw [ef_59]; exact wu_get hy_57 hNq57 (by decide)
  have mx_set_59 : mdx y f f_59 := by rw [ef_59]; exact mdx_putx mx_new_57
  refine lv_aload_n X.1 X.2.1 dX10_init_62 rfl (lv_at hl 0 rfl) ?_
  refine lv_bipush (v := 8) X.1 X.2.1 dX10_init_63 (by decide) ?_
  refine r_newJ (N' := 8) X S 1010 (by decide) (by decide +kernel) (by decide) (by decide) (by decide) (by exact Nat.le_of_ble_eq_true rfl) (by exact Nat.le_of_ble_eq_true rfl) dX10_init_65 (fun q_65 H hn_q_65 S => ?_)
  obtain ⟨f_65, ef_65⟩ : ∃ z9 : Wd, z9 = wu f_59 q_65 1010 (eJ G 8 (fun _ => 0)) := ⟨_, rfl⟩
  rw [← ef_65] at S
  have hy_65 : f_65 y = some (1000, .inr (10, [.ref q_8, .int 0, .ref q_17, .ref q_26, .ref q_35, .ref q_44, .int 1, .int 0, .int 0, .ref q_57, .int 0, .null, .null, .int 0])) := by rw [ef_65]; exact wu_new hn_q_65 hy_59
  have hNq8_65 : f_65 q_8 = some (1001, eI G 256 (fun _ => 0)) := by rw [ef_65]; exact wu_new hn_q_65 hNq8_59
  have hNq17_65 : f_65 q_17 = some (1002, eI G 200 (fun _ => 0)) := by rw [ef_65]; exact wu_new hn_q_65 hNq17_59
  have hNq26_65 : f_65 q_26 = some (1003, eI G 200 (fun _ => 0)) := by rw [ef_65]; exact wu_new hn_q_65 hNq26_59
  have hNq35_65 : f_65 q_35 = some (1005, eI G 200 (fun _ => 0)) := by rw [ef_65]; exact wu_new hn_q_65 hNq35_59
  have hNq44_65 : f_65 q_44 = some (1007, eI G 200 (fun _ => 0)) := by rw [ef_65]; exact wu_new hn_q_65 hNq44_59
  have hNq57_65 : f_65 q_57 = some (1009, eI G 6 (fun _ => 0)) := by rw [ef_65]; exact wu_new hn_q_65 hNq57_59
  have hNq65 : f_65 q_65 = some (1010, eJ G 8 (fun _ => 0)) := by rw [ef_65]; exact wu_self _ _ _ _
  have hz_q_65 := mdx_none mx_set_59 hn_q_65
  have mx_new_65 : mdx y f f_65 := by rw [ef_65]; exact mdx_new mx_set_59 hn_q_65
  refine r_putF (C := RX10) (T := TX10) (N := 14) (ref := "CraterclockModel") (fs' := [.ref q_8, .int 0, .ref q_17, .ref q_26, .ref q_35, .ref q_44, .int 1, .int 0, .int 0, .ref q_57, .int 0, .ref q_65, .null, .int 0]) (ty := .array .long) X S in_RX10 tyX10 tyX10_ok nmX10 hy_65 (by decide) rfl 11 (by decide) (by decide +kernel) (fun _ h => h) rfl hnm rfl (by decide +kernel) rfl rfl (Nat.le_of_ble_eq_true rfl) rfl dX10_init_67 (fun H locs S => ?_)
  obtain ⟨f_67, ef_67⟩ : ∃ z9 : Wd, z9 = wu f_65 y 1000 (.inr (10, [.ref q_8, .int 0, .ref q_17, .ref q_26, .ref q_35, .ref q_44, .int 1, .int 0, .int 0, .ref q_57, .int 0, .ref q_65, .null, .int 0])) := ⟨_, rfl⟩
  rw [← ef_67] at S
  have hy_67 : f_67 y = some (1000, .inr (10, [.ref q_8, .int 0, .ref q_17, .ref q_26, .ref q_35, .ref q_44, .int 1, .int 0, .int 0, .ref q_57, .int 0, .ref q_65, .null, .int 0])) := by rw [ef_67]; exact wu_self _ _ _ _
  have hNq8_67 : f_67 q_8 = some (1001, eI G 256 (fun _ => 0)) := by rw [ef_67]; exact wu_get hy_65 hNq8_65 (by decide)
  have hNq17_67 : f_67 q_17 = some (1002, eI G 200 (fun _ => 0)) := by rw [ef_67]; exact wu_get hy_65 hNq17_65 (by decide)
  have hNq26_67 : f_67 q_26 = some (1003, eI G 200 (fun _ => 0)) := by rw [ef_67]; exact wu_get hy_65 hNq26_65 (by decide)
  have hNq35_67 : f_67 q_35 = some (1005, eI G 200 (fun _ => 0)) := by rw [ef_67]; exact wu_get hy_65 hNq35_65 (by decide)
  have hNq44_67 : f_67 q_44 = some (1007, eI G 200 (fun _ => 0)) := by rw [ef_67]; exact wu_get hy_65 hNq44_65 (by decide)
  have hNq57_67 : f_67 q_57 = some (1009, eI G 6 (fun _ => 0)) := by rw [ef_67]; exact wu_get hy_65 hNq57_65 (by decide)
  have hNq65_67 : f_67 q_65 = some (1010, eJ G 8 (fun _ => 0)) := by rw [ef_67]; exact wu_get hy_65 hNq65 (by decide)
  have mx_set_67 : mdx y f f_67 := by rw [ef_67]; exact mdx_putx mx_new_65
  refine lv_aload_n X.1 X.2.1 dX10_init_70 rfl (lv_at hl 0 rfl) ?_
  refine lv_bipush (v := 8) X.1 X.2.1 dX10_init_71 (by decide) ?_
  refine r_newJ (N' := 8) X S 1011 (by decide) (by decide +kernel) (by decide) (by decide) (by decide) (by exact Nat.le_of_ble_eq_true rfl) (by exact Nat.le_of_ble_eq_true rfl) dX10_init_73 (fun q_73 H hn_q_73 S => ?_)
  obtain ⟨f_73, ef_73⟩ : ∃ z9 : Wd, z9 = wu f_67 q_73 1011 (eJ G 8 (fun _ => 0)) := ⟨_, rfl⟩
  rw [← ef_73] at S
  have hy_73 : f_73 y = some (1000, .inr (10, [.ref q_8, .int 0, .ref q_17, .ref q_26, .ref q_35, .ref q_44, .int 1, .int 0, .int 0, .ref q_57, .int 0, .ref q_65, .null, .int 0])) := by rw [ef_73]; exact wu_new hn_q_73 hy_67
  have hNq8_73 : f_73 q_8 = some (1001, eI G 256 (fun _ => 0)) := by rw [ef_73]; exact wu_new hn_q_73 hNq8_67
  have hNq17_73 : f_73 q_17 = some (1002, eI G 200 (fun _ => 0)) := by rw [ef_73]; exact wu_new hn_q_73 hNq17_67
  have hNq26_73 : f_73 q_26 = some (1003, eI G 200 (fun _ => 0)) := by rw [ef_73]; exact wu_new hn_q_73 hNq26_67
  have hNq35_73 : f_73 q_35 = some (1005, eI G 200 (fun _ => 0)) := by rw [ef_73]; exact wu_new hn_q_73 hNq35_67
  have hNq44_73 : f_73 q_44 = some (1007, eI G 200 (fun _ => 0)) := by rw [ef_73]; exact wu_new hn_q_73 hNq44_67
  have hNq57_73 : f_73 q_57 = some (1009, eI G 6 (fun _ => 0)) := by rw [ef_73]; exact wu_new hn_q_73 hNq57_67
  have hNq65_73 : f_73 q_65 = some (1010, eJ G 8 (fun _ => 0)) := by rw [ef_73]; exact wu_new hn_q_73 hNq65_67
  have hNq73 : f_73 q_73 = some (1011, eJ G 8 (fun _ => 0)) := by rw [ef_73]; exact wu_self _ _ _ _
  have hz_q_73 := mdx_none mx_set_67 hn_q_73
  have mx_new_73 : mdx y f f_73 := by rw [ef_73]; exact mdx_new mx_set_67 hn_q_73
  refine r_putF (C := RX10) (T := TX10) (N := 14) (ref := "CraterclockModel") (fs' := [.ref q_8, .int 0, .ref q_17, .ref q_26, .ref q_35, .ref q_44, .int 1, .int 0, .int 0, .ref q_57, .int 0, .ref q_65, .ref q_73, .int 0]) (ty := .array .long) X S in_RX10 tyX10 tyX10_ok nmX10 hy_73 (by decide) rfl 12 (by decide) (by decide +kernel) (fun _ h => h) rfl hnm rfl (by decide +kernel) rfl rfl (Nat.le_of_ble_eq_true rfl) rfl dX10_init_75 (fun H locs S => ?_)
  obtain ⟨f_75, ef_75⟩ : ∃ z9 : Wd, z9 = wu f_73 y 1000 (.inr (10, [.ref q_8, .int 0, .ref q_17, .ref q_26, .ref q_35, .ref q_44, .int 1, .int 0, .int 0, .ref q_57, .int 0, .ref q_65, .ref q_73, .int 0])) := ⟨_, rfl⟩
  rw [← ef_75] at S
  have hy_75 : f_75 y = some (1000, .inr (10, [.ref q_8, .int 0, .ref q_17, .ref q_26, .ref q_35, .ref q_44, .int 1, .int 0, .int 0, .ref q_57, .int 0, .ref q_65, .ref q_73, .int 0])) := by rw [ef_75]; exact wu_self _ _ _ _
  have hNq8_75 : f_75 q_8 = some (1001, eI G 256 (fun _ => 0)) := by rw [ef_75]; exact wu_get hy_73 hNq8_73 (by decide)
  have hNq17_75 : f_75 q_17 = some (1002, eI G 200 (fun _ => 0)) := by rw [ef_75]; exact wu_get hy_73 hNq17_73 (by decide)
  have hNq26_75 : f_75 q_26 = some (1003, eI G 200 (fun _ => 0)) := by rw [ef_75]; exact wu_get hy_73 hNq26_73 (by decide)
  have hNq35_75 : f_75 q_35 = some (1005, eI G 200 (fun _ => 0)) := by rw [ef_75]; exact wu_get hy_73 hNq35_73 (by decide)
  have hNq44_75 : f_75 q_44 = some (1007, eI G 200 (fun _ => 0)) := by rw [ef_75]; exact wu_get hy_73 hNq44_73 (by decide)
  have hNq57_75 : f_75 q_57 = some (1009, eI G 6 (fun _ => 0)) := by rw [ef_75]; exact wu_get hy_73 hNq57_73 (by decide)
  have hNq65_75 : f_75 q_65 = some (1010, eJ G 8 (fun _ => 0)) := by rw [ef_75]; exact wu_get hy_73 hNq65_73 (by decide)
  have hNq73_75 : f_75 q_73 = some (1011, eJ G 8 (fun _ => 0)) := by rw [ef_75]; exact wu_get hy_73 hNq73 (by decide)
  have mx_set_75 : mdx y f f_75 := by rw [ef_75]; exact mdx_putx mx_new_73
  refine e_v X hr S (Nat.le_of_ble_eq_true rfl) (Nat.le_of_ble_eq_true rfl) dX10_init_78 ?_
  refine ⟨⟨amk q_8 q_17 q_26 q_35 q_44 q_57 q_65 q_73, fun _ _ => 0, fun _ _ => 0, hy_75, ⟨hNq8_75, hNq17_75, hNq26_75, hNq35_75, hNq44_75, hNq57_75, hNq65_75, hNq73_75⟩, fun c _ => rfl, fun k hk => absurd hk (Nat.not_lt_zero k), fun k hk => absurd hk (Nat.not_lt_zero k), fun k hk => absurd hk (Nat.not_lt_zero k)⟩, ?_⟩
  exact fun b t e hb ht => mx_set_75.1 b _ hb (fun z => ht (by rw [z, hy] at hb; cases hb; rfl))
