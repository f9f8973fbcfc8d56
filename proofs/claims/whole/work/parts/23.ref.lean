/-! the reference: its leaves -/
abbrev eMo (A : Nat → Nat) (m1 m6 m7 m8 m10 m13 : Int32) : va_E := .inr (10, [.ref (A 1), .int m1, .ref (A 2), .ref (A 3), .ref (A 5), .ref (A 7), .int m6, .int m7, .int m8, .ref (A 9), .int m10, .ref (A 10), .ref (A 11), .int m13])
abbrev eMs (A : Nat → Nat) (st : St) (thr : Int32) : va_E := eMo A (nI (st 0 0)) (nI (st 0 4)) (nI (st 0 1)) (nI (st 0 2)) (nI (st 0 3)) thr
theorem nI_m1i {n : Nat} (h : n < 2 ^ 30) : (nI n - 1).toInt = (n : Int) - 1 := pk_sub_toInt (b := 1) h (by omega)
theorem RMx_thr {G : cx_G} {f : Wd} {st : St} {y : Nat} {A : Nat → Nat} {V : Nat → Nat → Int32} {VL : Nat → Nat → Int64} {thr t2 : Int32} (h : RMx G f st y A V VL thr) : RMx G (wu f y 1000 (eMs A st t2)) st y A V VL t2 := by
  obtain ⟨h0, ⟨h1, h2, h3, h4, h5, h6, h7, h8⟩, h9⟩ := h
  have k : ∀ (b t : Nat) (e : va_E), f b = some (t, e) → t ≠ 1000 → wu f y 1000 (eMs A st t2) b = some (t, e) := fun b t e hb ht => md_put h0 b t e hb ht
  exact ⟨wu_self _ _ _ _, ⟨k _ _ _ h1 (by omega), k _ _ _ h2 (by omega), k _ _ _ h3 (by omega), k _ _ _ h4 (by omega), k _ _ _ h5 (by omega), k _ _ _ h6 (by omega), k _ _ _ h7 (by omega), k _ _ _ h8 (by omega)⟩, h9⟩
theorem i_c {a b : Nat} (h : b ≤ a) : nI a - nI b = nI (a - b) := pk_sub h
set_option maxRecDepth 100000 in
set_option maxHeartbeats 4000000 in
/-- thrown -/
theorem n_thrown (l : Launch) (G : cx_G) (f : Wd) (y : Nat) (A : Nat → Nat) (m1 m6 m7 m8 m10 m13 : Int32) (hy : f y = some (1000, eMo A m1 m6 m7 m8 m10 m13)) : PI l G yX10_thrown wsX10_thrown 0 0 [.ref y] f (fun r => r = m13) := by
  refine cx_body (cc := cX10_thrown) (n := 1) (ret := (some .int)) (by decide +kernel) rfl (Nat.le_of_ble_eq_true rfl) ?_
  intro p0 e0 s0 m0 b0 meth0 c0 ls X hr hnm S hl
  have X : cxC G p0 l _ c0 cX10_thrown 1 m0 meth0 s0 _ RX10 wsX10_thrown := X
  have hl : lv_has ls 1 [(0, .ref y)] := hl
  have in_RX10 : ∀ w ∈ u_ws RX10 TX10 14, w ∈ wsX10_thrown := by decide +kernel
  refine lv_aload_n X.1 X.2.1 dX10_thrown_0 rfl (lv_at hl 0 rfl) ?_
  refine r_get (C := RX10) (T := TX10) (N := 14) (ref := "CraterclockModel") X S in_RX10 hy rfl 13 (by decide) (by decide +kernel) (fun _ h => h) rfl dX10_thrown_1 ?_
  refine e_ip X hr S dX10_thrown_4 ?_
  exact rfl

set_option maxRecDepth 100000 in
set_option maxHeartbeats 4000000 in
/-- can -/
theorem n_can (l : Launch) (G : cx_G) (f : Wd) (y : Nat) (A : Nat → Nat) (m1 m6 m7 m8 m10 m13 : Int32) (hy : f y = some (1000, eMo A m1 m6 m7 m8 m10 m13)) (k : Nat) (hk : k ≤ 3) : MI l G yX10_can wsX10_can 0 0 0 0 [.ref y, .int (nI k)] f (fun r f' => r = b2i (decide (k = 0)) ∧ f' = wu f y 1000 (eMo A m1 m6 m7 m8 m10 (nI k))) := by
  refine cx_body (cc := cX10_can) (n := 2) (ret := (some .boolean)) (by decide +kernel) rfl (Nat.le_of_ble_eq_true rfl) ?_
  intro p0 e0 s0 m0 b0 meth0 c0 ls X hr hnm S hl
  have X : cxC G p0 l _ c0 cX10_can 2 m0 meth0 s0 _ RX10 wsX10_can := X
  have hl : lv_has ls 2 [(0, .ref y), (1, .int (nI k))] := hl
  have in_RX10 : ∀ w ∈ u_ws RX10 TX10 14, w ∈ wsX10_can := by decide +kernel
  refine lv_aload_n X.1 X.2.1 dX10_can_0 rfl (lv_at hl 0 rfl) ?_
  refine lv_iload_n X.1 X.2.1 dX10_can_1 rfl (lv_at hl 1 rfl) ?_
  refine r_put (C := RX10) (T := TX10) (N := 14) (ref := "CraterclockModel") (fs' := [.ref (A 1), .int m1, .ref (A 2), .ref (A 3), .ref (A 5), .ref (A 7), .int m6, .int m7, .int m8, .ref (A 9), .int m10, .ref (A 10), .ref (A 11), .int (nI k)]) (ty := .int) X S in_RX10 tyX10 tyX10_ok nmX10 hy (by decide) rfl 13 (by decide) (by decide +kernel) (fun _ h => h) rfl (by decide +kernel) rfl rfl (Nat.le_of_ble_eq_true rfl) rfl dX10_can_2 (fun H locs S => ?_)
  obtain ⟨f_2, ef_2⟩ : ∃ z9 : Wd, z9 = wu f y 1000 (.inr (10, [.ref (A 1), .int m1, .ref (A 2), .ref (A 3), .ref (A 5), .ref (A 7), .int m6, .int m7, .int m8, .ref (A 9), .int m10, .ref (A 10), .ref (A 11), .int (nI k)])) := ⟨_, rfl⟩
  rw [← ef_2] at S
  have hy_2 : f_2 y = some (1000, .inr (10, [.ref (A 1), .int m1, .ref (A 2), .ref (A 3), .ref (A 5), .ref (A 7), .int m6, .int m7, .int m8, .ref (A 9), .int m10, .ref (A 10), .ref (A 11), .int (nI k)])) := by rw [ef_2]; exact wu_self _ _ _ _
  refine lv_iload_n X.1 X.2.1 dX10_can_5 rfl (lv_at hl 1 rfl) ?_
  refine lv_if_ne (tgt := 13) X.1 X.2.1 dX10_can_6 (by decide) (fun c_6 => ?_) (fun c_6 => ?_)
  · refine lv_iconst (v := 0) X.1 X.2.1 dX10_can_13 (by decide) ?_
    refine e_z X hr S (Nat.le_of_ble_eq_true rfl) (Nat.le_of_ble_eq_true rfl) dX10_can_14 rfl ?_
    exact ⟨b2i_f (fun z => c_6 (by rw [z]; rfl)), ef_2⟩
  · refine lv_iconst (v := 1) X.1 X.2.1 dX10_can_9 (by decide) ?_
    refine lv_goto (tgt := 14) X.1 X.2.1 dX10_can_10 (by decide) ?_
    refine e_z X hr S (Nat.le_of_ble_eq_true rfl) (Nat.le_of_ble_eq_true rfl) dX10_can_14 rfl ?_
    exact ⟨b2i_t ((nI_eq (b := 0) (by omega) (by omega)).mp c_6), ef_2⟩

set_option maxRecDepth 100000 in
set_option maxHeartbeats 4000000 in
/-- isIn -/
theorem n_isIn (l : Launch) (G : cx_G) (f : Wd) (n lo hi : Int32) (p q : Int) (hp : lo.toInt = p) (hq : hi.toInt = q) : PI l G yX10_isIn wsX10_isIn 0 0 [.int n, .int lo, .int hi] f (fun r => r = b2i (decide (p ≤ n.toInt ∧ n.toInt ≤ q))) := by
  refine cx_body (cc := cX10_isIn) (n := 3) (ret := (some .boolean)) (by decide +kernel) rfl (Nat.le_of_ble_eq_true rfl) ?_
  intro p0 e0 s0 m0 b0 meth0 c0 ls X hr hnm S hl
  have X : cxC G p0 l _ c0 cX10_isIn 3 m0 meth0 s0 _ RX10 wsX10_isIn := X
  have hl : lv_has ls 3 [(0, .int n), (1, .int lo), (2, .int hi)] := hl
  refine lv_iload_n X.1 X.2.1 dX10_isIn_0 rfl (lv_at hl 0 rfl) ?_
  refine lv_iload_n X.1 X.2.1 dX10_isIn_1 rfl (lv_at hl 1 rfl) ?_
  refine lv_icmp_lt (tgt := 14) X.1 X.2.1 dX10_isIn_2 (by decide) (fun c_2 => ?_) (fun c_2 => ?_)
  · refine lv_iconst (v := 0) X.1 X.2.1 dX10_isIn_14 (by decide) ?_
    refine e_zp X hr S dX10_isIn_15 rfl ?_
    exact b2i_f (fun z => by first | (rw [i_lt, hp] at c_2; omega) | (rw [i_lt, hq] at c_7; omega))
  · refine lv_iload_n X.1 X.2.1 dX10_isIn_5 rfl (lv_at hl 0 rfl) ?_
    refine lv_iload_n X.1 X.2.1 dX10_isIn_6 rfl (lv_at hl 2 rfl) ?_
    refine lv_icmp_gt (tgt := 14) X.1 X.2.1 dX10_isIn_7 (by decide) (fun c_7 => ?_) (fun c_7 => ?_)
    · refine lv_iconst (v := 0) X.1 X.2.1 dX10_isIn_14 (by decide) ?_
      refine e_zp X hr S dX10_isIn_15 rfl ?_
      exact b2i_f (fun z => by first | (rw [i_lt, hp] at c_2; omega) | (rw [i_lt, hq] at c_7; omega))
    · refine lv_iconst (v := 1) X.1 X.2.1 dX10_isIn_10 (by decide) ?_
      refine lv_goto (tgt := 15) X.1 X.2.1 dX10_isIn_11 (by decide) ?_
      refine e_zp X hr S dX10_isIn_15 rfl ?_
      exact b2i_t (by rw [i_lt, hp] at c_2; rw [i_lt, hq] at c_7; exact ⟨by omega, by omega⟩)

set_option maxRecDepth 100000 in
set_option maxHeartbeats 4000000 in
/-- isCell -/
theorem n_isCell (l : Launch) (G : cx_G) (f : Wd) (a b : Int32) : PI l G yX10_isCell wsX10_isCell 1 22 [.int a, .int b] f (fun r => r = b2i (decide ((0 ≤ a.toInt ∧ a.toInt ≤ 15) ∧ (0 ≤ b.toInt ∧ b.toInt ≤ 15)))) := by
  refine cx_body (cc := cX10_isCell) (n := 2) (ret := (some .boolean)) (by decide +kernel) rfl (Nat.le_of_ble_eq_true rfl) ?_
  intro p0 e0 s0 m0 b0 meth0 c0 ls X hr hnm S hl
  have X : cxC G p0 l _ c0 cX10_isCell 2 m0 meth0 s0 _ RX10 wsX10_isCell := X
  have hl : lv_has ls 2 [(0, .int a), (1, .int b)] := hl
  refine lv_iload_n X.1 X.2.1 dX10_isCell_0 rfl (lv_at hl 0 rfl) ?_
  refine lv_iconst (v := 0) X.1 X.2.1 dX10_isCell_1 (by decide) ?_
  refine lv_bipush (v := 15) X.1 X.2.1 dX10_isCell_2 (by decide) ?_
  refine call_ip (run_S X S (n_isIn l G f a 0 15 0 15 (by decide) (by decide)) 3 gX10_isCell_X10_isIn rfl rfl rfl (by decide +kernel) ⟨(by exact Nat.le_of_ble_eq_true rfl), (by exact Nat.le_of_ble_eq_true rfl)⟩ rfl hl.1 rfl (by exact Nat.le_of_ble_eq_true rfl) dX10_isCell_4 ⟨(Nat.zero_le _), (Nat.zero_le _)⟩) S (fun r_4 H locs hr_4 S => ?_)
  subst hr_4
  refine r_eqB (tgt := 24) X dX10_isCell_7 (by decide) (fun c_7 => ?_) (fun c_7 => ?_)
  · refine lv_iconst (v := 0) X.1 X.2.1 dX10_isCell_24 (by decide) ?_
    refine e_zp X hr S dX10_isCell_25 rfl ?_
    exact b2i_f (fun z => by first | exact of_decide_eq_false c_7 z.1 | exact of_decide_eq_false c_17 z.2)
  · refine lv_iload_n X.1 X.2.1 dX10_isCell_10 rfl (lv_at hl 1 rfl) ?_
    refine lv_iconst (v := 0) X.1 X.2.1 dX10_isCell_11 (by decide) ?_
    refine lv_bipush (v := 15) X.1 X.2.1 dX10_isCell_12 (by decide) ?_
    refine call_ip (run_S X S (n_isIn l G f b 0 15 0 15 (by decide) (by decide)) 3 gX10_isCell_X10_isIn rfl rfl rfl (by decide +kernel) ⟨(by exact Nat.le_of_ble_eq_true rfl), (by exact Nat.le_of_ble_eq_true rfl)⟩ rfl hl.1 rfl (by exact Nat.le_of_ble_eq_true rfl) dX10_isCell_14 ⟨(Nat.zero_le _), (Nat.zero_le _)⟩) S (fun r_14 H locs hr_14 S => ?_)
    subst hr_14
    refine r_eqB (tgt := 24) X dX10_isCell_17 (by decide) (fun c_17 => ?_) (fun c_17 => ?_)
    · refine lv_iconst (v := 0) X.1 X.2.1 dX10_isCell_24 (by decide) ?_
      refine e_zp X hr S dX10_isCell_25 rfl ?_
      exact b2i_f (fun z => by first | exact of_decide_eq_false c_7 z.1 | exact of_decide_eq_false c_17 z.2)
    · refine lv_iconst (v := 1) X.1 X.2.1 dX10_isCell_20 (by decide) ?_
      refine lv_goto (tgt := 25) X.1 X.2.1 dX10_isCell_21 (by decide) ?_
      refine e_zp X hr S dX10_isCell_25 rfl ?_
      exact b2i_t ⟨of_decide_eq_true c_7, of_decide_eq_true c_17⟩

set_option maxRecDepth 100000 in
set_option maxHeartbeats 4000000 in
/-- areCells -/
theorem n_areCells (l : Launch) (G : cx_G) (f : Wd) (a b p q : Int32) : PI l G yX10_areCells wsX10_areCells 2 43 [.int a, .int b, .int p, .int q] f (fun r => r = b2i (decide (((0 ≤ a.toInt ∧ a.toInt ≤ 15) ∧ (0 ≤ b.toInt ∧ b.toInt ≤ 15)) ∧ ((0 ≤ p.toInt ∧ p.toInt ≤ 15) ∧ (0 ≤ q.toInt ∧ q.toInt ≤ 15))))) := by
  refine cx_body (cc := cX10_areCells) (n := 4) (ret := (some .boolean)) (by decide +kernel) rfl (Nat.le_of_ble_eq_true rfl) ?_
  intro p0 e0 s0 m0 b0 meth0 c0 ls X hr hnm S hl
  have X : cxC G p0 l _ c0 cX10_areCells 4 m0 meth0 s0 _ RX10 wsX10_areCells := X
  have hl : lv_has ls 4 [(0, .int a), (1, .int b), (2, .int p), (3, .int q)] := hl
  refine lv_iload_n X.1 X.2.1 dX10_areCells_0 rfl (lv_at hl 0 rfl) ?_
  refine lv_iload_n X.1 X.2.1 dX10_areCells_1 rfl (lv_at hl 1 rfl) ?_
  refine call_ip (run_S X S (n_isCell l G f a b) 2 gX10_areCells_X10_isCell rfl rfl rfl (by decide +kernel) ⟨(by exact Nat.le_of_ble_eq_true rfl), (by exact Nat.le_of_ble_eq_true rfl)⟩ rfl hl.1 rfl (by exact Nat.le_of_ble_eq_true rfl) dX10_areCells_2 ⟨(Nat.zero_le _), (Nat.zero_le _)⟩) S (fun r_2 H locs hr_2 S => ?_)
  subst hr_2
  refine r_eqB (tgt := 20) X dX10_areCells_5 (by decide) (fun c_5 => ?_) (fun c_5 => ?_)
  · refine lv_iconst (v := 0) X.1 X.2.1 dX10_areCells_20 (by decide) ?_
    refine e_zp X hr S dX10_areCells_21 rfl ?_
    exact b2i_f (fun z => by first | exact of_decide_eq_false c_5 z.1 | exact of_decide_eq_false c_13 z.2)
  · refine lv_iload_n X.1 X.2.1 dX10_areCells_8 rfl (lv_at hl 2 rfl) ?_
    refine lv_iload_n X.1 X.2.1 dX10_areCells_9 rfl (lv_at hl 3 rfl) ?_
    refine call_ip (run_S X S (n_isCell l G f p q) 2 gX10_areCells_X10_isCell rfl rfl rfl (by decide +kernel) ⟨(by exact Nat.le_of_ble_eq_true rfl), (by exact Nat.le_of_ble_eq_true rfl)⟩ rfl hl.1 rfl (by exact Nat.le_of_ble_eq_true rfl) dX10_areCells_10 ⟨(Nat.zero_le _), (Nat.zero_le _)⟩) S (fun r_10 H locs hr_10 S => ?_)
    subst hr_10
    refine r_eqB (tgt := 20) X dX10_areCells_13 (by decide) (fun c_13 => ?_) (fun c_13 => ?_)
    · refine lv_iconst (v := 0) X.1 X.2.1 dX10_areCells_20 (by decide) ?_
      refine e_zp X hr S dX10_areCells_21 rfl ?_
      exact b2i_f (fun z => by first | exact of_decide_eq_false c_5 z.1 | exact of_decide_eq_false c_13 z.2)
    · refine lv_iconst (v := 1) X.1 X.2.1 dX10_areCells_16 (by decide) ?_
      refine lv_goto (tgt := 21) X.1 X.2.1 dX10_areCells_17 (by decide) ?_
      refine e_zp X hr S dX10_areCells_21 rfl ?_
      exact b2i_t ⟨of_decide_eq_true c_5, of_decide_eq_true c_13⟩

set_option maxRecDepth 100000 in
set_option maxHeartbeats 4000000 in
/-- n_isEye -/
theorem n_isEye (l : Launch) (G : cx_G) (f : Wd) (y : Nat) (A : Nat → Nat) (m1 m6 m7 m10 m13 : Int32) (n : Nat) (hn : n ≤ 200) (hy : f y = some (1000, eMo A m1 m6 m7 (nI n) m10 m13)) (c : Int32) : PI l G yX10_isEye wsX10_isEye 1 22 [.ref y, .int c] f (fun r => r = b2i (decide (0 ≤ c.toInt ∧ c.toInt ≤ (n : Int) - 1))) := by
  refine cx_body (cc := cX10_isEye) (n := 2) (ret := (some .boolean)) (by decide +kernel) rfl (Nat.le_of_ble_eq_true rfl) ?_
  intro p0 e0 s0 m0 b0 meth0 c0 ls X hr hnm S hl
  have X : cxC G p0 l _ c0 cX10_isEye 2 m0 meth0 s0 _ RX10 wsX10_isEye := X
  have hl : lv_has ls 2 [(0, .ref y), (1, .int c)] := hl
  have in_RX10 : ∀ w ∈ u_ws RX10 TX10 14, w ∈ wsX10_isEye := by decide +kernel
  refine lv_iload_n X.1 X.2.1 dX10_isEye_0 rfl (lv_at hl 1 rfl) ?_
  refine lv_iconst (v := 0) X.1 X.2.1 dX10_isEye_1 (by decide) ?_
  refine lv_aload_n X.1 X.2.1 dX10_isEye_2 rfl (lv_at hl 0 rfl) ?_
  refine r_get (C := RX10) (T := TX10) (N := 14) (ref := "CraterclockModel") X S in_RX10 hy rfl 8 (by decide) (by decide +kernel) (fun _ h => h) rfl dX10_isEye_3 ?_
  refine lv_iconst (v := 1) X.1 X.2.1 dX10_isEye_6 (by decide) ?_
  refine lv_isub X.1 X.2.1 dX10_isEye_7 ?_
  refine call_ip (run_S X S (n_isIn l G f c 0 (nI n - 1) 0 ((n : Int) - 1) (by decide) (nI_m1i (by omega))) 3 gX10_isEye_X10_isIn rfl rfl rfl (by decide +kernel) ⟨(by exact Nat.le_of_ble_eq_true rfl), (by exact Nat.le_of_ble_eq_true rfl)⟩ rfl hl.1 rfl (by exact Nat.le_of_ble_eq_true rfl) dX10_isEye_8 ⟨(Nat.zero_le _), (Nat.zero_le _)⟩) S (fun r_8 H locs hr_8 S => ?_)
  subst hr_8
  refine e_zp X hr S dX10_isEye_11 (b2i_nar _) ?_
  exact rfl

set_option maxRecDepth 100000 in
set_option maxHeartbeats 4000000 in
/-- n_isCrater -/
theorem n_isCrater (l : Launch) (G : cx_G) (f : Wd) (y : Nat) (A : Nat → Nat) (m6 m7 m8 m10 m13 : Int32) (n : Nat) (hn : n ≤ 200) (hy : f y = some (1000, eMo A (nI n) m6 m7 m8 m10 m13)) (c : Int32) : PI l G yX10_isCrater wsX10_isCrater 1 22 [.ref y, .int c] f (fun r => r = b2i (decide (0 ≤ c.toInt ∧ c.toInt ≤ (n : Int) - 1))) := by
  refine cx_body (cc := cX10_isCrater) (n := 2) (ret := (some .boolean)) (by decide +kernel) rfl (Nat.le_of_ble_eq_true rfl) ?_
  intro p0 e0 s0 m0 b0 meth0 c0 ls X hr hnm S hl
  have X : cxC G p0 l _ c0 cX10_isCrater 2 m0 meth0 s0 _ RX10 wsX10_isCrater := X
  have hl : lv_has ls 2 [(0, .ref y), (1, .int c)] := hl
  have in_RX10 : ∀ w ∈ u_ws RX10 TX10 14, w ∈ wsX10_isCrater := by decide +kernel
  refine lv_iload_n X.1 X.2.1 dX10_isCrater_0 rfl (lv_at hl 1 rfl) ?_
  refine lv_iconst (v := 0) X.1 X.2.1 dX10_isCrater_1 (by decide) ?_
  refine lv_aload_n X.1 X.2.1 dX10_isCrater_2 rfl (lv_at hl 0 rfl) ?_
  refine r_get (C := RX10) (T := TX10) (N := 14) (ref := "CraterclockModel") X S in_RX10 hy rfl 1 (by decide) (by decide +kernel) (fun _ h => h) rfl dX10_isCrater_3 ?_
  refine lv_iconst (v := 1) X.1 X.2.1 dX10_isCrater_6 (by decide) ?_
  refine lv_isub X.1 X.2.1 dX10_isCrater_7 ?_
  refine call_ip (run_S X S (n_isIn l G f c 0 (nI n - 1) 0 ((n : Int) - 1) (by decide) (nI_m1i (by omega))) 3 gX10_isCrater_X10_isIn rfl rfl rfl (by decide +kernel) ⟨(by exact Nat.le_of_ble_eq_true rfl), (by exact Nat.le_of_ble_eq_true rfl)⟩ rfl hl.1 rfl (by exact Nat.le_of_ble_eq_true rfl) dX10_isCrater_8 ⟨(Nat.zero_le _), (Nat.zero_le _)⟩) S (fun r_8 H locs hr_8 S => ?_)
  subst hr_8
  refine e_zp X hr S dX10_isCrater_11 (b2i_nar _) ?_
  exact rfl

set_option maxRecDepth 100000 in
set_option maxHeartbeats 4000000 in
/-- groundOf -/
theorem n_groundOf (l : Launch) (G : cx_G) (f : Wd) (y : Nat) (A : Nat → Nat) (m1 m6 m7 m8 m10 m13 : Int32) (hy : f y = some (1000, eMo A m1 m6 m7 m8 m10 m13)) (w1 w2 w3 : Nat → Int32) (h1 : f (A 1) = some (1001, eI G 256 w1)) (h2 : f (A 2) = some (1002, eI G 200 w2)) (h3 : f (A 3) = some (1003, eI G 200 w3)) (k a b g : Nat) (hk : k < 200) (ha : a < 16) (hb : b < 16) (e2 : w2 k = nI a) (e3 : w3 k = nI b) (e1 : w1 (16 * b + a) = nI g) : PI l G yX10_groundOf wsX10_groundOf 0 0 [.ref y, .int (nI k)] f (fun r => r = nI g) := by
  refine cx_body (cc := cX10_groundOf) (n := 2) (ret := (some .int)) (by decide +kernel) rfl (Nat.le_of_ble_eq_true rfl) ?_
  intro p0 e0 s0 m0 b0 meth0 c0 ls X hr hnm S hl
  have X : cxC G p0 l _ c0 cX10_groundOf 2 m0 meth0 s0 _ RX10 wsX10_groundOf := X
  have hl : lv_has ls 2 [(0, .ref y), (1, .int (nI k))] := hl
  have in_RX10 : ∀ w ∈ u_ws RX10 TX10 14, w ∈ wsX10_groundOf := by decide +kernel
  refine lv_aload_n X.1 X.2.1 dX10_groundOf_0 rfl (lv_at hl 0 rfl) ?_
  refine r_get (C := RX10) (T := TX10) (N := 14) (ref := "CraterclockModel") X S in_RX10 hy rfl 0 (by decide) (by decide +kernel) (fun _ h => h) rfl dX10_groundOf_1 ?_
  refine lv_bipush (v := 16) X.1 X.2.1 dX10_groundOf_4 (by decide) ?_
  refine lv_aload_n X.1 X.2.1 dX10_groundOf_6 rfl (lv_at hl 0 rfl) ?_
  refine r_get (C := RX10) (T := TX10) (N := 14) (ref := "CraterclockModel") X S in_RX10 hy rfl 3 (by decide) (by decide +kernel) (fun _ h => h) rfl dX10_groundOf_7 ?_
  refine lv_iload_n X.1 X.2.1 dX10_groundOf_10 rfl (lv_at hl 1 rfl) ?_
  refine r_iald (v := (nI b)) X S h3 (vp_in_nI hk (by omega)) (by rw [nI_clamp (by omega)]; exact e3) dX10_groundOf_11 ?_
  refine lv_imul X.1 X.2.1 dX10_groundOf_12 ?_
  refine lv_aload_n X.1 X.2.1 dX10_groundOf_13 rfl (lv_at hl 0 rfl) ?_
  refine r_get (C := RX10) (T := TX10) (N := 14) (ref := "CraterclockModel") X S in_RX10 hy rfl 2 (by decide) (by decide +kernel) (fun _ h => h) rfl dX10_groundOf_14 ?_
  refine lv_iload_n X.1 X.2.1 dX10_groundOf_17 rfl (lv_at hl 1 rfl) ?_
  refine r_iald (v := (nI a)) X S h2 (vp_in_nI hk (by omega)) (by rw [nI_clamp (by omega)]; exact e2) dX10_groundOf_18 ?_
  refine lv_iadd X.1 X.2.1 dX10_groundOf_19 ?_
  refine r_toi (y := nI (16 * b + a)) (by rw [show (16 : Int32) = nI 16 from rfl, pk_mul, nI_add]) ?_
  refine r_iald (v := (nI g)) X S h1 (vp_in_nI (by omega) (by omega)) (by rw [nI_clamp (by omega)]; exact e1) dX10_groundOf_20 ?_
  refine e_ip X hr S dX10_groundOf_21 ?_
  exact rfl

set_option maxRecDepth 100000 in
set_option maxHeartbeats 4000000 in
/-- square -/
theorem n_square (l : Launch) (G : cx_G) (f : Wd) (y : Nat) (A : Nat → Nat) (m1 m6 m7 m8 m10 m13 : Int32) (hy : f y = some (1000, eMo A m1 m6 m7 m8 m10 m13)) (w2 w3 : Nat → Int32) (h2 : f (A 2) = some (1002, eI G 200 w2)) (h3 : f (A 3) = some (1003, eI G 200 w3)) (k a b cx cy : Nat) (hk : k < 200) (e2 : w2 k = nI a) (e3 : w3 k = nI b) : PI l G yX10_square wsX10_square 0 0 [.ref y, .int (nI k), .int (nI cx), .int (nI cy)] f (fun r => r = nI (sq cx a + sq cy b)) := by
  refine cx_body (cc := cX10_square) (n := 4) (ret := (some .int)) (by decide +kernel) rfl (Nat.le_of_ble_eq_true rfl) ?_
  intro p0 e0 s0 m0 b0 meth0 c0 ls X hr hnm S hl
  have X : cxC G p0 l _ c0 cX10_square 4 m0 meth0 s0 _ RX10 wsX10_square := X
  have hl : lv_has ls 4 [(0, .ref y), (1, .int (nI k)), (2, .int (nI cx)), (3, .int (nI cy))] := hl
  have in_RX10 : ∀ w ∈ u_ws RX10 TX10 14, w ∈ wsX10_square := by decide +kernel
  refine lv_aload_n X.1 X.2.1 dX10_square_0 rfl (lv_at hl 0 rfl) ?_
  refine r_get (C := RX10) (T := TX10) (N := 14) (ref := "CraterclockModel") X S in_RX10 hy rfl 2 (by decide) (by decide +kernel) (fun _ h => h) rfl dX10_square_1 ?_
  refine lv_iload_n X.1 X.2.1 dX10_square_4 rfl (lv_at hl 1 rfl) ?_
  refine r_iald (v := (nI a)) X S h2 (vp_in_nI hk (by omega)) (by rw [nI_clamp (by omega)]; exact e2) dX10_square_5 ?_
  refine lv_iload_n X.1 X.2.1 dX10_square_6 rfl (lv_at hl 2 rfl) ?_
  refine lv_isub X.1 X.2.1 dX10_square_7 ?_
  refine lv_aload_n X.1 X.2.1 dX10_square_8 rfl (lv_at hl 0 rfl) ?_
  refine r_get (C := RX10) (T := TX10) (N := 14) (ref := "CraterclockModel") X S in_RX10 hy rfl 2 (by decide) (by decide +kernel) (fun _ h => h) rfl dX10_square_9 ?_
  refine lv_iload_n X.1 X.2.1 dX10_square_12 rfl (lv_at hl 1 rfl) ?_
  refine r_iald (v := (nI a)) X S h2 (vp_in_nI hk (by omega)) (by rw [nI_clamp (by omega)]; exact e2) dX10_square_13 ?_
  refine lv_iload_n X.1 X.2.1 dX10_square_14 rfl (lv_at hl 2 rfl) ?_
  refine lv_isub X.1 X.2.1 dX10_square_15 ?_
  refine lv_imul X.1 X.2.1 dX10_square_16 ?_
  refine lv_aload_n X.1 X.2.1 dX10_square_17 rfl (lv_at hl 0 rfl) ?_
  refine r_get (C := RX10) (T := TX10) (N := 14) (ref := "CraterclockModel") X S in_RX10 hy rfl 3 (by decide) (by decide +kernel) (fun _ h => h) rfl dX10_square_18 ?_
  refine lv_iload_n X.1 X.2.1 dX10_square_21 rfl (lv_at hl 1 rfl) ?_
  refine r_iald (v := (nI b)) X S h3 (vp_in_nI hk (by omega)) (by rw [nI_clamp (by omega)]; exact e3) dX10_square_22 ?_
  refine lv_iload_n X.1 X.2.1 dX10_square_23 rfl (lv_at hl 3 rfl) ?_
  refine lv_isub X.1 X.2.1 dX10_square_24 ?_
  refine lv_aload_n X.1 X.2.1 dX10_square_25 rfl (lv_at hl 0 rfl) ?_
  refine r_get (C := RX10) (T := TX10) (N := 14) (ref := "CraterclockModel") X S in_RX10 hy rfl 3 (by decide) (by decide +kernel) (fun _ h => h) rfl dX10_square_26 ?_
  refine lv_iload_n X.1 X.2.1 dX10_square_29 rfl (lv_at hl 1 rfl) ?_
  refine r_iald (v := (nI b)) X S h3 (vp_in_nI hk (by omega)) (by rw [nI_clamp (by omega)]; exact e3) dX10_square_30 ?_
  refine lv_iload_n X.1 X.2.1 dX10_square_31 rfl (lv_at hl 3 rfl) ?_
  refine lv_isub X.1 X.2.1 dX10_square_32 ?_
  refine lv_imul X.1 X.2.1 dX10_square_33 ?_
  refine lv_iadd X.1 X.2.1 dX10_square_34 ?_
  refine e_ip X hr S dX10_square_35 ?_
  rw [nI_sqd, nI_sqd, nI_add, sq_comm a, sq_comm b]

set_option maxRecDepth 100000 in
set_option maxHeartbeats 4000000 in
/-- lessens -/
theorem n_lessens (l : Launch) (G : cx_G) (f : Wd) (y : Nat) (A : Nat → Nat) (m1 m6 m7 m8 m10 m13 : Int32) (hy : f y = some (1000, eMo A m1 m6 m7 m8 m10 m13)) (w7 : Nat → Int32) (h7 : f (A 7) = some (1007, eI G 200 w7)) (k d b : Nat) (hk : k < 200) (hd : d < 1000) (hb : b < 1000) (e7 : w7 k = nI d) : MI l G yX10_lessens wsX10_lessens 0 0 0 0 [.ref y, .int (nI k), .int (nI b)] f (fun r f' => r = b2i (decide (0 < d ∧ d ≤ b)) ∧ f' = wu f (A 7) 1007 (eI G 200 (upd w7 k (nI (d - b))))) := by
  refine cx_body (cc := cX10_lessens) (n := 4) (ret := (some .boolean)) (by decide +kernel) rfl (Nat.le_of_ble_eq_true rfl) ?_
  intro p0 e0 s0 m0 b0 meth0 c0 ls X hr hnm S hl
  have X : cxC G p0 l _ c0 cX10_lessens 4 m0 meth0 s0 _ RX10 wsX10_lessens := X
  have hl : lv_has ls 4 [(0, .ref y), (1, .int (nI k)), (2, .int (nI b))] := hl
  have in_RX10 : ∀ w ∈ u_ws RX10 TX10 14, w ∈ wsX10_lessens := by decide +kernel
  refine lv_aload_n X.1 X.2.1 dX10_lessens_0 rfl (lv_at hl 0 rfl) ?_
  refine r_get (C := RX10) (T := TX10) (N := 14) (ref := "CraterclockModel") X S in_RX10 hy rfl 5 (by decide) (by decide +kernel) (fun _ h => h) rfl dX10_lessens_1 ?_
  refine lv_iload_n X.1 X.2.1 dX10_lessens_4 rfl (lv_at hl 1 rfl) ?_
  refine r_iald (v := (nI d)) X S h7 (vp_in_nI hk (by omega)) (by rw [nI_clamp (by omega)]; exact e7) dX10_lessens_5 ?_
  refine lv_if_le (tgt := 13) X.1 X.2.1 dX10_lessens_6 (by decide) (fun c_6 => ?_) (fun c_6 => ?_)
  · refine lv_iconst (v := 0) X.1 X.2.1 dX10_lessens_13 (by decide) ?_
    refine lv_istore_n (lv' := [(3, .int 0), (0, .ref y), (1, .int (nI k)), (2, .int (nI b))]) X.1 X.2.1 dX10_lessens_14 rfl hl (by decide) rfl (fun ls hl => ?_)
    refine lv_aload_n X.1 X.2.1 dX10_lessens_15 rfl (lv_at hl 1 rfl) ?_
    refine r_get (C := RX10) (T := TX10) (N := 14) (ref := "CraterclockModel") X S in_RX10 hy rfl 5 (by decide) (by decide +kernel) (fun _ h => h) rfl dX10_lessens_16 ?_
    refine lv_iload_n X.1 X.2.1 dX10_lessens_19 rfl (lv_at hl 2 rfl) ?_
    refine lv_aload_n X.1 X.2.1 dX10_lessens_20 rfl (lv_at hl 1 rfl) ?_
    refine r_get (C := RX10) (T := TX10) (N := 14) (ref := "CraterclockModel") X S in_RX10 hy rfl 5 (by decide) (by decide +kernel) (fun _ h => h) rfl dX10_lessens_21 ?_
    refine lv_iload_n X.1 X.2.1 dX10_lessens_24 rfl (lv_at hl 2 rfl) ?_
    refine r_iald (v := (nI d)) X S h7 (vp_in_nI hk (by omega)) (by rw [nI_clamp (by omega)]; exact e7) dX10_lessens_25 ?_
    refine lv_iload_n X.1 X.2.1 dX10_lessens_26 rfl (lv_at hl 3 rfl) ?_
    refine lv_icmp_le (tgt := 41) X.1 X.2.1 dX10_lessens_27 (by decide) (fun c_27 => ?_) (fun c_27 => ?_)
    · refine lv_iconst (v := 0) X.1 X.2.1 dX10_lessens_41 (by decide) ?_
      refine r_toi (y := nI (d - b)) (by rw [show d - b = 0 by have := (nI_leI (by omega) (by omega)).mp c_27; omega]; rfl) ?_
      refine r_iast X S h7 (by decide) (vp_in_nI hk (by omega)) dX10_lessens_42 (fun H locs S => ?_)
      rw [nI_clamp (by omega)] at S
      obtain ⟨f_42, ef_42⟩ : ∃ z9 : Wd, z9 = wu f (A 7) 1007 (eI G 200 (upd w7 k (nI (d - b)))) := ⟨_, rfl⟩
      rw [← ef_42] at S
      have hy_42 : f_42 y = some (1000, .inr (10, [.ref (A 1), .int m1, .ref (A 2), .ref (A 3), .ref (A 5), .ref (A 7), .int m6, .int m7, .int m8, .ref (A 9), .int m10, .ref (A 10), .ref (A 11), .int m13])) := by rw [ef_42]; exact wu_get h7 hy (by decide)
      have h7_42 : f_42 (A 7) = some (1007, eI G 200 (upd w7 k (nI (d - b)))) := by rw [ef_42]; exact wu_self _ _ _ _
      refine lv_iload_n X.1 X.2.1 dX10_lessens_43 rfl (lv_at hl 0 rfl) ?_
      refine lv_if_eq (x := 0) (tgt := 60) X.1 X.2.1 dX10_lessens_44 (by decide) (fun c_44 => ?_) (fun c_44 => absurd (by decide) c_44)
      refine lv_iconst (v := 0) X.1 X.2.1 dX10_lessens_60 (by decide) ?_
      refine e_z X hr S (Nat.le_of_ble_eq_true rfl) (Nat.le_of_ble_eq_true rfl) dX10_lessens_61 rfl ?_
      exact ⟨b2i_f (fun z => by first | (have := nI_le0 (by omega) c_6; omega) | exact c_53 (by rw [show d - b = 0 by omega]; rfl)), ef_42⟩
    · refine lv_aload_n X.1 X.2.1 dX10_lessens_30 rfl (lv_at hl 1 rfl) ?_
      refine r_get (C := RX10) (T := TX10) (N := 14) (ref := "CraterclockModel") X S in_RX10 hy rfl 5 (by decide) (by decide +kernel) (fun _ h => h) rfl dX10_lessens_31 ?_
      refine lv_iload_n X.1 X.2.1 dX10_lessens_34 rfl (lv_at hl 2 rfl) ?_
      refine r_iald (v := (nI d)) X S h7 (vp_in_nI hk (by omega)) (by rw [nI_clamp (by omega)]; exact e7) dX10_lessens_35 ?_
      refine lv_iload_n X.1 X.2.1 dX10_lessens_36 rfl (lv_at hl 3 rfl) ?_
      refine lv_isub X.1 X.2.1 dX10_lessens_37 ?_
      refine lv_goto (tgt := 42) X.1 X.2.1 dX10_lessens_38 (by decide) ?_
      refine r_toi (y := nI (d - b)) (pk_sub (by have : ¬ d ≤ b := fun z => c_27 (nI_le z (by omega)); omega)) ?_
      refine r_iast X S h7 (by decide) (vp_in_nI hk (by omega)) dX10_lessens_42 (fun H locs S => ?_)
      rw [nI_clamp (by omega)] at S
      obtain ⟨f_42, ef_42⟩ : ∃ z9 : Wd, z9 = wu f (A 7) 1007 (eI G 200 (upd w7 k (nI (d - b)))) := ⟨_, rfl⟩
      rw [← ef_42] at S
      have hy_42 : f_42 y = some (1000, .inr (10, [.ref (A 1), .int m1, .ref (A 2), .ref (A 3), .ref (A 5), .ref (A 7), .int m6, .int m7, .int m8, .ref (A 9), .int m10, .ref (A 10), .ref (A 11), .int m13])) := by rw [ef_42]; exact wu_get h7 hy (by decide)
      have h7_42 : f_42 (A 7) = some (1007, eI G 200 (upd w7 k (nI (d - b)))) := by rw [ef_42]; exact wu_self _ _ _ _
      refine lv_iload_n X.1 X.2.1 dX10_lessens_43 rfl (lv_at hl 0 rfl) ?_
      refine lv_if_eq (x := 0) (tgt := 60) X.1 X.2.1 dX10_lessens_44 (by decide) (fun c_44 => ?_) (fun c_44 => absurd (by decide) c_44)
      refine lv_iconst (v := 0) X.1 X.2.1 dX10_lessens_60 (by decide) ?_
      refine e_z X hr S (Nat.le_of_ble_eq_true rfl) (Nat.le_of_ble_eq_true rfl) dX10_lessens_61 rfl ?_
      exact ⟨b2i_f (fun z => by first | (have := nI_le0 (by omega) c_6; omega) | exact c_53 (by rw [show d - b = 0 by omega]; rfl)), ef_42⟩
  · refine lv_iconst (v := 1) X.1 X.2.1 dX10_lessens_9 (by decide) ?_
    refine lv_goto (tgt := 14) X.1 X.2.1 dX10_lessens_10 (by decide) ?_
    refine lv_istore_n (lv' := [(3, .int 1), (0, .ref y), (1, .int (nI k)), (2, .int (nI b))]) X.1 X.2.1 dX10_lessens_14 rfl hl (by decide) rfl (fun ls hl => ?_)
    refine lv_aload_n X.1 X.2.1 dX10_lessens_15 rfl (lv_at hl 1 rfl) ?_
    refine r_get (C := RX10) (T := TX10) (N := 14) (ref := "CraterclockModel") X S in_RX10 hy rfl 5 (by decide) (by decide +kernel) (fun _ h => h) rfl dX10_lessens_16 ?_
    refine lv_iload_n X.1 X.2.1 dX10_lessens_19 rfl (lv_at hl 2 rfl) ?_
    refine lv_aload_n X.1 X.2.1 dX10_lessens_20 rfl (lv_at hl 1 rfl) ?_
    refine r_get (C := RX10) (T := TX10) (N := 14) (ref := "CraterclockModel") X S in_RX10 hy rfl 5 (by decide) (by decide +kernel) (fun _ h => h) rfl dX10_lessens_21 ?_
    refine lv_iload_n X.1 X.2.1 dX10_lessens_24 rfl (lv_at hl 2 rfl) ?_
    refine r_iald (v := (nI d)) X S h7 (vp_in_nI hk (by omega)) (by rw [nI_clamp (by omega)]; exact e7) dX10_lessens_25 ?_
    refine lv_iload_n X.1 X.2.1 dX10_lessens_26 rfl (lv_at hl 3 rfl) ?_
    refine lv_icmp_le (tgt := 41) X.1 X.2.1 dX10_lessens_27 (by decide) (fun c_27 => ?_) (fun c_27 => ?_)
    · refine lv_iconst (v := 0) X.1 X.2.1 dX10_lessens_41 (by decide) ?_
      refine r_toi (y := nI (d - b)) (by rw [show d - b = 0 by have := (nI_leI (by omega) (by omega)).mp c_27; omega]; rfl) ?_
      refine r_iast X S h7 (by decide) (vp_in_nI hk (by omega)) dX10_lessens_42 (fun H locs S => ?_)
      rw [nI_clamp (by omega)] at S
      obtain ⟨f_42, ef_42⟩ : ∃ z9 : Wd, z9 = wu f (A 7) 1007 (eI G 200 (upd w7 k (nI (d - b)))) := ⟨_, rfl⟩
      rw [← ef_42] at S
      have hy_42 : f_42 y = some (1000, .inr (10, [.ref (A 1), .int m1, .ref (A 2), .ref (A 3), .ref (A 5), .ref (A 7), .int m6, .int m7, .int m8, .ref (A 9), .int m10, .ref (A 10), .ref (A 11), .int m13])) := by rw [ef_42]; exact wu_get h7 hy (by decide)
      have h7_42 : f_42 (A 7) = some (1007, eI G 200 (upd w7 k (nI (d - b)))) := by rw [ef_42]; exact wu_self _ _ _ _
      refine lv_iload_n X.1 X.2.1 dX10_lessens_43 rfl (lv_at hl 0 rfl) ?_
      refine lv_if_eq (x := 1) (tgt := 60) X.1 X.2.1 dX10_lessens_44 (by decide) (fun c_44 => absurd c_44 (by decide)) (fun c_44 => ?_)
      refine lv_aload_n X.1 X.2.1 dX10_lessens_47 rfl (lv_at hl 1 rfl) ?_
      refine r_get (C := RX10) (T := TX10) (N := 14) (ref := "CraterclockModel") X S in_RX10 hy_42 rfl 5 (by decide) (by decide +kernel) (fun _ h => h) rfl dX10_lessens_48 ?_
      refine lv_iload_n X.1 X.2.1 dX10_lessens_51 rfl (lv_at hl 2 rfl) ?_
      refine r_iald (v := (nI (d - b))) X S h7_42 (vp_in_nI hk (by omega)) (by rw [nI_clamp (by omega)]; exact pk_us) dX10_lessens_52 ?_
      refine lv_if_ne (tgt := 60) X.1 X.2.1 dX10_lessens_53 (by decide) (fun c_53 => ?_) (fun c_53 => ?_)
      · refine lv_iconst (v := 0) X.1 X.2.1 dX10_lessens_60 (by decide) ?_
        refine e_z X hr S (Nat.le_of_ble_eq_true rfl) (Nat.le_of_ble_eq_true rfl) dX10_lessens_61 rfl ?_
        exact ⟨b2i_f (fun z => by first | (have := nI_le0 (by omega) c_6; omega) | exact c_53 (by rw [show d - b = 0 by omega]; rfl)), ef_42⟩
      · refine lv_iconst (v := 1) X.1 X.2.1 dX10_lessens_56 (by decide) ?_
        refine lv_goto (tgt := 61) X.1 X.2.1 dX10_lessens_57 (by decide) ?_
        refine e_z X hr S (Nat.le_of_ble_eq_true rfl) (Nat.le_of_ble_eq_true rfl) dX10_lessens_61 rfl ?_
        exact ⟨b2i_t ⟨nI_gt0 c_6, by have := (nI_eq (b := 0) (by omega) (by omega)).mp c_53; omega⟩, ef_42⟩
    · refine lv_aload_n X.1 X.2.1 dX10_lessens_30 rfl (lv_at hl 1 rfl) ?_
      refine r_get (C := RX10) (T := TX10) (N := 14) (ref := "CraterclockModel") X S in_RX10 hy rfl 5 (by decide) (by decide +kernel) (fun _ h => h) rfl dX10_lessens_31 ?_
      refine lv_iload_n X.1 X.2.1 dX10_lessens_34 rfl (lv_at hl 2 rfl) ?_
      refine r_iald (v := (nI d)) X S h7 (vp_in_nI hk (by omega)) (by rw [nI_clamp (by omega)]; exact e7) dX10_lessens_35 ?_
      refine lv_iload_n X.1 X.2.1 dX10_lessens_36 rfl (lv_at hl 3 rfl) ?_
      refine lv_isub X.1 X.2.1 dX10_lessens_37 ?_
      refine lv_goto (tgt := 42) X.1 X.2.1 dX10_lessens_38 (by decide) ?_
      refine r_toi (y := nI (d - b)) (pk_sub (by have : ¬ d ≤ b := fun z => c_27 (nI_le z (by omega)); omega)) ?_
      refine r_iast X S h7 (by decide) (vp_in_nI hk (by omega)) dX10_lessens_42 (fun H locs S => ?_)
      rw [nI_clamp (by omega)] at S
      obtain ⟨f_42, ef_42⟩ : ∃ z9 : Wd, z9 = wu f (A 7) 1007 (eI G 200 (upd w7 k (nI (d - b)))) := ⟨_, rfl⟩
      rw [← ef_42] at S
      have hy_42 : f_42 y = some (1000, .inr (10, [.ref (A 1), .int m1, .ref (A 2), .ref (A 3), .ref (A 5), .ref (A 7), .int m6, .int m7, .int m8, .ref (A 9), .int m10, .ref (A 10), .ref (A 11), .int m13])) := by rw [ef_42]; exact wu_get h7 hy (by decide)
      have h7_42 : f_42 (A 7) = some (1007, eI G 200 (upd w7 k (nI (d - b)))) := by rw [ef_42]; exact wu_self _ _ _ _
      refine lv_iload_n X.1 X.2.1 dX10_lessens_43 rfl (lv_at hl 0 rfl) ?_
      refine lv_if_eq (x := 1) (tgt := 60) X.1 X.2.1 dX10_lessens_44 (by decide) (fun c_44 => absurd c_44 (by decide)) (fun c_44 => ?_)
      refine lv_aload_n X.1 X.2.1 dX10_lessens_47 rfl (lv_at hl 1 rfl) ?_
      refine r_get (C := RX10) (T := TX10) (N := 14) (ref := "CraterclockModel") X S in_RX10 hy_42 rfl 5 (by decide) (by decide +kernel) (fun _ h => h) rfl dX10_lessens_48 ?_
      refine lv_iload_n X.1 X.2.1 dX10_lessens_51 rfl (lv_at hl 2 rfl) ?_
      refine r_iald (v := (nI (d - b))) X S h7_42 (vp_in_nI hk (by omega)) (by rw [nI_clamp (by omega)]; exact pk_us) dX10_lessens_52 ?_
      refine lv_if_ne (tgt := 60) X.1 X.2.1 dX10_lessens_53 (by decide) (fun c_53 => ?_) (fun c_53 => ?_)
      · refine lv_iconst (v := 0) X.1 X.2.1 dX10_lessens_60 (by decide) ?_
        refine e_z X hr S (Nat.le_of_ble_eq_true rfl) (Nat.le_of_ble_eq_true rfl) dX10_lessens_61 rfl ?_
        exact ⟨b2i_f (fun z => by first | (have := nI_le0 (by omega) c_6; omega) | exact c_53 (by rw [show d - b = 0 by omega]; rfl)), ef_42⟩
      · refine lv_iconst (v := 1) X.1 X.2.1 dX10_lessens_56 (by decide) ?_
        refine lv_goto (tgt := 61) X.1 X.2.1 dX10_lessens_57 (by decide) ?_
        refine e_z X hr S (Nat.le_of_ble_eq_true rfl) (Nat.le_of_ble_eq_true rfl) dX10_lessens_61 rfl ?_
        exact ⟨b2i_t ⟨nI_gt0 c_6, by have := (nI_eq (b := 0) (by omega) (by omega)).mp c_53; omega⟩, ef_42⟩

set_option maxRecDepth 100000 in
set_option maxHeartbeats 4000000 in
/-- isWithin -/
theorem n_isWithin (l : Launch) (G : cx_G) (f : Wd) (y : Nat) (A : Nat → Nat) (m1 m6 m7 m8 m10 m13 : Int32) (hy : f y = some (1000, eMo A m1 m6 m7 m8 m10 m13)) (w2 w3 : Nat → Int32) (h2 : f (A 2) = some (1002, eI G 200 w2)) (h3 : f (A 3) = some (1003, eI G 200 w3)) (k cx cy a b p q : Nat) (hk : k < 200) (hcx : cx < 16) (hcy : cy < 16) (ha : a < 16) (hb : b < 16) (hp : p < 16) (hq : q < 16) (e2 : w2 k = nI cx) (e3 : w3 k = nI cy) : PI l G yX10_isWithin wsX10_isWithin 1 22 [.ref y, .int (nI k), .int (nI a), .int (nI b), .int (nI p), .int (nI q)] f (fun r => r = b2i (decide (a ≤ cx ∧ cx ≤ p ∧ b ≤ cy ∧ cy ≤ q))) := by
  refine cx_body (cc := cX10_isWithin) (n := 6) (ret := (some .boolean)) (by decide +kernel) rfl (Nat.le_of_ble_eq_true rfl) ?_
  intro p0 e0 s0 m0 b0 meth0 c0 ls X hr hnm S hl
  have X : cxC G p0 l _ c0 cX10_isWithin 6 m0 meth0 s0 _ RX10 wsX10_isWithin := X
  have hl : lv_has ls 6 [(0, .ref y), (1, .int (nI k)), (2, .int (nI a)), (3, .int (nI b)), (4, .int (nI p)), (5, .int (nI q))] := hl
  have in_RX10 : ∀ w ∈ u_ws RX10 TX10 14, w ∈ wsX10_isWithin := by decide +kernel
  refine lv_aload_n X.1 X.2.1 dX10_isWithin_0 rfl (lv_at hl 0 rfl) ?_
  refine r_get (C := RX10) (T := TX10) (N := 14) (ref := "CraterclockModel") X S in_RX10 hy rfl 2 (by decide) (by decide +kernel) (fun _ h => h) rfl dX10_isWithin_1 ?_
  refine lv_iload_n X.1 X.2.1 dX10_isWithin_4 rfl (lv_at hl 1 rfl) ?_
  refine r_iald (v := (nI cx)) X S h2 (vp_in_nI hk (by omega)) (by rw [nI_clamp (by omega)]; exact e2) dX10_isWithin_5 ?_
  refine lv_iload_n X.1 X.2.1 dX10_isWithin_6 rfl (lv_at hl 2 rfl) ?_
  refine lv_iload X.1 X.2.1 dX10_isWithin_7 (lv_at hl 4 rfl) ?_
  refine call_ip (run_S X S (n_isIn l G f (nI cx) (nI a) (nI p) (a : Int) (p : Int) (i_n (by omega)) (i_n (by omega))) 3 gX10_isWithin_X10_isIn rfl rfl rfl (by decide +kernel) ⟨(by exact Nat.le_of_ble_eq_true rfl), (by exact Nat.le_of_ble_eq_true rfl)⟩ rfl hl.1 rfl (by exact Nat.le_of_ble_eq_true rfl) dX10_isWithin_9 ⟨(Nat.zero_le _), (Nat.zero_le _)⟩) S (fun r_9 H locs hr_9 S => ?_)
  subst hr_9
  refine r_eqB (tgt := 34) X dX10_isWithin_12 (by decide) (fun c_12 => ?_) (fun c_12 => ?_)
  · refine lv_iconst (v := 0) X.1 X.2.1 dX10_isWithin_34 (by decide) ?_
    refine e_zp X hr S dX10_isWithin_35 rfl ?_
    simp only [i_n (show cx < 2 ^ 31 by omega), i_n (show cy < 2 ^ 31 by omega)] at *
    exact b2i_f (fun z => by first | exact of_decide_eq_false c_12 (by omega) | exact of_decide_eq_false c_27 (by omega))
  · refine lv_aload_n X.1 X.2.1 dX10_isWithin_15 rfl (lv_at hl 0 rfl) ?_
    refine r_get (C := RX10) (T := TX10) (N := 14) (ref := "CraterclockModel") X S in_RX10 hy rfl 3 (by decide) (by decide +kernel) (fun _ h => h) rfl dX10_isWithin_16 ?_
    refine lv_iload_n X.1 X.2.1 dX10_isWithin_19 rfl (lv_at hl 1 rfl) ?_
    refine r_iald (v := (nI cy)) X S h3 (vp_in_nI hk (by omega)) (by rw [nI_clamp (by omega)]; exact e3) dX10_isWithin_20 ?_
    refine lv_iload_n X.1 X.2.1 dX10_isWithin_21 rfl (lv_at hl 3 rfl) ?_
    refine lv_iload X.1 X.2.1 dX10_isWithin_22 (lv_at hl 5 rfl) ?_
    refine call_ip (run_S X S (n_isIn l G f (nI cy) (nI b) (nI q) (b : Int) (q : Int) (i_n (by omega)) (i_n (by omega))) 3 gX10_isWithin_X10_isIn rfl rfl rfl (by decide +kernel) ⟨(by exact Nat.le_of_ble_eq_true rfl), (by exact Nat.le_of_ble_eq_true rfl)⟩ rfl hl.1 rfl (by exact Nat.le_of_ble_eq_true rfl) dX10_isWithin_24 ⟨(Nat.zero_le _), (Nat.zero_le _)⟩) S (fun r_24 H locs hr_24 S => ?_)
    subst hr_24
    refine r_eqB (tgt := 34) X dX10_isWithin_27 (by decide) (fun c_27 => ?_) (fun c_27 => ?_)
    · refine lv_iconst (v := 0) X.1 X.2.1 dX10_isWithin_34 (by decide) ?_
      refine e_zp X hr S dX10_isWithin_35 rfl ?_
      simp only [i_n (show cx < 2 ^ 31 by omega), i_n (show cy < 2 ^ 31 by omega)] at *
      exact b2i_f (fun z => by first | exact of_decide_eq_false c_12 (by omega) | exact of_decide_eq_false c_27 (by omega))
    · refine lv_iconst (v := 1) X.1 X.2.1 dX10_isWithin_30 (by decide) ?_
      refine lv_goto (tgt := 35) X.1 X.2.1 dX10_isWithin_31 (by decide) ?_
      refine e_zp X hr S dX10_isWithin_35 rfl ?_
      simp only [i_n (show cx < 2 ^ 31 by omega), i_n (show cy < 2 ^ 31 by omega)] at *
      exact b2i_t (by have h1 := of_decide_eq_true c_12; have h2 := of_decide_eq_true c_27; omega)

set_option maxRecDepth 100000 in
set_option maxHeartbeats 4000000 in
/-- sizeBy -/
theorem n_sizeBy (l : Launch) (G : cx_G) (f : Wd) (q : Nat) (hq : q < 64) : PI l G yX10_sizeBy wsX10_sizeBy 0 0 [.int (nI q)] f (fun x => x = nI (sizeOf q)) := by
  refine cx_body (cc := cX10_sizeBy) (n := 1) (ret := (some .int)) (by decide +kernel) rfl (Nat.le_of_ble_eq_true rfl) ?_
  intro p0 e0 s0 m0 b0 meth0 c0 ls X hr hnm S hl
  have X : cxC G p0 l _ c0 cX10_sizeBy 1 m0 meth0 s0 _ RX10 wsX10_sizeBy := X
  have hl : lv_has ls 1 [(0, .int (nI q))] := hl
  refine lv_iload_n X.1 X.2.1 dX10_sizeBy_0 rfl (lv_at hl 0 rfl) ?_
  refine lv_bipush (v := 40) X.1 X.2.1 dX10_sizeBy_1 (by decide) ?_
  refine lv_icmp_ge (tgt := 10) X.1 X.2.1 dX10_sizeBy_3 (by decide) (fun c_3 => ?_) (fun c_3 => ?_)
  · refine lv_iload_n X.1 X.2.1 dX10_sizeBy_10 rfl (lv_at hl 0 rfl) ?_
    refine lv_bipush (v := 52) X.1 X.2.1 dX10_sizeBy_11 (by decide) ?_
    refine lv_icmp_ge (tgt := 20) X.1 X.2.1 dX10_sizeBy_13 (by decide) (fun c_13 => ?_) (fun c_13 => ?_)
    · refine lv_iload_n X.1 X.2.1 dX10_sizeBy_20 rfl (lv_at hl 0 rfl) ?_
      refine lv_bipush (v := 58) X.1 X.2.1 dX10_sizeBy_21 (by decide) ?_
      refine lv_icmp_ge (tgt := 30) X.1 X.2.1 dX10_sizeBy_23 (by decide) (fun c_23 => ?_) (fun c_23 => ?_)
      · refine lv_iload_n X.1 X.2.1 dX10_sizeBy_30 rfl (lv_at hl 0 rfl) ?_
        refine lv_bipush (v := 61) X.1 X.2.1 dX10_sizeBy_31 (by decide) ?_
        refine lv_icmp_ge (tgt := 40) X.1 X.2.1 dX10_sizeBy_33 (by decide) (fun c_33 => ?_) (fun c_33 => ?_)
        · refine lv_iload_n X.1 X.2.1 dX10_sizeBy_40 rfl (lv_at hl 0 rfl) ?_
          refine lv_bipush (v := 63) X.1 X.2.1 dX10_sizeBy_41 (by decide) ?_
          refine lv_icmp_ge (tgt := 50) X.1 X.2.1 dX10_sizeBy_43 (by decide) (fun c_43 => ?_) (fun c_43 => ?_)
          · refine lv_bipush (v := 6) X.1 X.2.1 dX10_sizeBy_50 (by decide) ?_
            refine e_ip X hr S dX10_sizeBy_52 ?_
            show _ = nI (sizeOf q)
            unfold sizeOf
            rw [if_neg (Nat.not_lt.mpr ((nI_leI (a := 40) (by omega) (by omega)).mp c_3)), if_neg (Nat.not_lt.mpr ((nI_leI (a := 52) (by omega) (by omega)).mp c_13)), if_neg (Nat.not_lt.mpr ((nI_leI (a := 58) (by omega) (by omega)).mp c_23)), if_neg (Nat.not_lt.mpr ((nI_leI (a := 61) (by omega) (by omega)).mp c_33)), if_neg (Nat.not_lt.mpr ((nI_leI (a := 63) (by omega) (by omega)).mp c_43))]
            rfl
          · refine lv_iconst (v := 5) X.1 X.2.1 dX10_sizeBy_46 (by decide) ?_
            refine lv_goto (tgt := 52) X.1 X.2.1 dX10_sizeBy_47 (by decide) ?_
            refine e_ip X hr S dX10_sizeBy_52 ?_
            show _ = nI (sizeOf q)
            unfold sizeOf
            rw [if_neg (Nat.not_lt.mpr ((nI_leI (a := 40) (by omega) (by omega)).mp c_3)), if_neg (Nat.not_lt.mpr ((nI_leI (a := 52) (by omega) (by omega)).mp c_13)), if_neg (Nat.not_lt.mpr ((nI_leI (a := 58) (by omega) (by omega)).mp c_23)), if_neg (Nat.not_lt.mpr ((nI_leI (a := 61) (by omega) (by omega)).mp c_33)), if_pos (Nat.lt_of_not_le (fun z => c_43 (nI_le z (by omega))))]
            rfl
        · refine lv_iconst (v := 4) X.1 X.2.1 dX10_sizeBy_36 (by decide) ?_
          refine lv_goto (tgt := 52) X.1 X.2.1 dX10_sizeBy_37 (by decide) ?_
          refine e_ip X hr S dX10_sizeBy_52 ?_
          show _ = nI (sizeOf q)
          unfold sizeOf
          rw [if_neg (Nat.not_lt.mpr ((nI_leI (a := 40) (by omega) (by omega)).mp c_3)), if_neg (Nat.not_lt.mpr ((nI_leI (a := 52) (by omega) (by omega)).mp c_13)), if_neg (Nat.not_lt.mpr ((nI_leI (a := 58) (by omega) (by omega)).mp c_23)), if_pos (Nat.lt_of_not_le (fun z => c_33 (nI_le z (by omega))))]
          rfl
      · refine lv_iconst (v := 3) X.1 X.2.1 dX10_sizeBy_26 (by decide) ?_
        refine lv_goto (tgt := 52) X.1 X.2.1 dX10_sizeBy_27 (by decide) ?_
        refine e_ip X hr S dX10_sizeBy_52 ?_
        show _ = nI (sizeOf q)
        unfold sizeOf
        rw [if_neg (Nat.not_lt.mpr ((nI_leI (a := 40) (by omega) (by omega)).mp c_3)), if_neg (Nat.not_lt.mpr ((nI_leI (a := 52) (by omega) (by omega)).mp c_13)), if_pos (Nat.lt_of_not_le (fun z => c_23 (nI_le z (by omega))))]
        rfl
    · refine lv_iconst (v := 2) X.1 X.2.1 dX10_sizeBy_16 (by decide) ?_
      refine lv_goto (tgt := 52) X.1 X.2.1 dX10_sizeBy_17 (by decide) ?_
      refine e_ip X hr S dX10_sizeBy_52 ?_
      show _ = nI (sizeOf q)
      unfold sizeOf
      rw [if_neg (Nat.not_lt.mpr ((nI_leI (a := 40) (by omega) (by omega)).mp c_3)), if_pos (Nat.lt_of_not_le (fun z => c_13 (nI_le z (by omega))))]
      rfl
  · refine lv_iconst (v := 1) X.1 X.2.1 dX10_sizeBy_6 (by decide) ?_
    refine lv_goto (tgt := 52) X.1 X.2.1 dX10_sizeBy_7 (by decide) ?_
    refine e_ip X hr S dX10_sizeBy_52 ?_
    show _ = nI (sizeOf q)
    unfold sizeOf
    rw [if_pos (Nat.lt_of_not_le (fun z => c_3 (nI_le z (by omega))))]
    rfl
