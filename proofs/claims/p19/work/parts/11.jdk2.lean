/-! the JDK's lists: they grow, and take -/
set_option maxRecDepth 100000 in
set_option maxHeartbeats 4000000 in
/-- copyOf: a longer array -/
theorem m_copy3 (l : Launch) (G : cx_G) (f : Wd) (arr t n n2 : Nat) (h : Nat → Option Nat) (ht : t ≠ 9999) (ha : f arr = some (t, eO G n h)) (hn : n ≤ n2) (hn2 : n2 ≤ 300) (hel : ∀ i, i < n → ∀ y, h i = some y → elO f y) : MR l G yJ7_copyOf_6403c wsJ7_copyOf_6403c 1 60 1 n2 [.ref arr, .int (nI n2), .ref (gM G)] f (fun r f' => f r = none ∧ f' = wu f r t (eO G n2 (va_cpy h (fun _ => none) 0 0 n))) := by
  refine cx_body (cc := cJ7_copyOf_6403c) (n := 4) (ret := (some (.array (.object "java/lang/Object")))) (by decide +kernel) rfl (Nat.le_of_ble_eq_true rfl) ?_
  intro p0 e0 s0 m0 b0 meth0 c0 ls X hr hnm S hl
  have X : cxC G p0 l _ c0 cJ7_copyOf_6403c 4 m0 meth0 s0 _ RJ7 wsJ7_copyOf_6403c := X
  have hl : lv_has ls 4 [(0, .ref arr), (1, .int (nI n2)), (2, .ref (gM G))] := hl
  refine lv_aload_n X.1 X.2.1 dJ7_copyOf_6403c_0 rfl (lv_at hl 2 rfl) ?_
  refine r_ldcM X (by decide +kernel) dJ7_copyOf_6403c_1 ?_
  refine lv_acmp_ne (rx := some (gM G)) (ry := some (gM G)) (tgt := 13) X.1 X.2.1 dJ7_copyOf_6403c_3 (by decide) (fun c => absurd rfl c) (fun _ => ?_)
  refine lv_iload_n X.1 X.2.1 dJ7_copyOf_6403c_6 rfl (lv_at hl 1 rfl) ?_
  refine r_newO (N' := n2) X S t ht (by decide +kernel) (nI_pos (by omega)) (nI_clamp (by omega)) (by omega) (Nat.le_of_ble_eq_true rfl) (by show 0 + n2 ≤ n2; omega) dJ7_copyOf_6403c_7 (fun q_7 H hn_q_7 S => ?_)
  obtain ⟨f_7, ef_7⟩ : ∃ z9 : Wd, z9 = wu f q_7 t (eO G n2 (fun _ => none)) := ⟨_, rfl⟩
  rw [← ef_7] at S
  have ha_7 : f_7 arr = some (t, eO G n h) := by rw [ef_7]; exact wu_new hn_q_7 ha
  have hNq7 : f_7 q_7 = some (t, eO G n2 (fun _ => none)) := by rw [ef_7]; exact wu_self _ _ _ _
  refine lv_goto (tgt := 24) X.1 X.2.1 dJ7_copyOf_6403c_10 (by decide) ?_
  refine lv_astore_n (lv' := [(3, .ref q_7), (0, .ref arr), (1, .int (nI n2)), (2, .ref (gM G))]) X.1 X.2.1 dJ7_copyOf_6403c_24 rfl hl (by decide) rfl (fun ls hl => ?_)
  refine lv_aload_n X.1 X.2.1 dJ7_copyOf_6403c_25 rfl (lv_at hl 1 rfl) ?_
  refine lv_iconst (v := 0) X.1 X.2.1 dJ7_copyOf_6403c_26 (by decide) ?_
  refine lv_aload_n X.1 X.2.1 dJ7_copyOf_6403c_27 rfl (lv_at hl 0 rfl) ?_
  refine lv_iconst (v := 0) X.1 X.2.1 dJ7_copyOf_6403c_28 (by decide) ?_
  refine lv_aload_n X.1 X.2.1 dJ7_copyOf_6403c_29 rfl (lv_at hl 1 rfl) ?_
  refine r_alenO (v := nI n) X S ha_7 rfl dJ7_copyOf_6403c_30 ?_
  refine lv_iload_n X.1 X.2.1 dJ7_copyOf_6403c_31 rfl (lv_at hl 2 rfl) ?_
  refine r_min (v := nI n) X (by decide +kernel) (by decide +kernel) (by decide +kernel) (by decide +kernel) hl.1 (by exact Nat.le_of_ble_eq_true rfl) (by exact Nat.le_of_ble_eq_true rfl) (by exact Nat.le_of_ble_eq_true rfl) (by show 0 + n2 ≤ n2; omega) (by exact (if_neg (nI_nlt hn (by omega)))) dJ7_copyOf_6403c_32 ?_
  refine r_copyO X S hl.1 (by decide +kernel) (by decide +kernel) (by decide +kernel) (by decide +kernel) ha_7 ht hNq7 ht (by omega) (Nat.le_refl _) hn (fun i hi y hy => (hel i hi y hy).kept (fun t e h9 => by rw [ef_7]; exact wu_new hn_q_7 h9)) (Nat.le_of_ble_eq_true rfl) (show 0 + (nativeFrameWords "java/lang/System" "arraycopy" 5 + 11) ≤ 60 by decide +kernel) dJ7_copyOf_6403c_35 (fun H locs S => ?_)
  obtain ⟨f_35, ef_35⟩ : ∃ z9 : Wd, z9 = wu f_7 q_7 t (eO G n2 (va_cpy h (fun _ => none) 0 0 n)) := ⟨_, rfl⟩
  rw [← ef_35] at S
  have hNq7_35 : f_35 q_7 = some (t, eO G n2 (va_cpy h (fun _ => none) 0 0 n)) := by rw [ef_35]; exact wu_self _ _ _ _
  refine lv_aload_n X.1 X.2.1 dJ7_copyOf_6403c_38 rfl (lv_at hl 0 rfl) ?_
  refine e_r X hr (Or.inr ⟨_, rfl⟩) S (Nat.le_of_ble_eq_true rfl) (by show 0 + n2 ≤ n2; omega) dJ7_copyOf_6403c_39 ?_
  exact ⟨hn_q_7, by rw [ef_35, ef_7, wu_wu]⟩

set_option maxRecDepth 100000 in
set_option maxHeartbeats 4000000 in
/-- copyOf: a longer array -/
theorem m_copy2 (l : Launch) (G : cx_G) (f : Wd) (arr t n n2 : Nat) (h : Nat → Option Nat) (ht : t ≠ 9999) (ha : f arr = some (t, eO G n h)) (hn : n ≤ n2) (hn2 : n2 ≤ 300) (hel : ∀ i, i < n → ∀ y, h i = some y → elO f y) : MR l G yJ7_copyOf_1904c wsJ7_copyOf_1904c 2 83 1 n2 [.ref arr, .int (nI n2)] f (fun r f' => f r = none ∧ f' = wu f r t (eO G n2 (va_cpy h (fun _ => none) 0 0 n))) := by
  refine cx_body (cc := cJ7_copyOf_1904c) (n := 2) (ret := (some (.array (.object "java/lang/Object")))) (by decide +kernel) rfl (Nat.le_of_ble_eq_true rfl) ?_
  intro p0 e0 s0 m0 b0 meth0 c0 ls X hr hnm S hl
  have X : cxC G p0 l _ c0 cJ7_copyOf_1904c 2 m0 meth0 s0 _ RJ7 wsJ7_copyOf_1904c := X
  have hl : lv_has ls 2 [(0, .ref arr), (1, .int (nI n2))] := hl
  refine lv_aload_n X.1 X.2.1 dJ7_copyOf_1904c_0 rfl (lv_at hl 0 rfl) ?_
  refine lv_iload_n X.1 X.2.1 dJ7_copyOf_1904c_1 rfl (lv_at hl 1 rfl) ?_
  refine lv_aload_n X.1 X.2.1 dJ7_copyOf_1904c_2 rfl (lv_at hl 0 rfl) ?_
  refine r_getC X S hl.1 (by decide +kernel) (by decide +kernel) (by decide +kernel) (by decide +kernel) ha ht (Nat.le_of_ble_eq_true rfl) (Nat.le_of_ble_eq_true rfl) dJ7_copyOf_1904c_3 ?_
  refine call_r (run_S X S (m_copy3 l G f arr t n n2 h ht ha hn hn2 hel) 3 gJ7_copyOf_1904c_J7_copyOf_6403c rfl rfl rfl (by decide +kernel) ⟨(by exact Nat.le_of_ble_eq_true rfl), (by exact Nat.le_of_ble_eq_true rfl)⟩ rfl hl.1 rfl (by exact Nat.le_of_ble_eq_true rfl) dJ7_copyOf_1904c_6 ⟨(by exact Nat.le_of_ble_eq_true rfl), (by show 0 + n2 ≤ n2; omega)⟩) S (fun r_6 f_6 H locs hr_6 S => ?_)
  refine e_r X hr (Or.inr ⟨_, rfl⟩) S (Nat.le_of_ble_eq_true rfl) (by show 0 + n2 ≤ n2; omega) dJ7_copyOf_1904c_9 ?_
  exact hr_6

set_option maxRecDepth 100000 in
set_option maxHeartbeats 4000000 in
/-- grow(size + 1) of a full array -/
theorem m_grow1 (l : Launch) (G : cx_G) (f : Wd) (L arr t ta n : Nat) (mm : Int32) (h : Nat → Option Nat) (ht : t ≠ 9999) (hL : f L = some (t, .inr (0, [.int mm, .ref arr, .int (nI n)]))) (ha : f arr = some (ta, eO G n h)) (hc : (n = 0 ∧ arr = gd G) ∨ (ta = t ∧ 10 ≤ n ∧ n ≤ 200)) (hel : ∀ i, i < n → ∀ y, h i = some y → elO f y) : MR l G yJx4a65c_grow_92f84 wsJx4a65c_grow_92f84 3 104 1 300 [.ref L, .int (nI (n + 1))] f (fun r f' => ∃ (cap2 : Nat) (h2 : Nat → Option Nat), f r = none ∧ f' = wu (wu f r t (eO G cap2 h2)) L t (.inr (0, [.int mm, .ref r, .int (nI n)])) ∧ n + 1 ≤ cap2 ∧ 10 ≤ cap2 ∧ cap2 ≤ 300 ∧ ∀ i, i < n → h2 i = h i) := by
  refine cx_body (cc := cJx4a65c_grow_92f84) (n := 4) (ret := (some (.array (.object "java/lang/Object")))) (by decide +kernel) rfl (Nat.le_of_ble_eq_true rfl) ?_
  intro p0 e0 s0 m0 b0 meth0 c0 ls X hr hnm S hl
  have X : cxC G p0 l _ c0 cJx4a65c_grow_92f84 4 m0 meth0 s0 _ RJx4a65c wsJx4a65c_grow_92f84 := X
  have hl : lv_has ls 4 [(0, .ref L), (1, .int (nI (n + 1)))] := hl
  have in_RJx4a65c : ∀ w ∈ u_ws RJx4a65c TJx4a65c 3, w ∈ wsJx4a65c_grow_92f84 := by decide +kernel
  have hnb : n ≤ 200 := by omega
  refine lv_aload_n X.1 X.2.1 dJx4a65c_grow_92f84_0 rfl (lv_at hl 0 rfl) ?_
  refine r_get (C := RJx4a65c) (T := TJx4a65c) (N := 3) (ref := "java/util/ArrayList") X S in_RJx4a65c hL rfl 1 (by decide) (by decide +kernel) (fun _ h => h) rfl dJx4a65c_grow_92f84_1 ?_
  refine r_alenO (v := nI n) X S ha rfl dJx4a65c_grow_92f84_4 ?_
  refine lv_istore_n (lv' := [(2, .int (nI n)), (0, .ref L), (1, .int (nI (n + 1)))]) X.1 X.2.1 dJx4a65c_grow_92f84_5 rfl hl (by decide) rfl (fun ls hl => ?_)
  refine lv_iload_n X.1 X.2.1 dJx4a65c_grow_92f84_6 rfl (lv_at hl 0 rfl) ?_
  refine lv_if_gt (tgt := 20) X.1 X.2.1 dJx4a65c_grow_92f84_7 (by decide) (fun c_7 => ?_) (fun c_7 => ?_)
  · have hpos : 0 < n := by
      rcases Nat.eq_zero_or_pos n with q | q
      · rw [q] at c_7; exact absurd c_7 (by decide)
      · exact q
    have hc2 : ta = t ∧ 10 ≤ n ∧ n ≤ 200 := by omega
    obtain ⟨rfl, hn10, hn200⟩ := hc2
    refine lv_iload_n X.1 X.2.1 dJx4a65c_grow_92f84_20 rfl (lv_at hl 0 rfl) ?_
    refine lv_iload_n X.1 X.2.1 dJx4a65c_grow_92f84_21 rfl (lv_at hl 2 rfl) ?_
    refine lv_iload_n X.1 X.2.1 dJx4a65c_grow_92f84_22 rfl (lv_at hl 0 rfl) ?_
    refine lv_isub X.1 X.2.1 dJx4a65c_grow_92f84_23 ?_
    refine r_toi (y := nI 1) (by rw [pk_sub (by omega), Nat.add_sub_cancel_left]) ?_
    refine lv_iload_n X.1 X.2.1 dJx4a65c_grow_92f84_24 rfl (lv_at hl 0 rfl) ?_
    refine lv_iconst (v := 1) X.1 X.2.1 dJx4a65c_grow_92f84_25 (by decide) ?_
    refine lv_ishr X.1 X.2.1 dJx4a65c_grow_92f84_26 ?_
    refine r_toi (y := nI (n / 2)) (by have k := pk_shrN (n := n) (by omega) ((1 : Int32) &&& 31) 1 (by decide); rw [Nat.pow_one] at k; exact k) ?_
    refine call_ip (run_S X S (m_newLen l G f n (by omega) (by omega)) 3 gJx4a65c_grow_92f84_J8_newLength_cabcc rfl rfl rfl (by decide +kernel) ⟨(by exact Nat.le_of_ble_eq_true rfl), (by exact Nat.le_of_ble_eq_true rfl)⟩ rfl hl.1 rfl (by exact Nat.le_of_ble_eq_true rfl) dJx4a65c_grow_92f84_27 ⟨(Nat.zero_le _), (Nat.zero_le _)⟩) S (fun r_27 H locs hr_27 S => ?_)
    subst hr_27
    refine lv_istore_n (lv' := [(3, .int (nI (n + n / 2))), (2, .int (nI n)), (0, .ref L), (1, .int (nI (n + 1)))]) X.1 X.2.1 dJx4a65c_grow_92f84_30 rfl hl (by decide) rfl (fun ls hl => ?_)
    refine lv_aload_n X.1 X.2.1 dJx4a65c_grow_92f84_31 rfl (lv_at hl 2 rfl) ?_
    refine lv_aload_n X.1 X.2.1 dJx4a65c_grow_92f84_32 rfl (lv_at hl 2 rfl) ?_
    refine r_get (C := RJx4a65c) (T := TJx4a65c) (N := 3) (ref := "java/util/ArrayList") X S in_RJx4a65c hL rfl 1 (by decide) (by decide +kernel) (fun _ h => h) rfl dJx4a65c_grow_92f84_33 ?_
    refine lv_iload_n X.1 X.2.1 dJx4a65c_grow_92f84_36 rfl (lv_at hl 0 rfl) ?_
    refine call_r (run_S X S (m_copy2 l G f arr ta n (n + n / 2) h ht ha (by omega) (by omega) hel) 2 gJx4a65c_grow_92f84_J7_copyOf_1904c rfl rfl rfl (by decide +kernel) ⟨(by exact Nat.le_of_ble_eq_true rfl), (by exact Nat.le_of_ble_eq_true rfl)⟩ rfl hl.1 rfl (by exact Nat.le_of_ble_eq_true rfl) dJx4a65c_grow_92f84_37 ⟨(by exact Nat.le_of_ble_eq_true rfl), (by show 0 + (n + n / 2) ≤ 300; omega)⟩) S (fun r_37 f_37 H locs hr_37 S => ?_)
    obtain ⟨hq1, hq2⟩ := hr_37
    have hL_37 : f_37 L = some (ta, .inr (0, [.int mm, .ref arr, .int (nI n)])) := by rw [hq2]; exact wu_new hq1 hL
    refine lv_dup_x1 X.1 X.2.1 dJx4a65c_grow_92f84_40 rfl rfl ?_
    refine r_put (C := RJx4a65c) (T := TJx4a65c) (N := 3) (ref := "java/util/ArrayList") (fs' := [.int mm, .ref r_37, .int (nI n)]) (ty := .array (.object "java/lang/Object")) X S in_RJx4a65c tyJx4a65c tyJx4a65c_ok nmJx4a65c hL_37 (by omega) rfl 1 (by decide) (by decide +kernel) (fun _ h => h) rfl (by decide +kernel) rfl rfl (Nat.le_of_ble_eq_true rfl) rfl dJx4a65c_grow_92f84_41 (fun H locs S => ?_)
    obtain ⟨f_41, ef_41⟩ : ∃ z9 : Wd, z9 = wu f_37 L ta (.inr (0, [.int mm, .ref r_37, .int (nI n)])) := ⟨_, rfl⟩
    rw [← ef_41] at S
    have hL_41 : f_41 L = some (ta, .inr (0, [.int mm, .ref r_37, .int (nI n)])) := by rw [ef_41]; exact wu_self _ _ _ _
    refine e_r X hr (Or.inr ⟨_, rfl⟩) S (Nat.le_of_ble_eq_true rfl) (by first | exact Nat.le_of_ble_eq_true rfl | (show 0 + (n + n / 2) ≤ 300; omega)) dJx4a65c_grow_92f84_44 ?_
    exact ⟨n + n / 2, va_cpy h (fun _ => none) 0 0 n, hq1, by rw [ef_41, hq2], by omega, by omega, by omega, fun i hi => by rw [pk_cpy_in (Nat.zero_le _) (by omega)]; simp⟩
  · have hn0 : n = 0 := by
      rcases Nat.eq_zero_or_pos n with q | q
      · exact q
      · exact absurd (nI_lt (a := 0) q (by omega)) c_7
    have harr : arr = gd G := by omega
    have hta : ta = 9999 := by
      have q := S.1.2.2.1
      rw [← harr, ha] at q
      exact (Prod.mk.inj (Option.some.inj q)).1
    refine lv_aload_n X.1 X.2.1 dJx4a65c_grow_92f84_10 rfl (lv_at hl 1 rfl) ?_
    refine r_get (C := RJx4a65c) (T := TJx4a65c) (N := 3) (ref := "java/util/ArrayList") X S in_RJx4a65c hL rfl 1 (by decide) (by decide +kernel) (fun _ h => h) rfl dJx4a65c_grow_92f84_11 ?_
    refine r_gets X S rfl (by decide +kernel) dJx4a65c_grow_92f84_14 ?_
    refine lv_acmp_eq (rx := some arr) (ry := some (gd G)) (tgt := 45) X.1 X.2.1 dJx4a65c_grow_92f84_17 (by decide) (fun _ => ?_) (fun c => absurd (by rw [harr]) c)
    refine lv_aload_n X.1 X.2.1 dJx4a65c_grow_92f84_45 rfl (lv_at hl 1 rfl) ?_
    refine lv_bipush (v := 10) X.1 X.2.1 dJx4a65c_grow_92f84_46 (by decide) ?_
    refine lv_iload_n X.1 X.2.1 dJx4a65c_grow_92f84_48 rfl (lv_at hl 2 rfl) ?_
    refine r_max (v := 10) X (by decide +kernel) (by decide +kernel) (by decide +kernel) (by decide +kernel) hl.1 (by exact Nat.le_of_ble_eq_true rfl) (by exact Nat.le_of_ble_eq_true rfl) (Nat.zero_le _) (Nat.zero_le _) (by exact (by rw [hn0]; decide)) dJx4a65c_grow_92f84_49 ?_
    refine r_newO (N' := 10) X S t ht (by decide +kernel) (by decide) (by decide) (by decide) (Nat.le_of_ble_eq_true rfl) (Nat.le_of_ble_eq_true rfl) dJx4a65c_grow_92f84_52 (fun q_52 H hn_q_52 S => ?_)
    obtain ⟨f_52, ef_52⟩ : ∃ z9 : Wd, z9 = wu f q_52 t (eO G 10 (fun _ => none)) := ⟨_, rfl⟩
    rw [← ef_52] at S
    have hL_52 : f_52 L = some (t, .inr (0, [.int mm, .ref arr, .int (nI n)])) := by rw [ef_52]; exact wu_new hn_q_52 hL
    have ha_52 : f_52 arr = some (ta, eO G n h) := by rw [ef_52]; exact wu_new hn_q_52 ha
    have hNq52 : f_52 q_52 = some (t, eO G 10 (fun _ => none)) := by rw [ef_52]; exact wu_self _ _ _ _
    refine lv_dup_x1 X.1 X.2.1 dJx4a65c_grow_92f84_55 rfl rfl ?_
    refine r_put (C := RJx4a65c) (T := TJx4a65c) (N := 3) (ref := "java/util/ArrayList") (fs' := [.int mm, .ref q_52, .int (nI n)]) (ty := .array (.object "java/lang/Object")) X S in_RJx4a65c tyJx4a65c tyJx4a65c_ok nmJx4a65c hL_52 (by omega) rfl 1 (by decide) (by decide +kernel) (fun _ h => h) rfl (by decide +kernel) rfl rfl (Nat.le_of_ble_eq_true rfl) rfl dJx4a65c_grow_92f84_56 (fun H locs S => ?_)
    obtain ⟨f_56, ef_56⟩ : ∃ z9 : Wd, z9 = wu f_52 L t (.inr (0, [.int mm, .ref q_52, .int (nI n)])) := ⟨_, rfl⟩
    rw [← ef_56] at S
    have hL_56 : f_56 L = some (t, .inr (0, [.int mm, .ref q_52, .int (nI n)])) := by rw [ef_56]; exact wu_self _ _ _ _
    have ha_56 : f_56 arr = some (ta, eO G n h) := by rw [ef_56]; exact wu_get hL_52 ha_52 (by omega)
    have hNq52_56 : f_56 q_52 = some (t, eO G 10 (fun _ => none)) := by rw [ef_56]; exact wu_gk hL_52 hNq52 (fun h => by cases h)
    refine e_r X hr (Or.inr ⟨_, rfl⟩) S (Nat.le_of_ble_eq_true rfl) (by first | exact Nat.le_of_ble_eq_true rfl | (show 0 + (n + n / 2) ≤ 300; omega)) dJx4a65c_grow_92f84_59 ?_
    exact ⟨10, fun _ => none, hn_q_52, by rw [ef_56, ef_52], by omega, by omega, by omega, fun i hi => by omega⟩

set_option maxRecDepth 100000 in
set_option maxHeartbeats 4000000 in
/-- grow() of a full array -/
theorem m_grow0 (l : Launch) (G : cx_G) (f : Wd) (L arr t ta n : Nat) (mm : Int32) (h : Nat → Option Nat) (ht : t ≠ 9999) (hL : f L = some (t, .inr (0, [.int mm, .ref arr, .int (nI n)]))) (ha : f arr = some (ta, eO G n h)) (hc : (n = 0 ∧ arr = gd G) ∨ (ta = t ∧ 10 ≤ n ∧ n ≤ 200)) (hel : ∀ i, i < n → ∀ y, h i = some y → elO f y) : MR l G yJx4a65c_grow_d5877 wsJx4a65c_grow_d5877 4 127 1 300 [.ref L] f (fun r f' => ∃ (cap2 : Nat) (h2 : Nat → Option Nat), f r = none ∧ f' = wu (wu f r t (eO G cap2 h2)) L t (.inr (0, [.int mm, .ref r, .int (nI n)])) ∧ n + 1 ≤ cap2 ∧ 10 ≤ cap2 ∧ cap2 ≤ 300 ∧ ∀ i, i < n → h2 i = h i) := by
  refine cx_body (cc := cJx4a65c_grow_d5877) (n := 1) (ret := (some (.array (.object "java/lang/Object")))) (by decide +kernel) rfl (Nat.le_of_ble_eq_true rfl) ?_
  intro p0 e0 s0 m0 b0 meth0 c0 ls X hr hnm S hl
  have X : cxC G p0 l _ c0 cJx4a65c_grow_d5877 1 m0 meth0 s0 _ RJx4a65c wsJx4a65c_grow_d5877 := X
  have hl : lv_has ls 1 [(0, .ref L)] := hl
  have in_RJx4a65c : ∀ w ∈ u_ws RJx4a65c TJx4a65c 3, w ∈ wsJx4a65c_grow_d5877 := by decide +kernel
  refine lv_aload_n X.1 X.2.1 dJx4a65c_grow_d5877_0 rfl (lv_at hl 0 rfl) ?_
  refine lv_aload_n X.1 X.2.1 dJx4a65c_grow_d5877_1 rfl (lv_at hl 0 rfl) ?_
  refine r_get (C := RJx4a65c) (T := TJx4a65c) (N := 3) (ref := "java/util/ArrayList") X S in_RJx4a65c hL rfl 2 (by decide) (by decide +kernel) (fun _ h => h) rfl dJx4a65c_grow_d5877_2 ?_
  refine lv_iconst (v := 1) X.1 X.2.1 dJx4a65c_grow_d5877_5 (by decide) ?_
  refine lv_iadd X.1 X.2.1 dJx4a65c_grow_d5877_6 ?_
  refine r_toi (nI_1 n) ?_
  refine call_r (run_V X S (m_grow1 l G f L arr t ta n mm h ht hL ha hc hel) 1 gJx4a65c_grow_d5877_Jx4a65c_grow_92f84 rfl rfl rfl (by decide +kernel) ⟨(by exact Nat.le_of_ble_eq_true rfl), (by exact Nat.le_of_ble_eq_true rfl)⟩ ⟨_, _, hL⟩ rfl rfl rfl hl.1 rfl (by exact Nat.le_of_ble_eq_true rfl) dJx4a65c_grow_d5877_7 ⟨(by exact Nat.le_of_ble_eq_true rfl), (by exact Nat.le_of_ble_eq_true rfl)⟩) S (fun r_7 f_7 H locs hr_7 S => ?_)
  refine e_r X hr (Or.inr ⟨_, rfl⟩) S (Nat.le_of_ble_eq_true rfl) (Nat.le_of_ble_eq_true rfl) dJx4a65c_grow_d5877_10 ?_
  exact hr_7

set_option maxRecDepth 100000 in
set_option maxHeartbeats 4000000 in
/-- add at the end -/
theorem m_add3 (l : Launch) (G : cx_G) (f : Wd) (L t n v : Nat) (g : Nat → Nat) (ht : t ≠ 9999) (hn : n < 200) (hel : ∀ i, i < n → elO f (g i)) (hv : elO f v) (arr cap : Nat) (mm : Int32) (h : Nat → Option Nat) (hL : f L = some (t, .inr (0, [.int mm, .ref arr, .int (nI n)]))) (h0 : ∀ i, i < n → h i = some (g i)) (hc : (n = 0 ∧ arr = gd G) ∨ (f arr = some (t, eO G cap h) ∧ n ≤ cap ∧ 10 ≤ cap ∧ cap ≤ 300)) : MV l G yJx4a65c_add_72be8 wsJx4a65c_add_72be8 5 147 1 300 [.ref L, .ref v, .ref arr, .int (nI n)] f (fun f' => LRx G f' L t (n + 1) (va_up g n v) ∧ md (fun x => x = t) f f') := by
  refine cx_body (cc := cJx4a65c_add_72be8) (n := 4) (ret := none) (by decide +kernel) rfl (Nat.le_of_ble_eq_true rfl) ?_
  intro p0 e0 s0 m0 b0 meth0 c0 ls X hr hnm S hl
  have X : cxC G p0 l _ c0 cJx4a65c_add_72be8 4 m0 meth0 s0 _ RJx4a65c wsJx4a65c_add_72be8 := X
  have hl : lv_has ls 4 [(0, .ref L), (1, .ref v), (2, .ref arr), (3, .int (nI n))] := hl
  have in_RJx4a65c : ∀ w ∈ u_ws RJx4a65c TJx4a65c 3, w ∈ wsJx4a65c_add_72be8 := by decide +kernel
  obtain ⟨tv, vci, vvs, vr, hv1, hv2, hv3⟩ := id hv
  obtain ⟨ta, cap2, h2, ha, hk⟩ : ∃ (ta cap2 : Nat) (h2 : Nat → Option Nat), f arr = some (ta, eO G cap2 h2) ∧ ((n = 0 ∧ arr = gd G ∧ cap2 = 0) ∨ (ta = t ∧ cap2 = cap ∧ h2 = h ∧ n ≤ cap ∧ 10 ≤ cap ∧ cap ≤ 300)) := by
    rcases hc with hc | hc
    · refine ⟨9999, 0, fun _ => none, ?_, Or.inl ⟨hc.1, hc.2, rfl⟩⟩
      rw [hc.2]
      exact S.1.2.2.1
    · exact ⟨t, cap, h, hc.1, Or.inr ⟨rfl, rfl, rfl, hc.2⟩⟩
  have hcap : cap2 ≤ 300 := by
    rcases hk with hk | hk
    · omega
    · obtain ⟨-, q, -, -, -, q2⟩ := hk
      omega
  have h02 : ∀ i, i < n → h2 i = some (g i) := fun i hi => by
    rcases hk with hk | hk
    · omega
    · rw [hk.2.2.1]; exact h0 i hi
  have hel2 : ∀ i, i < n → ∀ y, h2 i = some y → elO f y := fun i hi y hy => by
    rw [h02 i hi] at hy
    cases hy
    exact hel i hi
  have hvne : v ≠ L := fun q => by
    rw [q, hL] at hv1
    cases hv1
    cases hv2
    exact absurd hv3 (by decide +kernel)
  refine lv_iload_n X.1 X.2.1 dJx4a65c_add_72be8_0 rfl (lv_at hl 3 rfl) ?_
  refine lv_aload_n X.1 X.2.1 dJx4a65c_add_72be8_1 rfl (lv_at hl 2 rfl) ?_
  refine r_alenO (v := nI cap2) X S ha rfl dJx4a65c_add_72be8_2 ?_
  refine lv_icmp_ne (tgt := 11) X.1 X.2.1 dJx4a65c_add_72be8_3 (by decide) (fun c_3 => ?_) (fun c_3 => ?_)
  · have hne : n ≠ cap2 := fun q => c_3 (by rw [q])
    have hk2 : ta = t ∧ cap2 = cap ∧ h2 = h ∧ n ≤ cap ∧ 10 ≤ cap ∧ cap ≤ 300 := by
      rcases hk with hk | hk
      · omega
      · exact hk
    obtain ⟨rfl, rfl, rfl, hk3⟩ := hk2
    have hlt : n < cap2 := by omega
    refine lv_aload_n X.1 X.2.1 dJx4a65c_add_72be8_11 rfl (lv_at hl 2 rfl) ?_
    refine lv_iload_n X.1 X.2.1 dJx4a65c_add_72be8_12 rfl (lv_at hl 3 rfl) ?_
    refine lv_aload_n X.1 X.2.1 dJx4a65c_add_72be8_13 rfl (lv_at hl 1 rfl) ?_
    refine r_aast X S ha ht hv1 hv2 hv3 (vp_in_nI (by omega) (by omega)) dJx4a65c_add_72be8_14 (fun H locs S => ?_)
    rw [nI_clamp (by omega)] at S
    obtain ⟨f_14, ef_14⟩ : ∃ z9 : Wd, z9 = wu f arr ta (eO G cap2 (va_up h2 n (some v))) := ⟨_, rfl⟩
    rw [← ef_14] at S
    have hL_14 : f_14 L = some (ta, .inr (0, [.int mm, .ref arr, .int (nI n)])) := by rw [ef_14]; exact wu_gk ha hL (fun h => by cases h)
    have ha_14 : f_14 arr = some (ta, eO G cap2 (va_up h2 n (some v))) := by rw [ef_14]; exact wu_self _ _ _ _
    refine lv_aload_n X.1 X.2.1 dJx4a65c_add_72be8_15 rfl (lv_at hl 0 rfl) ?_
    refine lv_iload_n X.1 X.2.1 dJx4a65c_add_72be8_16 rfl (lv_at hl 3 rfl) ?_
    refine lv_iconst (v := 1) X.1 X.2.1 dJx4a65c_add_72be8_17 (by decide) ?_
    refine lv_iadd X.1 X.2.1 dJx4a65c_add_72be8_18 ?_
    refine r_toi (nI_1 n) ?_
    refine r_put (C := RJx4a65c) (T := TJx4a65c) (N := 3) (ref := "java/util/ArrayList") (fs' := [.int mm, .ref arr, .int (nI (n + 1))]) (ty := .int) X S in_RJx4a65c tyJx4a65c tyJx4a65c_ok nmJx4a65c hL_14 (by omega) rfl 2 (by decide) (by decide +kernel) (fun _ h => h) rfl (by decide +kernel) rfl rfl (Nat.le_of_ble_eq_true rfl) rfl dJx4a65c_add_72be8_19 (fun H locs S => ?_)
    obtain ⟨f_19, ef_19⟩ : ∃ z9 : Wd, z9 = wu f_14 L ta (.inr (0, [.int mm, .ref arr, .int (nI (n + 1))])) := ⟨_, rfl⟩
    rw [← ef_19] at S
    have hL_19 : f_19 L = some (ta, .inr (0, [.int mm, .ref arr, .int (nI (n + 1))])) := by rw [ef_19]; exact wu_self _ _ _ _
    have ha_19 : f_19 arr = some (ta, eO G cap2 (va_up h2 n (some v))) := by rw [ef_19]; exact wu_gk hL_14 ha_14 (fun h => by cases h)
    refine e_v X hr S (Nat.le_of_ble_eq_true rfl) (Nat.le_of_ble_eq_true rfl) dJx4a65c_add_72be8_22 ?_
    refine ⟨⟨mm, arr, cap2, va_up h2 n (some v), hL_19, add_el h02, Or.inr ⟨ha_19, by omega, by omega, by omega⟩⟩, ?_⟩
    rw [ef_19, ef_14]
    exact md_tr (md_put ha) (md_put (by rw [← ef_14]; exact hL_14)) (fun _ q => q) (fun _ q => q)
  · have heq : n = cap2 := (nI_eq (by omega) (by omega)).mp c_3
    subst heq
    have hcc : (n = 0 ∧ arr = gd G) ∨ (ta = t ∧ 10 ≤ n ∧ n ≤ 200) := by
      rcases hk with hk | hk
      · exact Or.inl ⟨hk.1, hk.2.1⟩
      · exact Or.inr ⟨hk.1, by omega, by omega⟩
    refine lv_aload_n X.1 X.2.1 dJx4a65c_add_72be8_6 rfl (lv_at hl 0 rfl) ?_
    refine call_r (run_V X S (m_grow0 l G f L arr t ta n mm h2 ht hL ha hcc hel2) 0 gJx4a65c_add_72be8_Jx4a65c_grow_d5877 rfl rfl rfl (by decide +kernel) ⟨(by exact Nat.le_of_ble_eq_true rfl), (by exact Nat.le_of_ble_eq_true rfl)⟩ ⟨_, _, hL⟩ rfl rfl rfl hl.1 rfl (by exact Nat.le_of_ble_eq_true rfl) dJx4a65c_add_72be8_7 ⟨(by exact Nat.le_of_ble_eq_true rfl), (by exact Nat.le_of_ble_eq_true rfl)⟩) S (fun r_7 f_7 H locs hr_7 S => ?_)
    obtain ⟨cap3, h3, hq1, hq2, hq3, hq4, hq5, hq6⟩ := hr_7
    have hL_7 : f_7 L = some (t, .inr (0, [.int mm, .ref r_7, .int (nI n)])) := by rw [hq2]; exact wu_self _ _ _ _
    have hLw : wu f r_7 t (eO G cap3 h3) L = some (t, .inr (0, [.int mm, .ref arr, .int (nI n)])) := wu_new hq1 hL
    have hrL : r_7 ≠ L := fun q => by rw [q, hL] at hq1; cases hq1
    have ha_7 : f_7 r_7 = some (t, eO G cap3 h3) := by rw [hq2, wu_ne _ _ _ hrL]; exact wu_self _ _ _ _
    have hvL : v ≠ L := hvne
    have hv1_7 : f_7 v = some (tv, .inr (vci, vvs)) := by rw [hq2, wu_ne _ _ _ hvL]; exact wu_new hq1 hv1
    refine lv_astore_n (lv' := [(2, .ref r_7), (0, .ref L), (1, .ref v), (3, .int (nI n))]) X.1 X.2.1 dJx4a65c_add_72be8_10 rfl hl (by decide) rfl (fun ls hl => ?_)
    refine lv_aload_n X.1 X.2.1 dJx4a65c_add_72be8_11 rfl (lv_at hl 0 rfl) ?_
    refine lv_iload_n X.1 X.2.1 dJx4a65c_add_72be8_12 rfl (lv_at hl 3 rfl) ?_
    refine lv_aload_n X.1 X.2.1 dJx4a65c_add_72be8_13 rfl (lv_at hl 2 rfl) ?_
    refine r_aast X S ha_7 ht hv1_7 hv2 hv3 (vp_in_nI (by omega) (by omega)) dJx4a65c_add_72be8_14 (fun H locs S => ?_)
    rw [nI_clamp (by omega)] at S
    obtain ⟨f_14, ef_14⟩ : ∃ z9 : Wd, z9 = wu f_7 r_7 t (eO G cap3 (va_up h3 n (some v))) := ⟨_, rfl⟩
    rw [← ef_14] at S
    have hL_14 : f_14 L = some (t, .inr (0, [.int mm, .ref r_7, .int (nI n)])) := by rw [ef_14]; exact wu_gk ha_7 hL_7 (fun h => by cases h)
    have ha_14 : f_14 r_7 = some (t, eO G cap3 (va_up h3 n (some v))) := by rw [ef_14]; exact wu_self _ _ _ _
    refine lv_aload_n X.1 X.2.1 dJx4a65c_add_72be8_15 rfl (lv_at hl 1 rfl) ?_
    refine lv_iload_n X.1 X.2.1 dJx4a65c_add_72be8_16 rfl (lv_at hl 3 rfl) ?_
    refine lv_iconst (v := 1) X.1 X.2.1 dJx4a65c_add_72be8_17 (by decide) ?_
    refine lv_iadd X.1 X.2.1 dJx4a65c_add_72be8_18 ?_
    refine r_toi (nI_1 n) ?_
    refine r_put (C := RJx4a65c) (T := TJx4a65c) (N := 3) (ref := "java/util/ArrayList") (fs' := [.int mm, .ref r_7, .int (nI (n + 1))]) (ty := .int) X S in_RJx4a65c tyJx4a65c tyJx4a65c_ok nmJx4a65c hL_14 (by omega) rfl 2 (by decide) (by decide +kernel) (fun _ h => h) rfl (by decide +kernel) rfl rfl (Nat.le_of_ble_eq_true rfl) rfl dJx4a65c_add_72be8_19 (fun H locs S => ?_)
    obtain ⟨f_19, ef_19⟩ : ∃ z9 : Wd, z9 = wu f_14 L t (.inr (0, [.int mm, .ref r_7, .int (nI (n + 1))])) := ⟨_, rfl⟩
    rw [← ef_19] at S
    have hL_19 : f_19 L = some (t, .inr (0, [.int mm, .ref r_7, .int (nI (n + 1))])) := by rw [ef_19]; exact wu_self _ _ _ _
    have ha_19 : f_19 r_7 = some (t, eO G cap3 (va_up h3 n (some v))) := by rw [ef_19]; exact wu_gk hL_14 ha_14 (fun h => by cases h)
    refine e_v X hr S (Nat.le_of_ble_eq_true rfl) (Nat.le_of_ble_eq_true rfl) dJx4a65c_add_72be8_22 ?_
    refine ⟨⟨mm, r_7, cap3, va_up h3 n (some v), hL_19, add_el (fun i hi => by rw [hq6 i hi]; exact h02 i hi), Or.inr ⟨ha_19, by omega, by omega, by omega⟩⟩, ?_⟩
    have m1 : md (fun x => x = t) f f_7 := by
      rw [hq2]
      exact md_tr (md_new hq1) (md_put hLw) (fun _ q => q.elim) (fun _ q => q)
    have m2 : md (fun x => x = t) f_7 f_14 := by rw [ef_14]; exact md_put ha_7
    have m3 : md (fun x => x = t) f_14 f_19 := by rw [ef_19]; exact md_put hL_14
    exact md_tr m1 (md_tr m2 m3 (fun _ q => q) (fun _ q => q)) (fun _ q => q) (fun _ q => q)

set_option maxRecDepth 100000 in
set_option maxHeartbeats 4000000 in
/-- add(e) -/
theorem m_add (l : Launch) (G : cx_G) (f : Wd) (L t n v : Nat) (g : Nat → Nat) (ht : t ≠ 9999) (hn : n < 200) (hel : ∀ i, i < n → elO f (g i)) (hv : elO f v) (hLR : LRx G f L t n g) : MI l G yJx4a65c_add_9ea2d wsJx4a65c_add_9ea2d 6 170 1 300 [.ref L, .ref v] f (fun r f' => LRx G f' L t (n + 1) (va_up g n v) ∧ md (fun x => x = t) f f') := by
  refine cx_body (cc := cJx4a65c_add_9ea2d) (n := 2) (ret := (some .boolean)) (by decide +kernel) rfl (Nat.le_of_ble_eq_true rfl) ?_
  intro p0 e0 s0 m0 b0 meth0 c0 ls X hr hnm S hl
  have X : cxC G p0 l _ c0 cJx4a65c_add_9ea2d 2 m0 meth0 s0 _ RJx4a65c wsJx4a65c_add_9ea2d := X
  have hl : lv_has ls 2 [(0, .ref L), (1, .ref v)] := hl
  have in_RJx4a65c : ∀ w ∈ u_ws RJx4a65c TJx4a65c 3, w ∈ wsJx4a65c_add_9ea2d := by decide +kernel
  obtain ⟨mm, arr, cap, h, hL, h0, hc⟩ := hLR
  refine lv_aload_n X.1 X.2.1 dJx4a65c_add_9ea2d_0 rfl (lv_at hl 0 rfl) ?_
  refine lv_dup X.1 X.2.1 dJx4a65c_add_9ea2d_1 rfl ?_
  refine r_get (C := RJx4a65c) (T := TJx4a65c) (N := 3) (ref := "java/util/ArrayList") X S in_RJx4a65c hL rfl 0 (by decide) (by decide +kernel) (u_same (X.2.2.2.2.1 (.sameField "java/util/ArrayList" "java/util/AbstractList" "modCount" "I") (by decide +kernel))) rfl dJx4a65c_add_9ea2d_2 ?_
  refine lv_iconst (v := 1) X.1 X.2.1 dJx4a65c_add_9ea2d_5 (by decide) ?_
  refine lv_iadd X.1 X.2.1 dJx4a65c_add_9ea2d_6 ?_
  refine r_put (C := RJx4a65c) (T := TJx4a65c) (N := 3) (ref := "java/util/ArrayList") (fs' := [.int (mm + 1), .ref arr, .int (nI n)]) (ty := .int) X S in_RJx4a65c tyJx4a65c tyJx4a65c_ok nmJx4a65c hL (by omega) rfl 0 (by decide) (by decide +kernel) (u_same (X.2.2.2.2.1 (.sameField "java/util/ArrayList" "java/util/AbstractList" "modCount" "I") (by decide +kernel))) rfl (by decide +kernel) rfl rfl (Nat.le_of_ble_eq_true rfl) rfl dJx4a65c_add_9ea2d_7 (fun H locs S => ?_)
  obtain ⟨f_7, ef_7⟩ : ∃ z9 : Wd, z9 = wu f L t (.inr (0, [.int (mm + 1), .ref arr, .int (nI n)])) := ⟨_, rfl⟩
  rw [← ef_7] at S
  have hL_7 : f_7 L = some (t, .inr (0, [.int (mm + 1), .ref arr, .int (nI n)])) := by rw [ef_7]; exact wu_self _ _ _ _
  have hel7 : ∀ i, i < n → elO f_7 (g i) := fun i hi => by rw [ef_7]; exact (hel i hi).putL hL
  have hv7 : elO f_7 v := by rw [ef_7]; exact hv.putL hL
  have hc7 : (n = 0 ∧ arr = gd G) ∨ (f_7 arr = some (t, eO G cap h) ∧ n ≤ cap ∧ 10 ≤ cap ∧ cap ≤ 300) := by
    rcases hc with hc | hc
    · exact Or.inl hc
    · refine Or.inr ⟨?_, hc.2⟩
      rw [ef_7, wu_ne _ _ _ (fun q => by rw [q, hL] at hc; cases hc.1)]
      exact hc.1
  refine lv_aload_n X.1 X.2.1 dJx4a65c_add_9ea2d_10 rfl (lv_at hl 0 rfl) ?_
  refine lv_aload_n X.1 X.2.1 dJx4a65c_add_9ea2d_11 rfl (lv_at hl 1 rfl) ?_
  refine lv_aload_n X.1 X.2.1 dJx4a65c_add_9ea2d_12 rfl (lv_at hl 0 rfl) ?_
  refine r_get (C := RJx4a65c) (T := TJx4a65c) (N := 3) (ref := "java/util/ArrayList") X S in_RJx4a65c hL_7 rfl 1 (by decide) (by decide +kernel) (fun _ h => h) rfl dJx4a65c_add_9ea2d_13 ?_
  refine lv_aload_n X.1 X.2.1 dJx4a65c_add_9ea2d_16 rfl (lv_at hl 0 rfl) ?_
  refine r_get (C := RJx4a65c) (T := TJx4a65c) (N := 3) (ref := "java/util/ArrayList") X S in_RJx4a65c hL_7 rfl 2 (by decide) (by decide +kernel) (fun _ h => h) rfl dJx4a65c_add_9ea2d_17 ?_
  refine call_v (run_V X S (m_add3 l G f_7 L t n v g ht hn hel7 hv7 arr cap (mm + 1) h hL_7 h0 hc7) 3 gJx4a65c_add_9ea2d_Jx4a65c_add_72be8 rfl rfl rfl (by decide +kernel) ⟨(by exact Nat.le_of_ble_eq_true rfl), (by exact Nat.le_of_ble_eq_true rfl)⟩ ⟨_, _, hL_7⟩ rfl rfl rfl hl.1 rfl (by exact Nat.le_of_ble_eq_true rfl) dJx4a65c_add_9ea2d_20 ⟨(by exact Nat.le_of_ble_eq_true rfl), (by exact Nat.le_of_ble_eq_true rfl)⟩) S (fun f_20 H locs hr_20 S => ?_)
  refine lv_iconst (v := 1) X.1 X.2.1 dJx4a65c_add_9ea2d_23 (by decide) ?_
  refine e_z X hr S (Nat.le_of_ble_eq_true rfl) (Nat.le_of_ble_eq_true rfl) dJx4a65c_add_9ea2d_24 rfl ?_
  exact ⟨hr_20.1, md_tr (by rw [ef_7]; exact md_put hL) hr_20.2 (fun _ q => q) (fun _ q => q)⟩
