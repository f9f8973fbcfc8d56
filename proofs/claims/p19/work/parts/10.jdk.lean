/-! the JDK's lists -/
set_option maxRecDepth 100000 in
set_option maxHeartbeats 4000000 in
/-- AbstractCollection(): nothing -/
theorem m_ACinit (l : Launch) (G : cx_G) (f : Wd) (L t : Nat) : PV l G yJxa1e45_init_da8c8 wsJxa1e45_init_da8c8 1 20 [.ref L] f True := by
  refine cx_body (cc := cJxa1e45_init_da8c8) (n := 1) (ret := none) (by decide +kernel) rfl (Nat.le_of_ble_eq_true rfl) ?_
  intro p0 e0 s0 m0 b0 meth0 c0 ls X hr hnm S hl
  have X : cxC G p0 l _ c0 cJxa1e45_init_da8c8 1 m0 meth0 s0 _ RJxa1e45 wsJxa1e45_init_da8c8 := X
  have hl : lv_has ls 1 [(0, .ref L)] := hl
  refine lv_aload_n X.1 X.2.1 dJxa1e45_init_da8c8_0 rfl (lv_at hl 0 rfl) ?_
  refine r_objInit X (by decide +kernel) (by decide +kernel) (by decide +kernel) hl.1 dJxa1e45_init_da8c8_1 (by exact Nat.le_of_ble_eq_true rfl) (by exact Nat.le_of_ble_eq_true rfl) ?_
  refine e_vp X hr S dJxa1e45_init_da8c8_4 ?_
  exact trivial

set_option maxRecDepth 100000 in
set_option maxHeartbeats 4000000 in
/-- AbstractList(): modCount 0 -/
theorem m_ALinit (l : Launch) (G : cx_G) (f : Wd) (L t : Nat) (mm : Int32) (ev nv : Value) (ht : t ≠ 9999) (hL : f L = some (t, .inr (0, [.int mm, ev, nv]))) : MV l G yJxc12de_init_da8c8 wsJxc12de_init_da8c8 2 40 0 0 [.ref L] f (fun f' => f' = wu f L t (.inr (0, [.int 0, ev, nv]))) := by
  refine cx_body (cc := cJxc12de_init_da8c8) (n := 1) (ret := none) (by decide +kernel) rfl (Nat.le_of_ble_eq_true rfl) ?_
  intro p0 e0 s0 m0 b0 meth0 c0 ls X hr hnm S hl
  have X : cxC G p0 l _ c0 cJxc12de_init_da8c8 1 m0 meth0 s0 _ RJxc12de wsJxc12de_init_da8c8 := X
  have hl : lv_has ls 1 [(0, .ref L)] := hl
  have in_RJx4a65c : ∀ w ∈ u_ws RJx4a65c TJx4a65c 3, w ∈ wsJxc12de_init_da8c8 := by decide +kernel
  refine lv_aload_n X.1 X.2.1 dJxc12de_init_da8c8_0 rfl (lv_at hl 0 rfl) ?_
  refine call_vp (run_I X S (m_ACinit l G f L 0) 0 gJxc12de_init_da8c8_Jxa1e45_init_da8c8 rfl rfl rfl (by decide +kernel) (by decide +kernel) (by decide +kernel) rfl (by decide +kernel) ⟨(by exact Nat.le_of_ble_eq_true rfl), (by exact Nat.le_of_ble_eq_true rfl)⟩ rfl hl.1 rfl (by exact Nat.le_of_ble_eq_true rfl) dJxc12de_init_da8c8_1 ⟨(Nat.zero_le _), (Nat.zero_le _)⟩) S (fun H locs hr_1 S => ?_)
  refine lv_aload_n X.1 X.2.1 dJxc12de_init_da8c8_4 rfl (lv_at hl 0 rfl) ?_
  refine lv_iconst (v := 0) X.1 X.2.1 dJxc12de_init_da8c8_5 (by decide) ?_
  refine r_put (C := RJx4a65c) (T := TJx4a65c) (N := 3) (ref := "java/util/AbstractList") (fs' := [.int 0, ev, nv]) (ty := .int) X S in_RJx4a65c tyJx4a65c tyJx4a65c_ok nmJx4a65c hL (by omega) rfl 0 (by decide) (by decide +kernel) (fun _ h => h) rfl (by decide +kernel) rfl rfl (Nat.le_of_ble_eq_true rfl) rfl dJxc12de_init_da8c8_6 (fun H locs S => ?_)
  obtain ⟨f_6, ef_6⟩ : ∃ z9 : Wd, z9 = wu f L t (.inr (0, [.int 0, ev, nv])) := ⟨_, rfl⟩
  rw [← ef_6] at S
  have hL_6 : f_6 L = some (t, .inr (0, [.int 0, ev, nv])) := by rw [ef_6]; exact wu_self _ _ _ _
  refine e_v X hr S (Nat.le_of_ble_eq_true rfl) (Nat.le_of_ble_eq_true rfl) dJxc12de_init_da8c8_9 ?_
  exact ef_6

set_option maxRecDepth 100000 in
set_option maxHeartbeats 4000000 in
/-- ArrayList(): the empty list -/
theorem m_Linit (l : Launch) (G : cx_G) (f : Wd) (L t : Nat) (ht : t ≠ 9999) (hL : f L = some (t, .inr (0, [.int 0, .null, .int 0]))) : MV l G yJx4a65c_init_da8c8 wsJx4a65c_init_da8c8 3 60 0 0 [.ref L] f (fun f' => f' = wu f L t (.inr (0, [.int 0, .ref (gd G), .int 0]))) := by
  refine cx_body (cc := cJx4a65c_init_da8c8) (n := 1) (ret := none) (by decide +kernel) rfl (Nat.le_of_ble_eq_true rfl) ?_
  intro p0 e0 s0 m0 b0 meth0 c0 ls X hr hnm S hl
  have X : cxC G p0 l _ c0 cJx4a65c_init_da8c8 1 m0 meth0 s0 _ RJx4a65c wsJx4a65c_init_da8c8 := X
  have hl : lv_has ls 1 [(0, .ref L)] := hl
  have in_RJx4a65c : ∀ w ∈ u_ws RJx4a65c TJx4a65c 3, w ∈ wsJx4a65c_init_da8c8 := by decide +kernel
  refine lv_aload_n X.1 X.2.1 dJx4a65c_init_da8c8_0 rfl (lv_at hl 0 rfl) ?_
  refine call_v (run_I X S (m_ALinit l G f L t 0 (.null) (.int 0) ht hL) 0 gJx4a65c_init_da8c8_Jxc12de_init_da8c8 rfl rfl rfl (by decide +kernel) (by decide +kernel) (by decide +kernel) rfl (by decide +kernel) ⟨(by exact Nat.le_of_ble_eq_true rfl), (by exact Nat.le_of_ble_eq_true rfl)⟩ rfl hl.1 rfl (by exact Nat.le_of_ble_eq_true rfl) dJx4a65c_init_da8c8_1 ⟨(by exact Nat.le_of_ble_eq_true rfl), (by exact Nat.le_of_ble_eq_true rfl)⟩) S (fun f_1 H locs hr_1 S => ?_)
  have h_L1 : f_1 L = some (t, .inr (0, [.int 0, .null, .int 0])) := by rw [hr_1]; exact wu_self _ _ _ _
  refine lv_aload_n X.1 X.2.1 dJx4a65c_init_da8c8_4 rfl (lv_at hl 0 rfl) ?_
  refine r_gets X S rfl (by decide +kernel) dJx4a65c_init_da8c8_5 ?_
  refine r_put (C := RJx4a65c) (T := TJx4a65c) (N := 3) (ref := "java/util/ArrayList") (fs' := [.int 0, .ref (gd G), .int 0]) (ty := .array (.object "java/lang/Object")) X S in_RJx4a65c tyJx4a65c tyJx4a65c_ok nmJx4a65c h_L1 (by omega) rfl 1 (by decide) (by decide +kernel) (fun _ h => h) rfl (by decide +kernel) rfl rfl (Nat.le_of_ble_eq_true rfl) rfl dJx4a65c_init_da8c8_8 (fun H locs S => ?_)
  obtain ⟨f_8, ef_8⟩ : ∃ z9 : Wd, z9 = wu f_1 L t (.inr (0, [.int 0, .ref (gd G), .int 0])) := ⟨_, rfl⟩
  rw [← ef_8] at S
  have h_L1_8 : f_8 L = some (t, .inr (0, [.int 0, .ref (gd G), .int 0])) := by rw [ef_8]; exact wu_self _ _ _ _
  refine e_v X hr S (Nat.le_of_ble_eq_true rfl) (Nat.le_of_ble_eq_true rfl) dJx4a65c_init_da8c8_11 ?_
  rw [ef_8, hr_1]
  funext z
  show va_up (va_up f L _) L _ z = va_up f L _ z
  unfold va_up
  split <;> rfl

set_option maxRecDepth 100000 in
set_option maxHeartbeats 4000000 in
/-- size() -/
theorem m_size (l : Launch) (G : cx_G) (f : Wd) (L t n : Nat) (mm : Int32) (ev : Value) (hL : f L = some (t, .inr (0, [.int mm, ev, .int (nI n)]))) : PI l G yJx4a65c_size_8abf5 wsJx4a65c_size_8abf5 0 0 [.ref L] f (fun v => v = nI n) := by
  refine cx_body (cc := cJx4a65c_size_8abf5) (n := 1) (ret := (some .int)) (by decide +kernel) rfl (Nat.le_of_ble_eq_true rfl) ?_
  intro p0 e0 s0 m0 b0 meth0 c0 ls X hr hnm S hl
  have X : cxC G p0 l _ c0 cJx4a65c_size_8abf5 1 m0 meth0 s0 _ RJx4a65c wsJx4a65c_size_8abf5 := X
  have hl : lv_has ls 1 [(0, .ref L)] := hl
  have in_RJx4a65c : ∀ w ∈ u_ws RJx4a65c TJx4a65c 3, w ∈ wsJx4a65c_size_8abf5 := by decide +kernel
  refine lv_aload_n X.1 X.2.1 dJx4a65c_size_8abf5_0 rfl (lv_at hl 0 rfl) ?_
  refine r_get (C := RJx4a65c) (T := TJx4a65c) (N := 3) (ref := "java/util/ArrayList") X S in_RJx4a65c hL rfl 2 (by decide) (by decide +kernel) (fun _ h => h) rfl dJx4a65c_size_8abf5_1 ?_
  refine e_ip X hr S dJx4a65c_size_8abf5_4 ?_
  exact rfl

set_option maxRecDepth 100000 in
set_option maxHeartbeats 4000000 in
/-- checkIndex: in range -/
theorem m_check3 (l : Launch) (G : cx_G) (f : Wd) (i n : Nat) (hi : i < n) (hn : n < 2 ^ 31) : PI l G yJ3_checkIndex_8e157 wsJ3_checkIndex_8e157 0 0 [.int (nI i), .int (nI n), .null] f (fun v => v = nI i) := by
  refine cx_body (cc := cJ3_checkIndex_8e157) (n := 3) (ret := (some .int)) (by decide +kernel) rfl (Nat.le_of_ble_eq_true rfl) ?_
  intro p0 e0 s0 m0 b0 meth0 c0 ls X hr hnm S hl
  have X : cxC G p0 l _ c0 cJ3_checkIndex_8e157 3 m0 meth0 s0 _ RJ3 wsJ3_checkIndex_8e157 := X
  have hl : lv_has ls 3 [(0, .int (nI i)), (1, .int (nI n)), (2, .null)] := hl
  refine lv_iload_n X.1 X.2.1 dJ3_checkIndex_8e157_0 rfl (lv_at hl 0 rfl) ?_
  refine lv_if_lt (tgt := 9) X.1 X.2.1 dJ3_checkIndex_8e157_1 (by decide) (fun c_1 => ?_) (fun c_1 => ?_)
  · exact absurd c_1 (nI_pos (by omega))
  · refine lv_iload_n X.1 X.2.1 dJ3_checkIndex_8e157_4 rfl (lv_at hl 0 rfl) ?_
    refine lv_iload_n X.1 X.2.1 dJ3_checkIndex_8e157_5 rfl (lv_at hl 1 rfl) ?_
    refine lv_icmp_lt (tgt := 16) X.1 X.2.1 dJ3_checkIndex_8e157_6 (by decide) (fun c_6 => ?_) (fun c_6 => ?_)
    · refine lv_iload_n X.1 X.2.1 dJ3_checkIndex_8e157_16 rfl (lv_at hl 0 rfl) ?_
      refine e_ip X hr S dJ3_checkIndex_8e157_17 ?_
      exact rfl
    · exact absurd (nI_lt hi hn) c_6

set_option maxRecDepth 100000 in
set_option maxHeartbeats 4000000 in
/-- checkIndex: in range -/
theorem m_check2 (l : Launch) (G : cx_G) (f : Wd) (i n : Nat) (hi : i < n) (hn : n < 2 ^ 31) : PI l G yJ15_checkIndex_7cf53 wsJ15_checkIndex_7cf53 1 22 [.int (nI i), .int (nI n)] f (fun v => v = nI i) := by
  refine cx_body (cc := cJ15_checkIndex_7cf53) (n := 2) (ret := (some .int)) (by decide +kernel) rfl (Nat.le_of_ble_eq_true rfl) ?_
  intro p0 e0 s0 m0 b0 meth0 c0 ls X hr hnm S hl
  have X : cxC G p0 l _ c0 cJ15_checkIndex_7cf53 2 m0 meth0 s0 _ RJ15 wsJ15_checkIndex_7cf53 := X
  have hl : lv_has ls 2 [(0, .int (nI i)), (1, .int (nI n))] := hl
  refine lv_iload_n X.1 X.2.1 dJ15_checkIndex_7cf53_0 rfl (lv_at hl 0 rfl) ?_
  refine lv_iload_n X.1 X.2.1 dJ15_checkIndex_7cf53_1 rfl (lv_at hl 1 rfl) ?_
  refine lv_null X.1 X.2.1 dJ15_checkIndex_7cf53_2 ?_
  refine call_ip (run_S X S (m_check3 l G f i n hi hn) 3 gJ15_checkIndex_7cf53_J3_checkIndex_8e157 rfl rfl rfl (by decide +kernel) ⟨(by exact Nat.le_of_ble_eq_true rfl), (by exact Nat.le_of_ble_eq_true rfl)⟩ rfl hl.1 rfl (by exact Nat.le_of_ble_eq_true rfl) dJ15_checkIndex_7cf53_3 ⟨(Nat.zero_le _), (Nat.zero_le _)⟩) S (fun r_3 H locs hr_3 S => ?_)
  subst hr_3
  refine e_ip X hr S dJ15_checkIndex_7cf53_6 ?_
  exact rfl

set_option maxRecDepth 100000 in
set_option maxHeartbeats 4000000 in
/-- elementData(i) -/
theorem m_elem (l : Launch) (G : cx_G) (f : Wd) (L t n i : Nat) (g : Nat → Nat) (hLR : LRx G f L t n g) (hi : i < n) : PR l G yJx4a65c_elementData_915e3 wsJx4a65c_elementData_915e3 0 0 [.ref L, .int (nI i)] f (fun v => v = g i) := by
  refine cx_body (cc := cJx4a65c_elementData_915e3) (n := 2) (ret := (some (.object "java/lang/Object"))) (by decide +kernel) rfl (Nat.le_of_ble_eq_true rfl) ?_
  intro p0 e0 s0 m0 b0 meth0 c0 ls X hr hnm S hl
  have X : cxC G p0 l _ c0 cJx4a65c_elementData_915e3 2 m0 meth0 s0 _ RJx4a65c wsJx4a65c_elementData_915e3 := X
  have hl : lv_has ls 2 [(0, .ref L), (1, .int (nI i))] := hl
  have in_RJx4a65c : ∀ w ∈ u_ws RJx4a65c TJx4a65c 3, w ∈ wsJx4a65c_elementData_915e3 := by decide +kernel
  obtain ⟨mm, arr, cap, h, hL, h0, hc⟩ := hLR
  have hc : f arr = some (t, eO G cap h) ∧ n ≤ cap ∧ 10 ≤ cap ∧ cap ≤ 300 := by
    rcases hc with hc | hc
    · omega
    · exact hc
  obtain ⟨ha, hc1, hc2, hc3⟩ := hc
  refine lv_aload_n X.1 X.2.1 dJx4a65c_elementData_915e3_0 rfl (lv_at hl 0 rfl) ?_
  refine r_get (C := RJx4a65c) (T := TJx4a65c) (N := 3) (ref := "java/util/ArrayList") X S in_RJx4a65c hL rfl 1 (by decide) (by decide +kernel) (fun _ h => h) rfl dJx4a65c_elementData_915e3_1 ?_
  refine lv_iload_n X.1 X.2.1 dJx4a65c_elementData_915e3_4 rfl (lv_at hl 1 rfl) ?_
  refine r_aald (v := (g i)) X S ha (vp_in_nI (by omega) (by omega)) (by rw [nI_clamp (by omega)]; exact h0 i hi) dJx4a65c_elementData_915e3_5 ?_
  refine e_rp X hr (Or.inl ⟨_, rfl⟩) S dJx4a65c_elementData_915e3_6 ?_
  exact rfl

set_option maxRecDepth 100000 in
set_option maxHeartbeats 4000000 in
/-- get(i) -/
theorem m_get (l : Launch) (G : cx_G) (f : Wd) (L t n i : Nat) (g : Nat → Nat) (hLR : LRx G f L t n g) (hi : i < n) (hn : n < 2 ^ 31) : PR l G yJx4a65c_get_915e3 wsJx4a65c_get_915e3 2 43 [.ref L, .int (nI i)] f (fun v => v = g i) := by
  refine cx_body (cc := cJx4a65c_get_915e3) (n := 2) (ret := (some (.object "java/lang/Object"))) (by decide +kernel) rfl (Nat.le_of_ble_eq_true rfl) ?_
  intro p0 e0 s0 m0 b0 meth0 c0 ls X hr hnm S hl
  have X : cxC G p0 l _ c0 cJx4a65c_get_915e3 2 m0 meth0 s0 _ RJx4a65c wsJx4a65c_get_915e3 := X
  have hl : lv_has ls 2 [(0, .ref L), (1, .int (nI i))] := hl
  have in_RJx4a65c : ∀ w ∈ u_ws RJx4a65c TJx4a65c 3, w ∈ wsJx4a65c_get_915e3 := by decide +kernel
  obtain ⟨mm, arr, cap, h, hL, h0, hc⟩ := id hLR
  refine lv_iload_n X.1 X.2.1 dJx4a65c_get_915e3_0 rfl (lv_at hl 1 rfl) ?_
  refine lv_aload_n X.1 X.2.1 dJx4a65c_get_915e3_1 rfl (lv_at hl 0 rfl) ?_
  refine r_get (C := RJx4a65c) (T := TJx4a65c) (N := 3) (ref := "java/util/ArrayList") X S in_RJx4a65c hL rfl 2 (by decide) (by decide +kernel) (fun _ h => h) rfl dJx4a65c_get_915e3_2 ?_
  refine call_ip (run_S X S (m_check2 l G f i n hi hn) 2 gJx4a65c_get_915e3_J15_checkIndex_7cf53 rfl rfl rfl (by decide +kernel) ⟨(by exact Nat.le_of_ble_eq_true rfl), (by exact Nat.le_of_ble_eq_true rfl)⟩ rfl hl.1 rfl (by exact Nat.le_of_ble_eq_true rfl) dJx4a65c_get_915e3_5 ⟨(Nat.zero_le _), (Nat.zero_le _)⟩) S (fun r_5 H locs hr_5 S => ?_)
  subst hr_5
  refine lv_pop X.1 X.2.1 dJx4a65c_get_915e3_8 rfl ?_
  refine lv_aload_n X.1 X.2.1 dJx4a65c_get_915e3_9 rfl (lv_at hl 0 rfl) ?_
  refine lv_iload_n X.1 X.2.1 dJx4a65c_get_915e3_10 rfl (lv_at hl 1 rfl) ?_
  refine call_rp (run_V X S (m_elem l G f L t n i g hLR hi) 1 gJx4a65c_get_915e3_Jx4a65c_elementData_915e3 rfl rfl rfl (by decide +kernel) ⟨(by exact Nat.le_of_ble_eq_true rfl), (by exact Nat.le_of_ble_eq_true rfl)⟩ ⟨_, _, hL⟩ rfl rfl rfl hl.1 rfl (by exact Nat.le_of_ble_eq_true rfl) dJx4a65c_get_915e3_11 ⟨(Nat.zero_le _), (Nat.zero_le _)⟩) S (fun r_11 H locs hr_11 S => ?_)
  subst hr_11
  refine e_rp X hr (Or.inl ⟨_, rfl⟩) S dJx4a65c_get_915e3_14 ?_
  exact rfl

set_option maxRecDepth 100000 in
set_option maxHeartbeats 4000000 in
/-- newLength(n, 1, n / 2) -/
theorem m_newLen (l : Launch) (G : cx_G) (f : Wd) (n : Nat) (h2 : 2 ≤ n) (hn : n ≤ 100000) : PI l G yJ8_newLength_cabcc wsJ8_newLength_cabcc 1 24 [.int (nI n), .int (nI 1), .int (nI (n / 2))] f (fun v => v = nI (n + n / 2)) := by
  refine cx_body (cc := cJ8_newLength_cabcc) (n := 4) (ret := (some .int)) (by decide +kernel) rfl (Nat.le_of_ble_eq_true rfl) ?_
  intro p0 e0 s0 m0 b0 meth0 c0 ls X hr hnm S hl
  have X : cxC G p0 l _ c0 cJ8_newLength_cabcc 4 m0 meth0 s0 _ RJ8 wsJ8_newLength_cabcc := X
  have hl : lv_has ls 4 [(0, .int (nI n)), (1, .int (nI 1)), (2, .int (nI (n / 2)))] := hl
  have hmx : (if nI 1 < nI (n / 2) then nI (n / 2) else nI 1) = nI (n / 2) := by
    split
    · rfl
    · rename_i q
      rcases Nat.lt_or_ge 1 (n / 2) with q2 | q2
      · exact absurd (nI_lt q2 (by omega)) q
      · have q3 : n / 2 = 1 := by omega
        rw [q3]
  refine lv_iload_n X.1 X.2.1 dJ8_newLength_cabcc_0 rfl (lv_at hl 0 rfl) ?_
  refine lv_iload_n X.1 X.2.1 dJ8_newLength_cabcc_1 rfl (lv_at hl 1 rfl) ?_
  refine lv_iload_n X.1 X.2.1 dJ8_newLength_cabcc_2 rfl (lv_at hl 2 rfl) ?_
  refine r_max (v := nI (n / 2)) X (by decide +kernel) (by decide +kernel) (by decide +kernel) (by decide +kernel) hl.1 (by exact Nat.le_of_ble_eq_true rfl) (by exact Nat.le_of_ble_eq_true rfl) (Nat.zero_le _) (Nat.zero_le _) (by exact hmx) dJ8_newLength_cabcc_3 ?_
  refine lv_iadd X.1 X.2.1 dJ8_newLength_cabcc_6 ?_
  refine r_toi (nI_add _ _) ?_
  refine lv_istore_n (lv' := [(3, .int (nI (n + n / 2))), (0, .int (nI n)), (1, .int (nI 1)), (2, .int (nI (n / 2)))]) X.1 X.2.1 dJ8_newLength_cabcc_7 rfl hl (by decide) rfl (fun ls hl => ?_)
  refine lv_iconst (v := 0) X.1 X.2.1 dJ8_newLength_cabcc_8 (by decide) ?_
  refine lv_iload_n X.1 X.2.1 dJ8_newLength_cabcc_9 rfl (lv_at hl 0 rfl) ?_
  refine lv_icmp_ge (tgt := 21) X.1 X.2.1 dJ8_newLength_cabcc_10 (by decide) (fun c_10 => ?_) (fun c_10 => ?_)
  · exact absurd c_10 (nI_ge (a := 0) (b := n + n / 2) (by omega) (by omega))
  · refine lv_iload_n X.1 X.2.1 dJ8_newLength_cabcc_13 rfl (lv_at hl 0 rfl) ?_
    refine r_ldc (v := 2147483639) X (by decide +kernel) dJ8_newLength_cabcc_14 ?_
    refine lv_icmp_gt (tgt := 21) X.1 X.2.1 dJ8_newLength_cabcc_16 (by decide) (fun c_16 => ?_) (fun c_16 => ?_)
    · exact absurd c_16 (nI_nlt (a := 2147483639) (b := n + n / 2) (by omega) (by decide))
    · refine lv_iload_n X.1 X.2.1 dJ8_newLength_cabcc_19 rfl (lv_at hl 0 rfl) ?_
      refine e_ip X hr S dJ8_newLength_cabcc_20 ?_
      exact rfl
