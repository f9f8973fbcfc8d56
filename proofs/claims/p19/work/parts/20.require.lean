/-! the class: what a call asks ahead of all else -/
def inI (x : Int32) (a b : Int) : Prop := a ≤ x.toInt ∧ x.toInt ≤ b
def cellP (x y : Int32) : Prop := inI x 0 15 ∧ inI y 0 15
theorem i_lt0 (x : Int32) : x < 0 ↔ x.toInt < 0 := Int32.lt_iff_toInt_lt
theorem i_lt (x y : Int32) : x < y ↔ x.toInt < y.toInt := Int32.lt_iff_toInt_lt
theorem i_le (x y : Int32) : x ≤ y ↔ x.toInt ≤ y.toInt := Int32.le_iff_toInt_le
theorem l_lt (x y : Int64) : x < y ↔ x.toInt < y.toInt := Int64.lt_iff_toInt_lt
theorem l_le (x y : Int64) : x ≤ y ↔ x.toInt ≤ y.toInt := Int64.le_iff_toInt_le
theorem i_n {n : Nat} (h : n < 2 ^ 31) : (nI n).toInt = (n : Int) := nI_toInt h
theorem i_wide (x : Int32) : x.toInt64.toInt = x.toInt := Int32.toInt_toInt64 x
theorem inI_nat {x : Int32} {b : Int} (h : inI x 0 b) : ∃ j : Nat, x = nI j ∧ (j : Int) ≤ b ∧ (j : Int) = x.toInt := by
  obtain ⟨j, hj, e⟩ := nI_of (x := x) (fun z => by rw [i_lt0] at z; unfold inI at h; omega)
  refine ⟨j, e, ?_, ?_⟩
  · have := h.2; rw [e, i_n hj] at this; exact this
  · rw [e, i_n hj]
set_option maxRecDepth 100000 in
set_option maxHeartbeats 4000000 in
/-- requireCell -/
theorem m_rqCell (l : Launch) (hst : l.stackTraces = false) (G : cx_G) (f : Wd) (x y : Int32) : XV l G yX9_requireCell wsX9_requireCell 6 90 1 6 [.int x, .int y] f (cellP x y) (fun E => E = "java/lang/IndexOutOfBoundsException" ∧ ¬ cellP x y) := by
  refine vx_body (cc := cX9_requireCell) (n := 2) (ret := none) (by decide +kernel) rfl (Nat.le_of_ble_eq_true rfl) ?_
  intro p0 e0 s0 m0 b0 meth0 c0 ls X hr hnm hout S hl
  have X : cxC G p0 l _ c0 cX9_requireCell 2 m0 meth0 s0 _ RX9 wsX9_requireCell := X
  have hl : lv_has ls 2 [(0, .int x), (1, .int y)] := hl
  refine lv_iload_n X.1 X.2.1 dX9_requireCell_0 rfl (lv_at hl 0 rfl) ?_
  refine lv_if_lt (tgt := 20) X.1 X.2.1 dX9_requireCell_1 (by decide) (fun c_1 => ?_) (fun c_1 => ?_)
  · refine r_throw (cls := "java/lang/IndexOutOfBoundsException") (text := "no such cell") X S hst hout rfl hl.1 (by decide +kernel) (by decide +kernel) (by decide +kernel) (by decide +kernel) (by decide +kernel) (by decide +kernel) (by decide +kernel) (by decide +kernel) dX9_requireCell_20 dX9_requireCell_23 dX9_requireCell_24 dX9_requireCell_26 dX9_requireCell_29 (by exact Nat.le_of_ble_eq_true rfl) (by exact Nat.le_of_ble_eq_true rfl) (by exact Nat.le_of_ble_eq_true rfl) (by exact Nat.le_of_ble_eq_true rfl) (by exact Nat.le_of_ble_eq_true rfl) (by exact Nat.le_of_ble_eq_true rfl) ?_
    refine ⟨rfl, fun z => ?_⟩
    have h15 : (16 : Int32).toInt = 16 := by decide
    obtain ⟨⟨z1, z2⟩, z3, z4⟩ := z
    first | (rw [i_lt0] at c_1; omega) | (rw [i_le, h15] at c_7; omega) | (rw [i_lt0] at c_11; omega) | (rw [i_lt, h15] at c_17; omega)
  · refine lv_iload_n X.1 X.2.1 dX9_requireCell_4 rfl (lv_at hl 0 rfl) ?_
    refine lv_bipush (v := 16) X.1 X.2.1 dX9_requireCell_5 (by decide) ?_
    refine lv_icmp_ge (tgt := 20) X.1 X.2.1 dX9_requireCell_7 (by decide) (fun c_7 => ?_) (fun c_7 => ?_)
    · refine r_throw (cls := "java/lang/IndexOutOfBoundsException") (text := "no such cell") X S hst hout rfl hl.1 (by decide +kernel) (by decide +kernel) (by decide +kernel) (by decide +kernel) (by decide +kernel) (by decide +kernel) (by decide +kernel) (by decide +kernel) dX9_requireCell_20 dX9_requireCell_23 dX9_requireCell_24 dX9_requireCell_26 dX9_requireCell_29 (by exact Nat.le_of_ble_eq_true rfl) (by exact Nat.le_of_ble_eq_true rfl) (by exact Nat.le_of_ble_eq_true rfl) (by exact Nat.le_of_ble_eq_true rfl) (by exact Nat.le_of_ble_eq_true rfl) (by exact Nat.le_of_ble_eq_true rfl) ?_
      refine ⟨rfl, fun z => ?_⟩
      have h15 : (16 : Int32).toInt = 16 := by decide
      obtain ⟨⟨z1, z2⟩, z3, z4⟩ := z
      first | (rw [i_lt0] at c_1; omega) | (rw [i_le, h15] at c_7; omega) | (rw [i_lt0] at c_11; omega) | (rw [i_lt, h15] at c_17; omega)
    · refine lv_iload_n X.1 X.2.1 dX9_requireCell_10 rfl (lv_at hl 1 rfl) ?_
      refine lv_if_lt (tgt := 20) X.1 X.2.1 dX9_requireCell_11 (by decide) (fun c_11 => ?_) (fun c_11 => ?_)
      · refine r_throw (cls := "java/lang/IndexOutOfBoundsException") (text := "no such cell") X S hst hout rfl hl.1 (by decide +kernel) (by decide +kernel) (by decide +kernel) (by decide +kernel) (by decide +kernel) (by decide +kernel) (by decide +kernel) (by decide +kernel) dX9_requireCell_20 dX9_requireCell_23 dX9_requireCell_24 dX9_requireCell_26 dX9_requireCell_29 (by exact Nat.le_of_ble_eq_true rfl) (by exact Nat.le_of_ble_eq_true rfl) (by exact Nat.le_of_ble_eq_true rfl) (by exact Nat.le_of_ble_eq_true rfl) (by exact Nat.le_of_ble_eq_true rfl) (by exact Nat.le_of_ble_eq_true rfl) ?_
        refine ⟨rfl, fun z => ?_⟩
        have h15 : (16 : Int32).toInt = 16 := by decide
        obtain ⟨⟨z1, z2⟩, z3, z4⟩ := z
        first | (rw [i_lt0] at c_1; omega) | (rw [i_le, h15] at c_7; omega) | (rw [i_lt0] at c_11; omega) | (rw [i_lt, h15] at c_17; omega)
      · refine lv_iload_n X.1 X.2.1 dX9_requireCell_14 rfl (lv_at hl 1 rfl) ?_
        refine lv_bipush (v := 16) X.1 X.2.1 dX9_requireCell_15 (by decide) ?_
        refine lv_icmp_lt (tgt := 30) X.1 X.2.1 dX9_requireCell_17 (by decide) (fun c_17 => ?_) (fun c_17 => ?_)
        · refine vx_ret (e_vw X hr S (by exact Nat.le_of_ble_eq_true rfl) (by exact Nat.le_of_ble_eq_true rfl) dX9_requireCell_30 ?_)
          have h15 : (16 : Int32).toInt = 16 := by decide
          rw [i_lt0] at c_1 c_11
          rw [i_le, h15] at c_7
          rw [i_lt, h15] at c_17
          exact ⟨⟨by omega, by omega⟩, by omega, by omega⟩
        · refine r_throw (cls := "java/lang/IndexOutOfBoundsException") (text := "no such cell") X S hst hout rfl hl.1 (by decide +kernel) (by decide +kernel) (by decide +kernel) (by decide +kernel) (by decide +kernel) (by decide +kernel) (by decide +kernel) (by decide +kernel) dX9_requireCell_20 dX9_requireCell_23 dX9_requireCell_24 dX9_requireCell_26 dX9_requireCell_29 (by exact Nat.le_of_ble_eq_true rfl) (by exact Nat.le_of_ble_eq_true rfl) (by exact Nat.le_of_ble_eq_true rfl) (by exact Nat.le_of_ble_eq_true rfl) (by exact Nat.le_of_ble_eq_true rfl) (by exact Nat.le_of_ble_eq_true rfl) ?_
          refine ⟨rfl, fun z => ?_⟩
          have h15 : (16 : Int32).toInt = 16 := by decide
          obtain ⟨⟨z1, z2⟩, z3, z4⟩ := z
          first | (rw [i_lt0] at c_1; omega) | (rw [i_le, h15] at c_7; omega) | (rw [i_lt0] at c_11; omega) | (rw [i_lt, h15] at c_17; omega)

set_option maxRecDepth 100000 in
set_option maxHeartbeats 4000000 in
/-- requireRange -/
theorem m_rqRange (l : Launch) (hst : l.stackTraces = false) (G : cx_G) (f : Wd) (v a b : Int64) : XV l G yX9_requireRange wsX9_requireRange 6 90 1 6 [.long v, .long a, .long b] f (a.toInt ≤ v.toInt ∧ v.toInt ≤ b.toInt) (fun E => E = "java/lang/IllegalArgumentException" ∧ ¬ (a.toInt ≤ v.toInt ∧ v.toInt ≤ b.toInt)) := by
  refine vx_body (cc := cX9_requireRange) (n := 6) (ret := none) (by decide +kernel) rfl (Nat.le_of_ble_eq_true rfl) ?_
  intro p0 e0 s0 m0 b0 meth0 c0 ls X hr hnm hout S hl
  have X : cxC G p0 l _ c0 cX9_requireRange 6 m0 meth0 s0 _ RX9 wsX9_requireRange := X
  have hl : lv_has ls 6 [(0, .long v), (2, .long a), (4, .long b)] := hl
  refine lv_lload_n X.1 X.2.1 dX9_requireRange_0 rfl (lv_at hl 0 rfl) ?_
  refine lv_lload_n X.1 X.2.1 dX9_requireRange_1 rfl (lv_at hl 1 rfl) ?_
  refine W.lcmp X.1 X.2.1 dX9_requireRange_2 ?_
  refine lv_if_lt (tgt := 13) X.1 X.2.1 dX9_requireRange_3 (by decide) (fun c_3 => ?_) (fun c_3 => ?_)
  · refine r_throwW (cls := "java/lang/IllegalArgumentException") (text := "out of range") X S hst hout rfl hl.1 (by decide +kernel) (by decide +kernel) (by decide +kernel) (by decide +kernel) (by decide +kernel) (by decide +kernel) (by decide +kernel) (by decide +kernel) dX9_requireRange_13 dX9_requireRange_16 dX9_requireRange_17 dX9_requireRange_20 dX9_requireRange_23 (by exact Nat.le_of_ble_eq_true rfl) (by exact Nat.le_of_ble_eq_true rfl) (by exact Nat.le_of_ble_eq_true rfl) (by exact Nat.le_of_ble_eq_true rfl) (by exact Nat.le_of_ble_eq_true rfl) (by exact Nat.le_of_ble_eq_true rfl) ?_
    refine ⟨rfl, fun z => ?_⟩
    first | (rw [lg_cmp_lt, l_lt] at c_3; omega) | (rw [lg_cmp_le, l_le] at c_10; omega)
  · refine lv_lload_n X.1 X.2.1 dX9_requireRange_6 rfl (lv_at hl 0 rfl) ?_
    refine lv_lload X.1 X.2.1 dX9_requireRange_7 (lv_at hl 2 rfl) ?_
    refine W.lcmp X.1 X.2.1 dX9_requireRange_9 ?_
    refine lv_if_le (tgt := 24) X.1 X.2.1 dX9_requireRange_10 (by decide) (fun c_10 => ?_) (fun c_10 => ?_)
    · refine vx_ret (e_vw X hr S (by exact Nat.le_of_ble_eq_true rfl) (by exact Nat.le_of_ble_eq_true rfl) dX9_requireRange_24 ?_)
      rw [lg_cmp_lt, l_lt] at c_3
      rw [lg_cmp_le, l_le] at c_10
      exact ⟨by omega, by omega⟩
    · refine r_throwW (cls := "java/lang/IllegalArgumentException") (text := "out of range") X S hst hout rfl hl.1 (by decide +kernel) (by decide +kernel) (by decide +kernel) (by decide +kernel) (by decide +kernel) (by decide +kernel) (by decide +kernel) (by decide +kernel) dX9_requireRange_13 dX9_requireRange_16 dX9_requireRange_17 dX9_requireRange_20 dX9_requireRange_23 (by exact Nat.le_of_ble_eq_true rfl) (by exact Nat.le_of_ble_eq_true rfl) (by exact Nat.le_of_ble_eq_true rfl) (by exact Nat.le_of_ble_eq_true rfl) (by exact Nat.le_of_ble_eq_true rfl) (by exact Nat.le_of_ble_eq_true rfl) ?_
      refine ⟨rfl, fun z => ?_⟩
      first | (rw [lg_cmp_lt, l_lt] at c_3; omega) | (rw [lg_cmp_le, l_le] at c_10; omega)

set_option maxRecDepth 100000 in
set_option maxHeartbeats 4000000 in
/-- requireOrder -/
theorem m_rqOrder (l : Launch) (hst : l.stackTraces = false) (G : cx_G) (f : Wd) (x y tx ty : Int32) : XV l G yX9_requireOrder wsX9_requireOrder 6 90 1 6 [.int x, .int y, .int tx, .int ty] f (x.toInt ≤ tx.toInt ∧ y.toInt ≤ ty.toInt) (fun E => E = "java/lang/IllegalArgumentException" ∧ ¬ (x.toInt ≤ tx.toInt ∧ y.toInt ≤ ty.toInt)) := by
  refine vx_body (cc := cX9_requireOrder) (n := 4) (ret := none) (by decide +kernel) rfl (Nat.le_of_ble_eq_true rfl) ?_
  intro p0 e0 s0 m0 b0 meth0 c0 ls X hr hnm hout S hl
  have X : cxC G p0 l _ c0 cX9_requireOrder 4 m0 meth0 s0 _ RX9 wsX9_requireOrder := X
  have hl : lv_has ls 4 [(0, .int x), (1, .int y), (2, .int tx), (3, .int ty)] := hl
  refine lv_iload_n X.1 X.2.1 dX9_requireOrder_0 rfl (lv_at hl 2 rfl) ?_
  refine lv_iload_n X.1 X.2.1 dX9_requireOrder_1 rfl (lv_at hl 0 rfl) ?_
  refine lv_icmp_lt (tgt := 10) X.1 X.2.1 dX9_requireOrder_2 (by decide) (fun c_2 => ?_) (fun c_2 => ?_)
  · refine r_throwW (cls := "java/lang/IllegalArgumentException") (text := "the field goes to less than where it begins") X S hst hout rfl hl.1 (by decide +kernel) (by decide +kernel) (by decide +kernel) (by decide +kernel) (by decide +kernel) (by decide +kernel) (by decide +kernel) (by decide +kernel) dX9_requireOrder_10 dX9_requireOrder_13 dX9_requireOrder_14 dX9_requireOrder_17 dX9_requireOrder_20 (by exact Nat.le_of_ble_eq_true rfl) (by exact Nat.le_of_ble_eq_true rfl) (by exact Nat.le_of_ble_eq_true rfl) (by exact Nat.le_of_ble_eq_true rfl) (by exact Nat.le_of_ble_eq_true rfl) (by exact Nat.le_of_ble_eq_true rfl) ?_
    refine ⟨rfl, fun z => ?_⟩
    first | (rw [i_lt] at c_2; omega) | (rw [i_le] at c_7; omega)
  · refine lv_iload_n X.1 X.2.1 dX9_requireOrder_5 rfl (lv_at hl 3 rfl) ?_
    refine lv_iload_n X.1 X.2.1 dX9_requireOrder_6 rfl (lv_at hl 1 rfl) ?_
    refine lv_icmp_ge (tgt := 21) X.1 X.2.1 dX9_requireOrder_7 (by decide) (fun c_7 => ?_) (fun c_7 => ?_)
    · refine vx_ret (e_vw X hr S (by exact Nat.le_of_ble_eq_true rfl) (by exact Nat.le_of_ble_eq_true rfl) dX9_requireOrder_21 ?_)
      rw [i_lt] at c_2
      rw [i_le] at c_7
      exact ⟨by omega, by omega⟩
    · refine r_throwW (cls := "java/lang/IllegalArgumentException") (text := "the field goes to less than where it begins") X S hst hout rfl hl.1 (by decide +kernel) (by decide +kernel) (by decide +kernel) (by decide +kernel) (by decide +kernel) (by decide +kernel) (by decide +kernel) (by decide +kernel) dX9_requireOrder_10 dX9_requireOrder_13 dX9_requireOrder_14 dX9_requireOrder_17 dX9_requireOrder_20 (by exact Nat.le_of_ble_eq_true rfl) (by exact Nat.le_of_ble_eq_true rfl) (by exact Nat.le_of_ble_eq_true rfl) (by exact Nat.le_of_ble_eq_true rfl) (by exact Nat.le_of_ble_eq_true rfl) (by exact Nat.le_of_ble_eq_true rfl) ?_
      refine ⟨rfl, fun z => ?_⟩
      first | (rw [i_lt] at c_2; omega) | (rw [i_le] at c_7; omega)

set_option maxRecDepth 100000 in
set_option maxHeartbeats 4000000 in
/-- requireCrater -/
theorem m_rqCrater (l : Launch) (hst : l.stackTraces = false) (G : cx_G) (f : Wd) (st : St) (x gr rw1 L1 L2 L3 cu L4 : Nat) (g1 g2 g3 g4 : Nat → Nat) (w : Nat → Int32) (hI : sInv st) (hR : RXx G f st x gr rw1 L1 L2 L3 cu L4 g1 g2 g3 g4 w) (c : Int32) : XV l G yX9_requireCrater wsX9_requireCrater 6 90 1 6 [.ref x, .int c] f (inI c 0 ((st 0 0 : Int) - 1)) (fun E => E = "java/lang/IndexOutOfBoundsException" ∧ ¬ inI c 0 ((st 0 0 : Int) - 1)) := by
  refine vx_body (cc := cX9_requireCrater) (n := 2) (ret := none) (by decide +kernel) rfl (Nat.le_of_ble_eq_true rfl) ?_
  intro p0 e0 s0 m0 b0 meth0 c0 ls X hr hnm hout S hl
  have X : cxC G p0 l _ c0 cX9_requireCrater 2 m0 meth0 s0 _ RX9 wsX9_requireCrater := X
  have hl : lv_has ls 2 [(0, .ref x), (1, .int c)] := hl
  have in_RX9 : ∀ w ∈ u_ws RX9 TX9 6, w ∈ wsX9_requireCrater := by decide +kernel
  obtain ⟨hi0, hi1, hi2, hi3, hi4, hi5, hi6, hi7⟩ := id hI
  obtain ⟨hx, hgr, hrw, hgd, hL1, hC, hL2, hS2, hL3, hE, hcu, hL4, hA⟩ := id hR
  refine lv_iload_n X.1 X.2.1 dX9_requireCrater_0 rfl (lv_at hl 1 rfl) ?_
  refine lv_if_lt (tgt := 15) X.1 X.2.1 dX9_requireCrater_1 (by decide) (fun c_1 => ?_) (fun c_1 => ?_)
  · refine r_throw (cls := "java/lang/IndexOutOfBoundsException") (text := "no such crater") X S hst hout rfl hl.1 (by decide +kernel) (by decide +kernel) (by decide +kernel) (by decide +kernel) (by decide +kernel) (by decide +kernel) (by decide +kernel) (by decide +kernel) dX9_requireCrater_15 dX9_requireCrater_18 dX9_requireCrater_19 dX9_requireCrater_21 dX9_requireCrater_24 (by exact Nat.le_of_ble_eq_true rfl) (by exact Nat.le_of_ble_eq_true rfl) (by exact Nat.le_of_ble_eq_true rfl) (by exact Nat.le_of_ble_eq_true rfl) (by exact Nat.le_of_ble_eq_true rfl) (by exact Nat.le_of_ble_eq_true rfl) ?_
    refine ⟨rfl, fun z => ?_⟩
    obtain ⟨z1, z2⟩ := z
    first | (rw [i_lt0] at c_1; omega) | (rw [i_lt, i_n (by omega)] at c_12; omega)
  · refine lv_iload_n X.1 X.2.1 dX9_requireCrater_4 rfl (lv_at hl 1 rfl) ?_
    refine lv_aload_n X.1 X.2.1 dX9_requireCrater_5 rfl (lv_at hl 0 rfl) ?_
    refine r_get (C := RX9) (T := TX9) (N := 6) (ref := "Craterclock") X S in_RX9 hx rfl 1 (by decide) (by decide +kernel) (fun _ h => h) rfl dX9_requireCrater_6 ?_
    refine call_ip (run_V X S (m_sizeL l G f L1 3 (st 0 0) g1 hL1) 0 gX9_requireCrater_Jx4a65c_size_8abf5 rfl rfl rfl (by decide +kernel) ⟨(by exact Nat.le_of_ble_eq_true rfl), (by exact Nat.le_of_ble_eq_true rfl)⟩ hL1.obj rfl rfl rfl hl.1 rfl (by exact Nat.le_of_ble_eq_true rfl) dX9_requireCrater_9 ⟨(Nat.zero_le _), (Nat.zero_le _)⟩) S (fun r_9 H locs hr_9 S => ?_)
    subst hr_9
    refine lv_icmp_lt (tgt := 25) X.1 X.2.1 dX9_requireCrater_12 (by decide) (fun c_12 => ?_) (fun c_12 => ?_)
    · refine vx_ret (e_vw X hr S (by exact Nat.le_of_ble_eq_true rfl) (by exact Nat.le_of_ble_eq_true rfl) dX9_requireCrater_25 ?_)
      rw [i_lt0] at c_1
      rw [i_lt, i_n (by omega)] at c_12
      exact ⟨by omega, by omega⟩
    · refine r_throw (cls := "java/lang/IndexOutOfBoundsException") (text := "no such crater") X S hst hout rfl hl.1 (by decide +kernel) (by decide +kernel) (by decide +kernel) (by decide +kernel) (by decide +kernel) (by decide +kernel) (by decide +kernel) (by decide +kernel) dX9_requireCrater_15 dX9_requireCrater_18 dX9_requireCrater_19 dX9_requireCrater_21 dX9_requireCrater_24 (by exact Nat.le_of_ble_eq_true rfl) (by exact Nat.le_of_ble_eq_true rfl) (by exact Nat.le_of_ble_eq_true rfl) (by exact Nat.le_of_ble_eq_true rfl) (by exact Nat.le_of_ble_eq_true rfl) (by exact Nat.le_of_ble_eq_true rfl) ?_
      refine ⟨rfl, fun z => ?_⟩
      obtain ⟨z1, z2⟩ := z
      first | (rw [i_lt0] at c_1; omega) | (rw [i_lt, i_n (by omega)] at c_12; omega)

set_option maxRecDepth 100000 in
set_option maxHeartbeats 4000000 in
/-- requireEyeAndCells -/
theorem m_rqEye (l : Launch) (hst : l.stackTraces = false) (G : cx_G) (f : Wd) (st : St) (x gr rw1 L1 L2 L3 cu L4 : Nat) (g1 g2 g3 g4 : Nat → Nat) (w : Nat → Int32) (hI : sInv st) (hR : RXx G f st x gr rw1 L1 L2 L3 cu L4 g1 g2 g3 g4 w) (c x0 y0 tx ty : Int32) : XV l G yX9_requireEyeAndCells wsX9_requireEyeAndCells 7 111 3 18 [.ref x, .int c, .int x0, .int y0, .int tx, .int ty] f (inI c 0 ((st 0 2 : Int) - 1) ∧ cellP x0 y0 ∧ cellP tx ty) (fun E => E = "java/lang/IndexOutOfBoundsException" ∧ ¬ (inI c 0 ((st 0 2 : Int) - 1) ∧ cellP x0 y0 ∧ cellP tx ty)) := by
  refine vx_body (cc := cX9_requireEyeAndCells) (n := 6) (ret := none) (by decide +kernel) rfl (Nat.le_of_ble_eq_true rfl) ?_
  intro p0 e0 s0 m0 b0 meth0 c0 ls X hr hnm hout S hl
  have X : cxC G p0 l _ c0 cX9_requireEyeAndCells 6 m0 meth0 s0 _ RX9 wsX9_requireEyeAndCells := X
  have hl : lv_has ls 6 [(0, .ref x), (1, .int c), (2, .int x0), (3, .int y0), (4, .int tx), (5, .int ty)] := hl
  have in_RX9 : ∀ w ∈ u_ws RX9 TX9 6, w ∈ wsX9_requireEyeAndCells := by decide +kernel
  obtain ⟨hi0, hi1, hi2, hi3, hi4, hi5, hi6, hi7⟩ := id hI
  obtain ⟨hx, hgr, hrw, hgd, hL1, hC, hL2, hS2, hL3, hE, hcu, hL4, hA⟩ := id hR
  refine lv_iload_n X.1 X.2.1 dX9_requireEyeAndCells_0 rfl (lv_at hl 1 rfl) ?_
  refine lv_if_lt (tgt := 15) X.1 X.2.1 dX9_requireEyeAndCells_1 (by decide) (fun c_1 => ?_) (fun c_1 => ?_)
  · refine r_throw (cls := "java/lang/IndexOutOfBoundsException") (text := "no such eye") X S hst hout rfl hl.1 (by decide +kernel) (by decide +kernel) (by decide +kernel) (by decide +kernel) (by decide +kernel) (by decide +kernel) (by decide +kernel) (by decide +kernel) dX9_requireEyeAndCells_15 dX9_requireEyeAndCells_18 dX9_requireEyeAndCells_19 dX9_requireEyeAndCells_21 dX9_requireEyeAndCells_24 (by exact Nat.le_of_ble_eq_true rfl) (by exact Nat.le_of_ble_eq_true rfl) (by exact Nat.le_of_ble_eq_true rfl) (by exact Nat.le_of_ble_eq_true rfl) (by exact Nat.le_of_ble_eq_true rfl) (by exact Nat.le_of_ble_eq_true rfl) ?_
    refine ⟨rfl, fun z => ?_⟩
    obtain ⟨⟨z1, z2⟩, -⟩ := z
    first | (rw [i_lt0] at c_1; omega) | (rw [i_lt, i_n (by omega)] at c_12; omega)
  · refine lv_iload_n X.1 X.2.1 dX9_requireEyeAndCells_4 rfl (lv_at hl 1 rfl) ?_
    refine lv_aload_n X.1 X.2.1 dX9_requireEyeAndCells_5 rfl (lv_at hl 0 rfl) ?_
    refine r_get (C := RX9) (T := TX9) (N := 6) (ref := "Craterclock") X S in_RX9 hx rfl 3 (by decide) (by decide +kernel) (fun _ h => h) rfl dX9_requireEyeAndCells_6 ?_
    refine call_ip (run_V X S (m_sizeL l G f L3 5 (st 0 2) g3 hL3) 0 gX9_requireEyeAndCells_Jx4a65c_size_8abf5 rfl rfl rfl (by decide +kernel) ⟨(by exact Nat.le_of_ble_eq_true rfl), (by exact Nat.le_of_ble_eq_true rfl)⟩ hL3.obj rfl rfl rfl hl.1 rfl (by exact Nat.le_of_ble_eq_true rfl) dX9_requireEyeAndCells_9 ⟨(Nat.zero_le _), (Nat.zero_le _)⟩) S (fun r_9 H locs hr_9 S => ?_)
    subst hr_9
    refine lv_icmp_lt (tgt := 25) X.1 X.2.1 dX9_requireEyeAndCells_12 (by decide) (fun c_12 => ?_) (fun c_12 => ?_)
    · refine lv_iload_n X.1 X.2.1 dX9_requireEyeAndCells_25 rfl (lv_at hl 2 rfl) ?_
      refine lv_iload_n X.1 X.2.1 dX9_requireEyeAndCells_26 rfl (lv_at hl 3 rfl) ?_
      refine xcall_v (xrun_S X S (m_rqCell l hst G f x0 y0) 2 gX9_requireEyeAndCells_X9_requireCell rfl rfl rfl (by decide +kernel) ⟨(by exact Nat.le_of_ble_eq_true rfl), (by exact Nat.le_of_ble_eq_true rfl)⟩ rfl hl.1 rfl (by exact Nat.le_of_ble_eq_true rfl) dX9_requireEyeAndCells_27 ⟨(by exact Nat.le_of_ble_eq_true rfl), (by exact Nat.le_of_ble_eq_true rfl)⟩) S hout X.2.2.2.2.2.2.2 (by exact Nat.le_of_ble_eq_true rfl) (by exact Nat.le_of_ble_eq_true rfl) (fun E hE => ⟨hE.1, fun z => hE.2 z.2.1⟩) (fun H locs hr_27 S => ?_)
      refine lv_iload X.1 X.2.1 dX9_requireEyeAndCells_30 (lv_at hl 4 rfl) ?_
      refine lv_iload X.1 X.2.1 dX9_requireEyeAndCells_32 (lv_at hl 5 rfl) ?_
      refine xcall_v (xrun_S X S (m_rqCell l hst G f tx ty) 2 gX9_requireEyeAndCells_X9_requireCell rfl rfl rfl (by decide +kernel) ⟨(by exact Nat.le_of_ble_eq_true rfl), (by exact Nat.le_of_ble_eq_true rfl)⟩ rfl hl.1 rfl (by exact Nat.le_of_ble_eq_true rfl) dX9_requireEyeAndCells_34 ⟨(by exact Nat.le_of_ble_eq_true rfl), (by exact Nat.le_of_ble_eq_true rfl)⟩) S hout X.2.2.2.2.2.2.2 (by exact Nat.le_of_ble_eq_true rfl) (by exact Nat.le_of_ble_eq_true rfl) (fun E hE => ⟨hE.1, fun z => hE.2 z.2.2⟩) (fun H locs hr_34 S => ?_)
      refine vx_ret (e_vw X hr S (by exact Nat.le_of_ble_eq_true rfl) (by exact Nat.le_of_ble_eq_true rfl) dX9_requireEyeAndCells_37 ?_)
      rw [i_lt0] at c_1
      rw [i_lt, i_n (by omega)] at c_12
      exact ⟨⟨by omega, by omega⟩, hr_27, hr_34⟩
    · refine r_throw (cls := "java/lang/IndexOutOfBoundsException") (text := "no such eye") X S hst hout rfl hl.1 (by decide +kernel) (by decide +kernel) (by decide +kernel) (by decide +kernel) (by decide +kernel) (by decide +kernel) (by decide +kernel) (by decide +kernel) dX9_requireEyeAndCells_15 dX9_requireEyeAndCells_18 dX9_requireEyeAndCells_19 dX9_requireEyeAndCells_21 dX9_requireEyeAndCells_24 (by exact Nat.le_of_ble_eq_true rfl) (by exact Nat.le_of_ble_eq_true rfl) (by exact Nat.le_of_ble_eq_true rfl) (by exact Nat.le_of_ble_eq_true rfl) (by exact Nat.le_of_ble_eq_true rfl) (by exact Nat.le_of_ble_eq_true rfl) ?_
      refine ⟨rfl, fun z => ?_⟩
      obtain ⟨⟨z1, z2⟩, -⟩ := z
      first | (rw [i_lt0] at c_1; omega) | (rw [i_lt, i_n (by omega)] at c_12; omega)

set_option maxRecDepth 100000 in
set_option maxHeartbeats 4000000 in
/-- requireRoomForCraters -/
theorem m_rqRoomC (l : Launch) (hst : l.stackTraces = false) (G : cx_G) (f : Wd) (st : St) (x gr rw1 L1 L2 L3 cu L4 : Nat) (g1 g2 g3 g4 : Nat → Nat) (w : Nat → Int32) (hI : sInv st) (hR : RXx G f st x gr rw1 L1 L2 L3 cu L4 g1 g2 g3 g4 w) (m : Nat) (hm : m ≤ 30) : XV l G yX9_requireRoomForCraters wsX9_requireRoomForCraters 6 90 1 6 [.ref x, .int (nI m)] f (st 0 0 + m ≤ 200) (fun E => E = "java/lang/IllegalStateException" ∧ ¬ st 0 0 + m ≤ 200) := by
  refine vx_body (cc := cX9_requireRoomForCraters) (n := 2) (ret := none) (by decide +kernel) rfl (Nat.le_of_ble_eq_true rfl) ?_
  intro p0 e0 s0 m0 b0 meth0 c0 ls X hr hnm hout S hl
  have X : cxC G p0 l _ c0 cX9_requireRoomForCraters 2 m0 meth0 s0 _ RX9 wsX9_requireRoomForCraters := X
  have hl : lv_has ls 2 [(0, .ref x), (1, .int (nI m))] := hl
  have in_RX9 : ∀ w ∈ u_ws RX9 TX9 6, w ∈ wsX9_requireRoomForCraters := by decide +kernel
  obtain ⟨hi0, hi1, hi2, hi3, hi4, hi5, hi6, hi7⟩ := id hI
  obtain ⟨hx, hgr, hrw, hgd, hL1, hC, hL2, hS2, hL3, hE, hcu, hL4, hA⟩ := id hR
  refine lv_aload_n X.1 X.2.1 dX9_requireRoomForCraters_0 rfl (lv_at hl 0 rfl) ?_
  refine r_get (C := RX9) (T := TX9) (N := 6) (ref := "Craterclock") X S in_RX9 hx rfl 1 (by decide) (by decide +kernel) (fun _ h => h) rfl dX9_requireRoomForCraters_1 ?_
  refine call_ip (run_V X S (m_sizeL l G f L1 3 (st 0 0) g1 hL1) 0 gX9_requireRoomForCraters_Jx4a65c_size_8abf5 rfl rfl rfl (by decide +kernel) ⟨(by exact Nat.le_of_ble_eq_true rfl), (by exact Nat.le_of_ble_eq_true rfl)⟩ hL1.obj rfl rfl rfl hl.1 rfl (by exact Nat.le_of_ble_eq_true rfl) dX9_requireRoomForCraters_4 ⟨(Nat.zero_le _), (Nat.zero_le _)⟩) S (fun r_4 H locs hr_4 S => ?_)
  subst hr_4
  refine lv_iload_n X.1 X.2.1 dX9_requireRoomForCraters_7 rfl (lv_at hl 1 rfl) ?_
  refine lv_iadd X.1 X.2.1 dX9_requireRoomForCraters_8 ?_
  refine r_toi (nI_add _ _) ?_
  refine lv_sipush (v := 200) X.1 X.2.1 dX9_requireRoomForCraters_9 (by decide) ?_
  refine lv_icmp_le (tgt := 26) X.1 X.2.1 dX9_requireRoomForCraters_12 (by decide) (fun c_12 => ?_) (fun c_12 => ?_)
  · refine vx_ret (e_vw X hr S (by exact Nat.le_of_ble_eq_true rfl) (by exact Nat.le_of_ble_eq_true rfl) dX9_requireRoomForCraters_26 ?_)
    exact nI_le_lit (b := 200) (by omega) (by omega) c_12
  · refine r_throwW (cls := "java/lang/IllegalStateException") (text := "there would be more than 200 craters") X S hst hout rfl hl.1 (by decide +kernel) (by decide +kernel) (by decide +kernel) (by decide +kernel) (by decide +kernel) (by decide +kernel) (by decide +kernel) (by decide +kernel) dX9_requireRoomForCraters_15 dX9_requireRoomForCraters_18 dX9_requireRoomForCraters_19 dX9_requireRoomForCraters_22 dX9_requireRoomForCraters_25 (by exact Nat.le_of_ble_eq_true rfl) (by exact Nat.le_of_ble_eq_true rfl) (by exact Nat.le_of_ble_eq_true rfl) (by exact Nat.le_of_ble_eq_true rfl) (by exact Nat.le_of_ble_eq_true rfl) (by exact Nat.le_of_ble_eq_true rfl) ?_
    exact ⟨rfl, fun z => c_12 (nI_le (b := 200) z (by omega))⟩

set_option maxRecDepth 100000 in
set_option maxHeartbeats 4000000 in
/-- requireRoomForLessening -/
theorem m_rqRoomL (l : Launch) (hst : l.stackTraces = false) (G : cx_G) (f : Wd) (st : St) (x gr rw1 L1 L2 L3 cu L4 : Nat) (g1 g2 g3 g4 : Nat → Nat) (w : Nat → Int32) (hI : sInv st) (hR : RXx G f st x gr rw1 L1 L2 L3 cu L4 g1 g2 g3 g4 w) : XV l G yX9_requireRoomForLessening wsX9_requireRoomForLessening 6 90 1 6 [.ref x] f (st 0 1 < 100) (fun E => E = "java/lang/IllegalStateException" ∧ ¬ st 0 1 < 100) := by
  refine vx_body (cc := cX9_requireRoomForLessening) (n := 1) (ret := none) (by decide +kernel) rfl (Nat.le_of_ble_eq_true rfl) ?_
  intro p0 e0 s0 m0 b0 meth0 c0 ls X hr hnm hout S hl
  have X : cxC G p0 l _ c0 cX9_requireRoomForLessening 1 m0 meth0 s0 _ RX9 wsX9_requireRoomForLessening := X
  have hl : lv_has ls 1 [(0, .ref x)] := hl
  have in_RX9 : ∀ w ∈ u_ws RX9 TX9 6, w ∈ wsX9_requireRoomForLessening := by decide +kernel
  obtain ⟨hi0, hi1, hi2, hi3, hi4, hi5, hi6, hi7⟩ := id hI
  obtain ⟨hx, hgr, hrw, hgd, hL1, hC, hL2, hS2, hL3, hE, hcu, hL4, hA⟩ := id hR
  refine lv_aload_n X.1 X.2.1 dX9_requireRoomForLessening_0 rfl (lv_at hl 0 rfl) ?_
  refine r_get (C := RX9) (T := TX9) (N := 6) (ref := "Craterclock") X S in_RX9 hx rfl 2 (by decide) (by decide +kernel) (fun _ h => h) rfl dX9_requireRoomForLessening_1 ?_
  refine call_ip (run_V X S (m_sizeL l G f L2 4 (st 0 1) g2 hL2) 0 gX9_requireRoomForLessening_Jx4a65c_size_8abf5 rfl rfl rfl (by decide +kernel) ⟨(by exact Nat.le_of_ble_eq_true rfl), (by exact Nat.le_of_ble_eq_true rfl)⟩ hL2.obj rfl rfl rfl hl.1 rfl (by exact Nat.le_of_ble_eq_true rfl) dX9_requireRoomForLessening_4 ⟨(Nat.zero_le _), (Nat.zero_le _)⟩) S (fun r_4 H locs hr_4 S => ?_)
  subst hr_4
  refine lv_bipush (v := 100) X.1 X.2.1 dX9_requireRoomForLessening_7 (by decide) ?_
  refine lv_icmp_lt (tgt := 23) X.1 X.2.1 dX9_requireRoomForLessening_9 (by decide) (fun c_9 => ?_) (fun c_9 => ?_)
  · refine vx_ret (e_vw X hr S (by exact Nat.le_of_ble_eq_true rfl) (by exact Nat.le_of_ble_eq_true rfl) dX9_requireRoomForLessening_23 ?_)
    exact (nI_ltI (b := 100) (by omega) (by omega)).mp c_9
  · refine r_throwW (cls := "java/lang/IllegalStateException") (text := "100 floods and softenings were told") X S hst hout rfl hl.1 (by decide +kernel) (by decide +kernel) (by decide +kernel) (by decide +kernel) (by decide +kernel) (by decide +kernel) (by decide +kernel) (by decide +kernel) dX9_requireRoomForLessening_12 dX9_requireRoomForLessening_15 dX9_requireRoomForLessening_16 dX9_requireRoomForLessening_19 dX9_requireRoomForLessening_22 (by exact Nat.le_of_ble_eq_true rfl) (by exact Nat.le_of_ble_eq_true rfl) (by exact Nat.le_of_ble_eq_true rfl) (by exact Nat.le_of_ble_eq_true rfl) (by exact Nat.le_of_ble_eq_true rfl) (by exact Nat.le_of_ble_eq_true rfl) ?_
    exact ⟨rfl, fun z => c_9 (nI_lt (b := 100) z (by omega))⟩
