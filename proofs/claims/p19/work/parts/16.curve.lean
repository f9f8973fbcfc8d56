/-! the class: the curve, the draws -/
theorem nI_le_lit {a b : Nat} (ha : a < 2 ^ 31) (hb : b < 2 ^ 31) (h : nI a ≤ nI b) : a ≤ b := (nI_leI ha hb).mp h
theorem lN_ltn {a b : Nat} (ha : a < 2 ^ 63) (hb : b < 2 ^ 63) (h : lN a < lN b) : a < b := (pk_lLT ha hb).mp h
theorem lN_len {a b : Nat} (ha : a < 2 ^ 63) (hb : b < 2 ^ 63) (h : lN a ≤ lN b) : a ≤ b := (pk_lLE ha hb).mp h
theorem lN_subn {a b : Nat} (h : b ≤ a) : lN a - lN b = lN (a - b) := lN_sub h
/-- the age by the anchor k, the first whose density is not less -/
def ageAt (st : St) (d k : Nat) : Nat := if k = 0 then st 10 0 * d / st 11 0 else st 10 (k - 1) + (st 10 k - st 10 (k - 1)) * (d - st 11 (k - 1)) / (st 11 k - st 11 (k - 1))
theorem anch_lt (st : St) (hI : sInv st) {i j : Nat} (h : i < j) (hj : j < st 0 3) : st 10 i < st 10 j ∧ st 11 i < st 11 j := by
  induction j with
  | zero => omega
  | succ j ih =>
    have h1 := hI.2.2.2.2.2.2.1 j hj
    by_cases q : i = j
    · subst q; exact h1
    · have h2 := ih (by omega) (by omega)
      omega
set_option maxRecDepth 100000 in
set_option maxHeartbeats 4000000 in
/-- Curve.canTake -/
theorem m_canTake (l : Launch) (G : cx_G) (f : Wd) (st : St) (x gr rw1 L1 L2 L3 cu L4 : Nat) (g1 g2 g3 g4 : Nat → Nat) (w : Nat → Int32) (hI : sInv st) (hR : RXx G f st x gr rw1 L1 L2 L3 cu L4 g1 g2 g3 g4 w) (u v : Nat) (hu : u < 2 ^ 62) (hv : v < 2 ^ 62) : PI l G yX2_canTake wsX2_canTake 3 64 [.ref cu, .long (lN u), .long (lN v)] f (fun r => r = b2i (decide (st 0 3 = 0 ∨ st 0 3 < 8 ∧ st 10 (st 0 3 - 1) < u ∧ st 11 (st 0 3 - 1) < v))) := by
  refine cx_body (cc := cX2_canTake) (n := 7) (ret := (some .boolean)) (by decide +kernel) rfl (Nat.le_of_ble_eq_true rfl) ?_
  intro p0 e0 s0 m0 b0 meth0 c0 ls X hr hnm S hl
  have X : cxC G p0 l _ c0 cX2_canTake 7 m0 meth0 s0 _ RX2 wsX2_canTake := X
  have hl : lv_has ls 7 [(0, .ref cu), (1, .long (lN u)), (3, .long (lN v))] := hl
  have in_RX0 : ∀ w ∈ u_ws RX0 TX0 2, w ∈ wsX2_canTake := by decide +kernel
  have in_RX2 : ∀ w ∈ u_ws RX2 TX2 1, w ∈ wsX2_canTake := by decide +kernel
  obtain ⟨hi0, hi1, hi2, hi3, hi4, hi5, hi6, hi7⟩ := id hI
  obtain ⟨hx, hgr, hrw, hgd, hL1, hC, hL2, hS2, hL3, hE, hcu, hL4, hA⟩ := id hR
  refine lv_aload_n X.1 X.2.1 dX2_canTake_0 rfl (lv_at hl 0 rfl) ?_
  refine r_get (C := RX2) (T := TX2) (N := 1) (ref := "Craterclock$Curve") X S in_RX2 hcu rfl 0 (by decide) (by decide +kernel) (fun _ h => h) rfl dX2_canTake_1 ?_
  refine call_ip (run_V X S (m_sizeL l G f L4 7 (st 0 3) g4 hL4) 0 gX2_canTake_Jx4a65c_size_8abf5 rfl rfl rfl (by decide +kernel) ⟨(by exact Nat.le_of_ble_eq_true rfl), (by exact Nat.le_of_ble_eq_true rfl)⟩ hL4.obj rfl rfl rfl hl.1 rfl (by exact Nat.le_of_ble_eq_true rfl) dX2_canTake_4 ⟨(Nat.zero_le _), (Nat.zero_le _)⟩) S (fun r_4 H locs hr_4 S => ?_)
  subst hr_4
  refine lv_istore (lv' := [(5, .int (nI (st 0 3))), (0, .ref cu), (1, .long (lN u)), (3, .long (lN v))]) X.1 X.2.1 dX2_canTake_7 hl (by decide) rfl (fun ls hl => ?_)
  refine lv_iload X.1 X.2.1 dX2_canTake_9 (lv_at hl 0 rfl) ?_
  refine lv_if_ne (tgt := 16) X.1 X.2.1 dX2_canTake_11 (by decide) (fun c_11 => ?_) (fun c_11 => ?_)
  · have hn0 : 0 < st 0 3 := Nat.pos_of_ne_zero (fun z => c_11 (by rw [z]; rfl))
    have hlt_st031 : st 0 3 - 1 < st 0 3 := by omega
    have hab := hi5 (st 0 3 - 1) hlt_st031
    refine lv_aload_n X.1 X.2.1 dX2_canTake_16 rfl (lv_at hl 1 rfl) ?_
    refine r_get (C := RX2) (T := TX2) (N := 1) (ref := "Craterclock$Curve") X S in_RX2 hcu rfl 0 (by decide) (by decide +kernel) (fun _ h => h) rfl dX2_canTake_17 ?_
    refine lv_iload X.1 X.2.1 dX2_canTake_20 (lv_at hl 0 rfl) ?_
    refine lv_iconst (v := 1) X.1 X.2.1 dX2_canTake_22 (by decide) ?_
    refine lv_isub X.1 X.2.1 dX2_canTake_23 ?_
    refine r_toi (nI_m1 hn0) ?_
    refine call_rp (run_V X S (m_get l G f L4 7 (st 0 3) (st 0 3 - 1) g4 hL4 hlt_st031 (by omega)) 1 gX2_canTake_Jx4a65c_get_915e3 rfl rfl rfl (by decide +kernel) ⟨(by exact Nat.le_of_ble_eq_true rfl), (by exact Nat.le_of_ble_eq_true rfl)⟩ hL4.obj rfl rfl rfl hl.1 rfl (by exact Nat.le_of_ble_eq_true rfl) dX2_canTake_24 ⟨(Nat.zero_le _), (Nat.zero_le _)⟩) S (fun r_24 H locs hr_24 S => ?_)
    subst hr_24
    refine r_castS X S (nm := RX0) rfl (by decide +kernel) (hA (st 0 3 - 1) hlt_st031) rfl dX2_canTake_27 ?_
    refine lv_astore (lv' := [(6, .ref (g4 (st 0 3 - 1))), (5, .int (nI (st 0 3))), (0, .ref cu), (1, .long (lN u)), (3, .long (lN v))]) X.1 X.2.1 dX2_canTake_30 hl (by decide) rfl (fun ls hl => ?_)
    refine lv_iload X.1 X.2.1 dX2_canTake_32 (lv_at hl 1 rfl) ?_
    refine lv_bipush (v := 8) X.1 X.2.1 dX2_canTake_34 (by decide) ?_
    refine lv_icmp_ge (tgt := 63) X.1 X.2.1 dX2_canTake_36 (by decide) (fun c_36 => ?_) (fun c_36 => ?_)
    · refine lv_iconst (v := 0) X.1 X.2.1 dX2_canTake_63 (by decide) ?_
      refine e_zp X hr S dX2_canTake_64 rfl ?_
      first | exact b2i_f (fun z => by rcases z with z | z; omega; exact nI_ge z.1 (by omega) c_36) | exact b2i_f (fun z => by rcases z with z | z; omega; exact absurd (lN_len (by omega) (by omega) ((lg_cmp_le _ _).mp c_46)) (by omega)) | exact b2i_f (fun z => by rcases z with z | z; omega; exact absurd (lN_len (by omega) (by omega) ((lg_cmp_le _ _).mp c_56)) (by omega))
    · refine lv_lload_n X.1 X.2.1 dX2_canTake_39 rfl (lv_at hl 3 rfl) ?_
      refine lv_aload X.1 X.2.1 dX2_canTake_40 (lv_at hl 0 rfl) ?_
      refine r_get (C := RX0) (T := TX0) (N := 2) (ref := "Craterclock$Anchor") X S in_RX0 (hA (st 0 3 - 1) hlt_st031) rfl 0 (by decide) (by decide +kernel) (fun _ h => h) rfl dX2_canTake_42 ?_
      refine W.lcmp X.1 X.2.1 dX2_canTake_45 ?_
      refine lv_if_le (tgt := 63) X.1 X.2.1 dX2_canTake_46 (by decide) (fun c_46 => ?_) (fun c_46 => ?_)
      · refine lv_iconst (v := 0) X.1 X.2.1 dX2_canTake_63 (by decide) ?_
        refine e_zp X hr S dX2_canTake_64 rfl ?_
        first | exact b2i_f (fun z => by rcases z with z | z; omega; exact nI_ge z.1 (by omega) c_36) | exact b2i_f (fun z => by rcases z with z | z; omega; exact absurd (lN_len (by omega) (by omega) ((lg_cmp_le _ _).mp c_46)) (by omega)) | exact b2i_f (fun z => by rcases z with z | z; omega; exact absurd (lN_len (by omega) (by omega) ((lg_cmp_le _ _).mp c_56)) (by omega))
      · refine lv_lload_n X.1 X.2.1 dX2_canTake_49 rfl (lv_at hl 4 rfl) ?_
        refine lv_aload X.1 X.2.1 dX2_canTake_50 (lv_at hl 0 rfl) ?_
        refine r_get (C := RX0) (T := TX0) (N := 2) (ref := "Craterclock$Anchor") X S in_RX0 (hA (st 0 3 - 1) hlt_st031) rfl 1 (by decide) (by decide +kernel) (fun _ h => h) rfl dX2_canTake_52 ?_
        refine W.lcmp X.1 X.2.1 dX2_canTake_55 ?_
        refine lv_if_le (tgt := 63) X.1 X.2.1 dX2_canTake_56 (by decide) (fun c_56 => ?_) (fun c_56 => ?_)
        · refine lv_iconst (v := 0) X.1 X.2.1 dX2_canTake_63 (by decide) ?_
          refine e_zp X hr S dX2_canTake_64 rfl ?_
          first | exact b2i_f (fun z => by rcases z with z | z; omega; exact nI_ge z.1 (by omega) c_36) | exact b2i_f (fun z => by rcases z with z | z; omega; exact absurd (lN_len (by omega) (by omega) ((lg_cmp_le _ _).mp c_46)) (by omega)) | exact b2i_f (fun z => by rcases z with z | z; omega; exact absurd (lN_len (by omega) (by omega) ((lg_cmp_le _ _).mp c_56)) (by omega))
        · refine lv_iconst (v := 1) X.1 X.2.1 dX2_canTake_59 (by decide) ?_
          refine lv_goto (tgt := 64) X.1 X.2.1 dX2_canTake_60 (by decide) ?_
          refine e_zp X hr S dX2_canTake_64 rfl ?_
          exact b2i_t (Or.inr ⟨Nat.lt_of_not_le (fun z => c_36 (nI_le z (by omega))), lN_ltn (by omega) (by omega) (by have z := c_46; rw [lg_cmp_le] at z; exact Int64.not_le.mp z), lN_ltn (by omega) (by omega) (by have z := c_56; rw [lg_cmp_le] at z; exact Int64.not_le.mp z)⟩)
  · have hn0 : st 0 3 = 0 := (nI_eq (b := 0) (by omega) (by omega)).mp c_11
    refine lv_iconst (v := 1) X.1 X.2.1 dX2_canTake_14 (by decide) ?_
    refine e_zp X hr S dX2_canTake_15 rfl ?_
    exact b2i_t (Or.inl hn0)

set_option maxRecDepth 100000 in
set_option maxHeartbeats 4000000 in
/-- Curve.lackFor -/
theorem m_lackFor (l : Launch) (G : cx_G) (f : Wd) (st : St) (x gr rw1 L1 L2 L3 cu L4 : Nat) (g1 g2 g3 g4 : Nat → Nat) (w : Nat → Int32) (hI : sInv st) (hR : RXx G f st x gr rw1 L1 L2 L3 cu L4 g1 g2 g3 g4 w) (d : Nat) (hd : d < 2 ^ 62) : PI l G yX2_lackFor wsX2_lackFor 3 64 [.ref cu, .long (lN d)] f (fun r => r = nI (if st 0 3 < 2 then 1 else if st 11 (st 0 3 - 1) < d then 2 else 0)) := by
  refine cx_body (cc := cX2_lackFor) (n := 4) (ret := (some .int)) (by decide +kernel) rfl (Nat.le_of_ble_eq_true rfl) ?_
  intro p0 e0 s0 m0 b0 meth0 c0 ls X hr hnm S hl
  have X : cxC G p0 l _ c0 cX2_lackFor 4 m0 meth0 s0 _ RX2 wsX2_lackFor := X
  have hl : lv_has ls 4 [(0, .ref cu), (1, .long (lN d))] := hl
  have in_RX0 : ∀ w ∈ u_ws RX0 TX0 2, w ∈ wsX2_lackFor := by decide +kernel
  have in_RX2 : ∀ w ∈ u_ws RX2 TX2 1, w ∈ wsX2_lackFor := by decide +kernel
  obtain ⟨hi0, hi1, hi2, hi3, hi4, hi5, hi6, hi7⟩ := id hI
  obtain ⟨hx, hgr, hrw, hgd, hL1, hC, hL2, hS2, hL3, hE, hcu, hL4, hA⟩ := id hR
  refine lv_aload_n X.1 X.2.1 dX2_lackFor_0 rfl (lv_at hl 0 rfl) ?_
  refine r_get (C := RX2) (T := TX2) (N := 1) (ref := "Craterclock$Curve") X S in_RX2 hcu rfl 0 (by decide) (by decide +kernel) (fun _ h => h) rfl dX2_lackFor_1 ?_
  refine call_ip (run_V X S (m_sizeL l G f L4 7 (st 0 3) g4 hL4) 0 gX2_lackFor_Jx4a65c_size_8abf5 rfl rfl rfl (by decide +kernel) ⟨(by exact Nat.le_of_ble_eq_true rfl), (by exact Nat.le_of_ble_eq_true rfl)⟩ hL4.obj rfl rfl rfl hl.1 rfl (by exact Nat.le_of_ble_eq_true rfl) dX2_lackFor_4 ⟨(Nat.zero_le _), (Nat.zero_le _)⟩) S (fun r_4 H locs hr_4 S => ?_)
  subst hr_4
  refine lv_istore_n (lv' := [(3, .int (nI (st 0 3))), (0, .ref cu), (1, .long (lN d))]) X.1 X.2.1 dX2_lackFor_7 rfl hl (by decide) rfl (fun ls hl => ?_)
  refine lv_iload_n X.1 X.2.1 dX2_lackFor_8 rfl (lv_at hl 0 rfl) ?_
  refine lv_iconst (v := 2) X.1 X.2.1 dX2_lackFor_9 (by decide) ?_
  refine lv_icmp_ge (tgt := 15) X.1 X.2.1 dX2_lackFor_10 (by decide) (fun c_10 => ?_) (fun c_10 => ?_)
  · have hn2 : 2 ≤ st 0 3 := nI_le_lit (a := 2) (by omega) (by omega) c_10
    have hn0 : 0 < st 0 3 := by omega
    have hlt_st031 : st 0 3 - 1 < st 0 3 := by omega
    have hab := hi5 (st 0 3 - 1) hlt_st031
    refine lv_lload_n X.1 X.2.1 dX2_lackFor_15 rfl (lv_at hl 2 rfl) ?_
    refine lv_aload_n X.1 X.2.1 dX2_lackFor_16 rfl (lv_at hl 1 rfl) ?_
    refine r_get (C := RX2) (T := TX2) (N := 1) (ref := "Craterclock$Curve") X S in_RX2 hcu rfl 0 (by decide) (by decide +kernel) (fun _ h => h) rfl dX2_lackFor_17 ?_
    refine lv_iload_n X.1 X.2.1 dX2_lackFor_20 rfl (lv_at hl 0 rfl) ?_
    refine lv_iconst (v := 1) X.1 X.2.1 dX2_lackFor_21 (by decide) ?_
    refine lv_isub X.1 X.2.1 dX2_lackFor_22 ?_
    refine r_toi (nI_m1 hn0) ?_
    refine call_rp (run_V X S (m_get l G f L4 7 (st 0 3) (st 0 3 - 1) g4 hL4 hlt_st031 (by omega)) 1 gX2_lackFor_Jx4a65c_get_915e3 rfl rfl rfl (by decide +kernel) ⟨(by exact Nat.le_of_ble_eq_true rfl), (by exact Nat.le_of_ble_eq_true rfl)⟩ hL4.obj rfl rfl rfl hl.1 rfl (by exact Nat.le_of_ble_eq_true rfl) dX2_lackFor_23 ⟨(Nat.zero_le _), (Nat.zero_le _)⟩) S (fun r_23 H locs hr_23 S => ?_)
    subst hr_23
    refine r_castS X S (nm := RX0) rfl (by decide +kernel) (hA (st 0 3 - 1) hlt_st031) rfl dX2_lackFor_26 ?_
    refine r_get (C := RX0) (T := TX0) (N := 2) (ref := "Craterclock$Anchor") X S in_RX0 (hA (st 0 3 - 1) hlt_st031) rfl 1 (by decide) (by decide +kernel) (fun _ h => h) rfl dX2_lackFor_29 ?_
    refine W.lcmp X.1 X.2.1 dX2_lackFor_32 ?_
    refine lv_if_le (tgt := 40) X.1 X.2.1 dX2_lackFor_33 (by decide) (fun c_33 => ?_) (fun c_33 => ?_)
    · refine lv_iconst (v := 0) X.1 X.2.1 dX2_lackFor_40 (by decide) ?_
      refine e_ip X hr S dX2_lackFor_41 ?_
      rw [if_neg (by omega), if_neg (fun z => absurd (lN_len (by omega) (by omega) ((lg_cmp_le _ _).mp c_33)) (by omega))]
      exact rfl
    · refine lv_iconst (v := 2) X.1 X.2.1 dX2_lackFor_36 (by decide) ?_
      refine lv_goto (tgt := 41) X.1 X.2.1 dX2_lackFor_37 (by decide) ?_
      refine e_ip X hr S dX2_lackFor_41 ?_
      rw [if_neg (by omega), if_pos (lN_ltn (by omega) (by omega) (by have z := c_33; rw [lg_cmp_le] at z; exact Int64.not_le.mp z))]
      exact rfl
  · refine lv_iconst (v := 1) X.1 X.2.1 dX2_lackFor_13 (by decide) ?_
    refine e_ip X hr S dX2_lackFor_14 ?_
    rw [if_pos (Nat.lt_of_not_le (fun z => c_10 (nI_le (a := 2) z (by omega))))]
    exact rfl

set_option maxRecDepth 100000 in
set_option maxHeartbeats 4000000 in
/-- Curve.yearsOf -/
theorem m_yearsOf (l : Launch) (G : cx_G) (f : Wd) (st : St) (x gr rw1 L1 L2 L3 cu L4 : Nat) (g1 g2 g3 g4 : Nat → Nat) (w : Nat → Int32) (hI : sInv st) (hR : RXx G f st x gr rw1 L1 L2 L3 cu L4 g1 g2 g3 g4 w) (d : Nat) (hn2 : 2 ≤ st 0 3) (hd : d ≤ st 11 (st 0 3 - 1)) : PL l G yX2_yearsOf wsX2_yearsOf 3 64 [.ref cu, .long (lN d)] f (fun r => ∃ k, k < st 0 3 ∧ d ≤ st 11 k ∧ (∀ j, j < k → st 11 j < d) ∧ r = lN (ageAt st d k)) := by
  refine cx_body (cc := cX2_yearsOf) (n := 11) (ret := (some .long)) (by decide +kernel) rfl (Nat.le_of_ble_eq_true rfl) ?_
  intro p0 e0 s0 m0 b0 meth0 c0 ls X hr hnm S hl
  have X : cxC G p0 l _ c0 cX2_yearsOf 11 m0 meth0 s0 _ RX2 wsX2_yearsOf := X
  have hl : lv_has ls 11 [(0, .ref cu), (1, .long (lN d))] := hl
  have in_RX0 : ∀ w ∈ u_ws RX0 TX0 2, w ∈ wsX2_yearsOf := by decide +kernel
  have in_RX2 : ∀ w ∈ u_ws RX2 TX2 1, w ∈ wsX2_yearsOf := by decide +kernel
  obtain ⟨hi0, hi1, hi2, hi3, hi4, hi5, hi6, hi7⟩ := id hI
  obtain ⟨hx, hgr, hrw, hgd, hL1, hC, hL2, hS2, hL3, hE, hcu, hL4, hA⟩ := id hR
  have hdb := (hi5 (st 0 3 - 1) (by omega)).2.2.2
  refine lv_lconst (v := 0) X.1 X.2.1 dX2_yearsOf_0 (by decide) ?_
  refine lv_lstore_n (lv' := [(3, .long 0), (0, .ref cu), (1, .long (lN d))]) X.1 X.2.1 dX2_yearsOf_1 rfl hl (by decide) rfl (fun ls hl => ?_)
  refine lv_lconst (v := 0) X.1 X.2.1 dX2_yearsOf_2 (by decide) ?_
  refine lv_lstore (lv' := [(5, .long 0), (3, .long 0), (0, .ref cu), (1, .long (lN d))]) X.1 X.2.1 dX2_yearsOf_3 hl (by decide) rfl (fun ls hl => ?_)
  refine lv_iconst (v := 0) X.1 X.2.1 dX2_yearsOf_5 (by decide) ?_
  refine lv_istore (lv' := [(7, .int 0), (5, .long 0), (3, .long 0), (0, .ref cu), (1, .long (lN d))]) X.1 X.2.1 dX2_yearsOf_6 hl (by decide) rfl (fun ls hl => ?_)
  refine W_genQ (fun Q9 hQ9 => ?_)
  have loop : ∀ (N : Nat) (k : Nat) (ly : Nat) (ld : Nat) (H : Heap) (locs : List Loc) (ls : Array Slot), k ≤ st 0 3 → st 0 3 < k + N → (∀ j, j < k → st 11 j < d) → ((k = 0 ∧ ly = 0 ∧ ld = 0) ∨ (0 < k ∧ ly = st 10 (k - 1) ∧ ld = st 11 (k - 1))) → cxS G s0 f H locs → lv_has ls 11 [(0, .ref cu), (1, .long (lN d)), (3, .long (lN ly)), (5, .long (lN ld)), (7, .int (nI k))] → W p0 l e0 ({ frames := 3, cells := 0, slots := 0, locals := 64 } : Room) s0 m0 ([.ref cu, .long (lN d)] : List Value).toArray b0 meth0 c0 H locs 0 0 Q9 (F0 m0 8 ls []) := by
    intro N
    induction N with
    | zero =>
      intro k ly ld  H locs ls hk hN hlo hlow S hl
      exfalso
      omega
    | succ N ih =>
      intro k ly ld  H locs ls hk hN hlo hlow S hl
      refine lv_iload X.1 X.2.1 dX2_yearsOf_8 (lv_at hl 4 rfl) ?_
      refine lv_aload_n X.1 X.2.1 dX2_yearsOf_10 rfl (lv_at hl 0 rfl) ?_
      refine r_get (C := RX2) (T := TX2) (N := 1) (ref := "Craterclock$Curve") X S in_RX2 hcu rfl 0 (by decide) (by decide +kernel) (fun _ h => h) rfl dX2_yearsOf_11 ?_
      refine call_ip (run_V X S (m_sizeL l G f L4 7 (st 0 3) g4 hL4) 0 gX2_yearsOf_Jx4a65c_size_8abf5 rfl rfl rfl (by decide +kernel) ⟨(by exact Nat.le_of_ble_eq_true rfl), (by exact Nat.le_of_ble_eq_true rfl)⟩ hL4.obj rfl rfl rfl hl.1 rfl (by exact Nat.le_of_ble_eq_true rfl) dX2_yearsOf_14 ⟨(Nat.zero_le _), (Nat.zero_le _)⟩) S (fun r_14 H locs hr_14 S => ?_)
      subst hr_14
      refine lv_icmp_ge (tgt := 93) X.1 X.2.1 dX2_yearsOf_17 (by decide) (fun c_17 => ?_) (fun c_17 => ?_)
      · have hkn : k = st 0 3 := by
          have := (nI_leI (by omega) (by omega)).mp c_17
          omega
        exact absurd (hlo (st 0 3 - 1) (by omega)) (by omega)
      · have hlt_k : k < st 0 3 := Nat.lt_of_not_le (fun z => c_17 (nI_le z (by omega)))
        have hab := hi5 k hlt_k
        refine lv_aload_n X.1 X.2.1 dX2_yearsOf_20 rfl (lv_at hl 0 rfl) ?_
        refine r_get (C := RX2) (T := TX2) (N := 1) (ref := "Craterclock$Curve") X S in_RX2 hcu rfl 0 (by decide) (by decide +kernel) (fun _ h => h) rfl dX2_yearsOf_21 ?_
        refine lv_iload X.1 X.2.1 dX2_yearsOf_24 (lv_at hl 4 rfl) ?_
        refine call_rp (run_V X S (m_get l G f L4 7 (st 0 3) k g4 hL4 hlt_k (by omega)) 1 gX2_yearsOf_Jx4a65c_get_915e3 rfl rfl rfl (by decide +kernel) ⟨(by exact Nat.le_of_ble_eq_true rfl), (by exact Nat.le_of_ble_eq_true rfl)⟩ hL4.obj rfl rfl rfl hl.1 rfl (by exact Nat.le_of_ble_eq_true rfl) dX2_yearsOf_26 ⟨(Nat.zero_le _), (Nat.zero_le _)⟩) S (fun r_26 H locs hr_26 S => ?_)
        subst hr_26
        refine r_castS X S (nm := RX0) rfl (by decide +kernel) (hA k hlt_k) rfl dX2_yearsOf_29 ?_
        refine lv_astore (lv' := [(8, .ref (g4 k)), (0, .ref cu), (1, .long (lN d)), (3, .long (lN ly)), (5, .long (lN ld)), (7, .int (nI k))]) X.1 X.2.1 dX2_yearsOf_32 hl (by decide) rfl (fun ls hl => ?_)
        refine lv_lload_n X.1 X.2.1 dX2_yearsOf_34 rfl (lv_at hl 2 rfl) ?_
        refine lv_aload X.1 X.2.1 dX2_yearsOf_35 (lv_at hl 0 rfl) ?_
        refine r_get (C := RX0) (T := TX0) (N := 2) (ref := "Craterclock$Anchor") X S in_RX0 (hA k hlt_k) rfl 1 (by decide) (by decide +kernel) (fun _ h => h) rfl dX2_yearsOf_37 ?_
        refine W.lcmp X.1 X.2.1 dX2_yearsOf_40 ?_
        refine lv_if_gt (tgt := 74) X.1 X.2.1 dX2_yearsOf_41 (by decide) (fun c_41 => ?_) (fun c_41 => ?_)
        · have hdk : st 11 k < d := lN_ltn (by omega) (by omega) ((lg_cmp_gt _ _).mp c_41)
          refine lv_aload X.1 X.2.1 dX2_yearsOf_74 (lv_at hl 0 rfl) ?_
          refine r_get (C := RX0) (T := TX0) (N := 2) (ref := "Craterclock$Anchor") X S in_RX0 (hA k hlt_k) rfl 0 (by decide) (by decide +kernel) (fun _ h => h) rfl dX2_yearsOf_76 ?_
          refine lv_lstore_n (lv' := [(3, .long (lN (st 10 k))), (8, .ref (g4 k)), (0, .ref cu), (1, .long (lN d)), (5, .long (lN ld)), (7, .int (nI k))]) X.1 X.2.1 dX2_yearsOf_79 rfl hl (by decide) rfl (fun ls hl => ?_)
          refine lv_aload X.1 X.2.1 dX2_yearsOf_80 (lv_at hl 1 rfl) ?_
          refine r_get (C := RX0) (T := TX0) (N := 2) (ref := "Craterclock$Anchor") X S in_RX0 (hA k hlt_k) rfl 1 (by decide) (by decide +kernel) (fun _ h => h) rfl dX2_yearsOf_82 ?_
          refine lv_lstore (lv' := [(5, .long (lN (st 11 k))), (3, .long (lN (st 10 k))), (8, .ref (g4 k)), (0, .ref cu), (1, .long (lN d)), (7, .int (nI k))]) X.1 X.2.1 dX2_yearsOf_85 hl (by decide) rfl (fun ls hl => ?_)
          refine lv_iinc (v := (nI (k + 1))) (lv' := [(7, .int (nI (k + 1))), (5, .long (lN (st 11 k))), (3, .long (lN (st 10 k))), (8, .ref (g4 k)), (0, .ref cu), (1, .long (lN d))]) X.1 X.2.1 dX2_yearsOf_87 hl (k := 5) rfl (nI_1 _) (by decide) rfl (fun ls hl => ?_)
          refine lv_goto (tgt := 8) X.1 X.2.1 dX2_yearsOf_90 (by decide) ?_
          exact ih (k + 1) (st 10 k) (st 11 k) H locs ls (by omega) (by omega) (fun j hj => by rcases (by omega : j < k ∨ j = k) with q | q; exact hlo j q; rw [q]; exact hdk) (Or.inr ⟨by omega, rfl, rfl⟩) S (lv_sub hl [4, 5, 2, 1, 0] rfl)
        · have hdk : d ≤ st 11 k := lN_len (by omega) (by omega) (by have z := c_41; rw [lg_cmp_gt] at z; exact Int64.not_lt.mp z)
          have hly : ly ≤ st 10 k ∧ ld ≤ d ∧ ld < st 11 k ∧ ly ≤ 5000000000 := by
            rcases hlow with q | q
            · omega
            · have q1 := anch_lt st hI (i := k - 1) (j := k) (by omega) hlt_k
              have q2 := hlo (k - 1) (by omega)
              omega
          have hb1 : (st 10 k - ly) * (d - ld) ≤ 5000000000 * 100000000 := Nat.mul_le_mul (by omega) (by omega)
          refine lv_aload X.1 X.2.1 dX2_yearsOf_44 (lv_at hl 0 rfl) ?_
          refine r_get (C := RX0) (T := TX0) (N := 2) (ref := "Craterclock$Anchor") X S in_RX0 (hA k hlt_k) rfl 0 (by decide) (by decide +kernel) (fun _ h => h) rfl dX2_yearsOf_46 ?_
          refine lv_lload_n X.1 X.2.1 dX2_yearsOf_49 rfl (lv_at hl 3 rfl) ?_
          refine lv_lsub X.1 X.2.1 dX2_yearsOf_50 ?_
          refine r_tol (lN_subn hly.1) ?_
          refine lv_lload_n X.1 X.2.1 dX2_yearsOf_51 rfl (lv_at hl 2 rfl) ?_
          refine lv_lload X.1 X.2.1 dX2_yearsOf_52 (lv_at hl 4 rfl) ?_
          refine lv_lsub X.1 X.2.1 dX2_yearsOf_54 ?_
          refine r_tol (lN_subn hly.2.1) ?_
          refine lv_lmul X.1 X.2.1 dX2_yearsOf_55 ?_
          refine r_tol (lN_mul _ _) ?_
          refine lv_lstore (lv' := [(9, .long (lN ((st 10 k - ly) * (d - ld)))), (8, .ref (g4 k)), (0, .ref cu), (1, .long (lN d)), (3, .long (lN ly)), (5, .long (lN ld)), (7, .int (nI k))]) X.1 X.2.1 dX2_yearsOf_56 hl (by decide) rfl (fun ls hl => ?_)
          refine lv_lload_n X.1 X.2.1 dX2_yearsOf_58 rfl (lv_at hl 4 rfl) ?_
          refine lv_lload X.1 X.2.1 dX2_yearsOf_59 (lv_at hl 0 rfl) ?_
          refine lv_aload X.1 X.2.1 dX2_yearsOf_61 (lv_at hl 1 rfl) ?_
          refine r_get (C := RX0) (T := TX0) (N := 2) (ref := "Craterclock$Anchor") X S in_RX0 (hA k hlt_k) rfl 1 (by decide) (by decide +kernel) (fun _ h => h) rfl dX2_yearsOf_63 ?_
          refine lv_lload X.1 X.2.1 dX2_yearsOf_66 (lv_at hl 5 rfl) ?_
          refine lv_lsub X.1 X.2.1 dX2_yearsOf_68 ?_
          refine r_tol (lN_subn (by omega)) ?_
          refine call_lp (run_S X S (m_div l G f ((st 10 k - ly) * (d - ld)) (st 11 k - ld) (by omega) (by omega) (by omega)) 2 gX2_yearsOf_X2_dividedDown rfl rfl rfl (by decide +kernel) ⟨(by exact Nat.le_of_ble_eq_true rfl), (by exact Nat.le_of_ble_eq_true rfl)⟩ rfl hl.1 rfl (by exact Nat.le_of_ble_eq_true rfl) dX2_yearsOf_69 ⟨(Nat.zero_le _), (Nat.zero_le _)⟩) S (fun r_69 H locs hr_69 S => ?_)
          subst hr_69
          refine lv_ladd X.1 X.2.1 dX2_yearsOf_72 ?_
          subst hQ9
          refine e_lp X hr S dX2_yearsOf_73 ?_
          exact ⟨k, hlt_k, hdk, hlo, by
            rw [lN_add]
            unfold ageAt
            rcases hlow with ⟨q1, q2, q3⟩ | ⟨q1, q2, q3⟩
            · subst q1 q2 q3
              rw [if_pos rfl, Nat.zero_add, Nat.sub_zero, Nat.sub_zero, Nat.sub_zero]
            · rw [if_neg (by omega), q2, q3]⟩
  exact loop (st 0 3 + 1) 0 0 0 _ _ _ (by omega) (by omega) (fun j hj => by omega) (Or.inl ⟨rfl, rfl, rfl⟩) S (lv_sub hl [3, 4, 2, 1, 0] rfl)

set_option maxRecDepth 100000 in
set_option maxHeartbeats 4000000 in
/-- drawNext -/
theorem m_drawNext (l : Launch) (G : cx_G) (f : Wd) (x gr L1 L2 L3 cu d : Nat) (hx : f x = some (0, .inr (9, [.ref gr, .ref L1, .ref L2, .ref L3, .ref cu, .int (nI d)]))) (hd : d < 65537) : MI l G yX9_drawNext wsX9_drawNext 0 0 0 0 [.ref x] f (fun r f' => r = nI ((75 * d + 74) % 65537) ∧ f' = wu f x 0 (.inr (9, [.ref gr, .ref L1, .ref L2, .ref L3, .ref cu, .int (nI ((75 * d + 74) % 65537))]))) := by
  refine cx_body (cc := cX9_drawNext) (n := 1) (ret := (some .int)) (by decide +kernel) rfl (Nat.le_of_ble_eq_true rfl) ?_
  intro p0 e0 s0 m0 b0 meth0 c0 ls X hr hnm S hl
  have X : cxC G p0 l _ c0 cX9_drawNext 1 m0 meth0 s0 _ RX9 wsX9_drawNext := X
  have hl : lv_has ls 1 [(0, .ref x)] := hl
  have in_RX9 : ∀ w ∈ u_ws RX9 TX9 6, w ∈ wsX9_drawNext := by decide +kernel
  refine lv_aload_n X.1 X.2.1 dX9_drawNext_0 rfl (lv_at hl 0 rfl) ?_
  refine lv_bipush (v := 75) X.1 X.2.1 dX9_drawNext_1 (by decide) ?_
  refine lv_aload_n X.1 X.2.1 dX9_drawNext_3 rfl (lv_at hl 0 rfl) ?_
  refine r_get (C := RX9) (T := TX9) (N := 6) (ref := "Craterclock") X S in_RX9 hx rfl 5 (by decide) (by decide +kernel) (fun _ h => h) rfl dX9_drawNext_4 ?_
  refine lv_imul X.1 X.2.1 dX9_drawNext_7 ?_
  refine lv_bipush (v := 74) X.1 X.2.1 dX9_drawNext_8 (by decide) ?_
  refine lv_iadd X.1 X.2.1 dX9_drawNext_10 ?_
  refine r_ldc (v := 65537) X (by decide +kernel) dX9_drawNext_11 ?_
  refine lv_irem X.1 X.2.1 dX9_drawNext_13 (by decide) ?_
  refine r_toi (y := nI ((75 * d + 74) % 65537)) (by rw [show (75 : Int32) * nI d + 74 = nI (75 * d + 74) from by rw [show (75 : Int32) = nI 75 from rfl, pk_mul, show (74 : Int32) = nI 74 from rfl, nI_add]]; exact pk_rem (d := 65537) (by omega) (by omega) (by omega)) ?_
  refine r_put (C := RX9) (T := TX9) (N := 6) (ref := "Craterclock") (fs' := [.ref gr, .ref L1, .ref L2, .ref L3, .ref cu, .int (nI ((75 * d + 74) % 65537))]) (ty := .int) X S in_RX9 tyX9 tyX9_ok nmX9 hx (by decide) rfl 5 (by decide) (by decide +kernel) (fun _ h => h) rfl (by decide +kernel) rfl rfl (Nat.le_of_ble_eq_true rfl) rfl dX9_drawNext_14 (fun H locs S => ?_)
  obtain ⟨f_14, ef_14⟩ : ∃ z9 : Wd, z9 = wu f x 0 (.inr (9, [.ref gr, .ref L1, .ref L2, .ref L3, .ref cu, .int (nI ((75 * d + 74) % 65537))])) := ⟨_, rfl⟩
  rw [← ef_14] at S
  have hx_14 : f_14 x = some (0, .inr (9, [.ref gr, .ref L1, .ref L2, .ref L3, .ref cu, .int (nI ((75 * d + 74) % 65537))])) := by rw [ef_14]; exact wu_self _ _ _ _
  refine lv_aload_n X.1 X.2.1 dX9_drawNext_17 rfl (lv_at hl 0 rfl) ?_
  refine r_get (C := RX9) (T := TX9) (N := 6) (ref := "Craterclock") X S in_RX9 hx_14 rfl 5 (by decide) (by decide +kernel) (fun _ h => h) rfl dX9_drawNext_18 ?_
  refine e_i X hr S (Nat.le_of_ble_eq_true rfl) (Nat.le_of_ble_eq_true rfl) dX9_drawNext_21 ?_
  exact ⟨rfl, ef_14⟩
