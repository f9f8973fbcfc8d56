/-! the class: craters, eyes, fields, grounds, floods, softenings, the curve: leaves -/
set_option maxRecDepth 100000 in
set_option maxHeartbeats 4000000 in
/-- Crater.isWithin -/
theorem m_isWithin (l : Launch) (G : cx_G) (f : Wd) (a t : Nat) (x y z r fd d : Nat) (q cx cy : Nat) (ha : f a = some (t, eC x y z r fd d)) (hx : x < 16) (hy : y < 16) (hq : q < 100) (hcx : cx < 16) (hcy : cy < 16) : PI l G yX1_isWithin wsX1_isWithin 0 0 [.ref a, .int (nI q), .int (nI cx), .int (nI cy)] f (fun v => v = b2i (decide (sq cx x + sq cy y ≤ q * q))) := by
  refine cx_body (cc := cX1_isWithin) (n := 6) (ret := (some .boolean)) (by decide +kernel) rfl (Nat.le_of_ble_eq_true rfl) ?_
  intro p0 e0 s0 m0 b0 meth0 c0 ls X hr hnm S hl
  have X : cxC G p0 l _ c0 cX1_isWithin 6 m0 meth0 s0 _ RX1 wsX1_isWithin := X
  have hl : lv_has ls 6 [(0, .ref a), (1, .int (nI q)), (2, .int (nI cx)), (3, .int (nI cy))] := hl
  have in_RX1 : ∀ w ∈ u_ws RX1 TX1 6, w ∈ wsX1_isWithin := by decide +kernel
  have hs1 := sq_lt hcx hx
  have hs2 := sq_lt hcy hy
  have hs3 : q * q < 100 * 100 := Nat.mul_lt_mul'' hq hq
  refine lv_iload_n X.1 X.2.1 dX1_isWithin_0 rfl (lv_at hl 2 rfl) ?_
  refine lv_aload_n X.1 X.2.1 dX1_isWithin_1 rfl (lv_at hl 0 rfl) ?_
  refine r_get (C := RX1) (T := TX1) (N := 6) (ref := "Craterclock$Crater") X S in_RX1 ha rfl 0 (by decide) (by decide +kernel) (fun _ h => h) rfl dX1_isWithin_2 ?_
  refine lv_isub X.1 X.2.1 dX1_isWithin_5 ?_
  refine lv_istore (lv' := [(4, .int ((nI cx) - (nI x))), (0, .ref a), (1, .int (nI q)), (2, .int (nI cx)), (3, .int (nI cy))]) X.1 X.2.1 dX1_isWithin_6 hl (by decide) rfl (fun ls hl => ?_)
  refine lv_iload_n X.1 X.2.1 dX1_isWithin_8 rfl (lv_at hl 4 rfl) ?_
  refine lv_aload_n X.1 X.2.1 dX1_isWithin_9 rfl (lv_at hl 1 rfl) ?_
  refine r_get (C := RX1) (T := TX1) (N := 6) (ref := "Craterclock$Crater") X S in_RX1 ha rfl 1 (by decide) (by decide +kernel) (fun _ h => h) rfl dX1_isWithin_10 ?_
  refine lv_isub X.1 X.2.1 dX1_isWithin_13 ?_
  refine lv_istore (lv' := [(5, .int ((nI cy) - (nI y))), (4, .int ((nI cx) - (nI x))), (0, .ref a), (1, .int (nI q)), (2, .int (nI cx)), (3, .int (nI cy))]) X.1 X.2.1 dX1_isWithin_14 hl (by decide) rfl (fun ls hl => ?_)
  refine lv_iload X.1 X.2.1 dX1_isWithin_16 (lv_at hl 1 rfl) ?_
  refine lv_iload X.1 X.2.1 dX1_isWithin_18 (lv_at hl 1 rfl) ?_
  refine lv_imul X.1 X.2.1 dX1_isWithin_20 ?_
  refine lv_iload X.1 X.2.1 dX1_isWithin_21 (lv_at hl 0 rfl) ?_
  refine lv_iload X.1 X.2.1 dX1_isWithin_23 (lv_at hl 0 rfl) ?_
  refine lv_imul X.1 X.2.1 dX1_isWithin_25 ?_
  refine lv_iadd X.1 X.2.1 dX1_isWithin_26 ?_
  refine r_toi (y := nI (sq cx x + sq cy y)) (by rw [nI_sqd, nI_sqd, nI_add]) ?_
  refine lv_iload_n X.1 X.2.1 dX1_isWithin_27 rfl (lv_at hl 3 rfl) ?_
  refine lv_iload_n X.1 X.2.1 dX1_isWithin_28 rfl (lv_at hl 3 rfl) ?_
  refine lv_imul X.1 X.2.1 dX1_isWithin_29 ?_
  refine r_toi (pk_mul _ _) ?_
  refine lv_icmp_gt (tgt := 37) X.1 X.2.1 dX1_isWithin_30 (by decide) (fun c_30 => ?_) (fun c_30 => ?_)
  · refine lv_iconst (v := 0) X.1 X.2.1 dX1_isWithin_37 (by decide) ?_
    refine e_zp X hr S dX1_isWithin_38 rfl ?_
    exact b2i_f (fun z => nI_nlt z (by omega) c_30)
  · refine lv_iconst (v := 1) X.1 X.2.1 dX1_isWithin_33 (by decide) ?_
    refine lv_goto (tgt := 38) X.1 X.2.1 dX1_isWithin_34 (by decide) ?_
    refine e_zp X hr S dX1_isWithin_38 rfl ?_
    exact b2i_t (Nat.le_of_not_lt (fun z => c_30 (nI_lt z (by omega))))

set_option maxRecDepth 100000 in
set_option maxHeartbeats 4000000 in
/-- Crater.covers -/
theorem m_covers (l : Launch) (G : cx_G) (f : Wd) (a t : Nat) (x y z r fd d : Nat) (cx cy : Nat) (ha : f a = some (t, eC x y z r fd d)) (hx : x < 16) (hy : y < 16) (hr2 : r < 100) (hcx : cx < 16) (hcy : cy < 16) : PI l G yX1_covers wsX1_covers 1 25 [.ref a, .int (nI cx), .int (nI cy)] f (fun v => v = b2i (decide (sq cx x + sq cy y ≤ r * r))) := by
  refine cx_body (cc := cX1_covers) (n := 3) (ret := (some .boolean)) (by decide +kernel) rfl (Nat.le_of_ble_eq_true rfl) ?_
  intro p0 e0 s0 m0 b0 meth0 c0 ls X hr hnm S hl
  have X : cxC G p0 l _ c0 cX1_covers 3 m0 meth0 s0 _ RX1 wsX1_covers := X
  have hl : lv_has ls 3 [(0, .ref a), (1, .int (nI cx)), (2, .int (nI cy))] := hl
  have in_RX1 : ∀ w ∈ u_ws RX1 TX1 6, w ∈ wsX1_covers := by decide +kernel
  refine lv_aload_n X.1 X.2.1 dX1_covers_0 rfl (lv_at hl 0 rfl) ?_
  refine lv_aload_n X.1 X.2.1 dX1_covers_1 rfl (lv_at hl 0 rfl) ?_
  refine r_get (C := RX1) (T := TX1) (N := 6) (ref := "Craterclock$Crater") X S in_RX1 ha rfl 3 (by decide) (by decide +kernel) (fun _ h => h) rfl dX1_covers_2 ?_
  refine lv_iload_n X.1 X.2.1 dX1_covers_5 rfl (lv_at hl 1 rfl) ?_
  refine lv_iload_n X.1 X.2.1 dX1_covers_6 rfl (lv_at hl 2 rfl) ?_
  refine call_ip (run_V X S (m_isWithin l G f a t x y z r fd d r cx cy ha (by omega) (by omega) (by omega) (by omega) (by omega)) 3 gX1_covers_X1_isWithin rfl rfl rfl (by decide +kernel) ⟨(by exact Nat.le_of_ble_eq_true rfl), (by exact Nat.le_of_ble_eq_true rfl)⟩ ⟨_, _, ha⟩ rfl rfl rfl hl.1 rfl (by exact Nat.le_of_ble_eq_true rfl) dX1_covers_7 ⟨(Nat.zero_le _), (Nat.zero_le _)⟩) S (fun r_7 H locs hr_7 S => ?_)
  subst hr_7
  refine e_zp X hr S dX1_covers_10 (b2i_nar _) ?_
  exact rfl

set_option maxRecDepth 100000 in
set_option maxHeartbeats 4000000 in
/-- Crater.lossBy -/
theorem m_lossBy (l : Launch) (G : cx_G) (f : Wd) (a t b t2 : Nat) (x y z r fd d : Nat) (x2 y2 z2 r2 fd2 d2 : Nat) (ha : f a = some (t, eC x y z r fd d)) (hb : f b = some (t2, eC x2 y2 z2 r2 fd2 d2)) (hx : x < 16) (hy : y < 16) (hr1 : r < 50) (hx2 : x2 < 16) (hy2 : y2 < 16) (hr2 : r2 < 50) : PI l G yX1_lossBy wsX1_lossBy 1 25 [.ref a, .ref b] f (fun v => v = nI (lossN x y r fd x2 y2 r2 z2)) := by
  refine cx_body (cc := cX1_lossBy) (n := 2) (ret := (some .int)) (by decide +kernel) rfl (Nat.le_of_ble_eq_true rfl) ?_
  intro p0 e0 s0 m0 b0 meth0 c0 ls X hr hnm S hl
  have X : cxC G p0 l _ c0 cX1_lossBy 2 m0 meth0 s0 _ RX1 wsX1_lossBy := X
  have hl : lv_has ls 2 [(0, .ref a), (1, .ref b)] := hl
  have in_RX1 : ∀ w ∈ u_ws RX1 TX1 6, w ∈ wsX1_lossBy := by decide +kernel
  refine lv_aload_n X.1 X.2.1 dX1_lossBy_0 rfl (lv_at hl 0 rfl) ?_
  refine r_get (C := RX1) (T := TX1) (N := 6) (ref := "Craterclock$Crater") X S in_RX1 ha rfl 3 (by decide) (by decide +kernel) (fun _ h => h) rfl dX1_lossBy_1 ?_
  refine lv_aload_n X.1 X.2.1 dX1_lossBy_4 rfl (lv_at hl 1 rfl) ?_
  refine r_get (C := RX1) (T := TX1) (N := 6) (ref := "Craterclock$Crater") X S in_RX1 hb rfl 3 (by decide) (by decide +kernel) (fun _ h => h) rfl dX1_lossBy_5 ?_
  refine lv_icmp_gt (tgt := 35) X.1 X.2.1 dX1_lossBy_8 (by decide) (fun c_8 => ?_) (fun c_8 => ?_)
  · have hle : ¬ r ≤ r2 := fun z => nI_nlt z (by omega) c_8
    refine lv_aload_n X.1 X.2.1 dX1_lossBy_35 rfl (lv_at hl 0 rfl) ?_
    refine lv_aload_n X.1 X.2.1 dX1_lossBy_36 rfl (lv_at hl 0 rfl) ?_
    refine r_get (C := RX1) (T := TX1) (N := 6) (ref := "Craterclock$Crater") X S in_RX1 ha rfl 3 (by decide) (by decide +kernel) (fun _ h => h) rfl dX1_lossBy_37 ?_
    refine lv_aload_n X.1 X.2.1 dX1_lossBy_40 rfl (lv_at hl 1 rfl) ?_
    refine r_get (C := RX1) (T := TX1) (N := 6) (ref := "Craterclock$Crater") X S in_RX1 hb rfl 3 (by decide) (by decide +kernel) (fun _ h => h) rfl dX1_lossBy_41 ?_
    refine lv_iadd X.1 X.2.1 dX1_lossBy_44 ?_
    refine r_toi (nI_add _ _) ?_
    refine lv_aload_n X.1 X.2.1 dX1_lossBy_45 rfl (lv_at hl 1 rfl) ?_
    refine r_get (C := RX1) (T := TX1) (N := 6) (ref := "Craterclock$Crater") X S in_RX1 hb rfl 0 (by decide) (by decide +kernel) (fun _ h => h) rfl dX1_lossBy_46 ?_
    refine lv_aload_n X.1 X.2.1 dX1_lossBy_49 rfl (lv_at hl 1 rfl) ?_
    refine r_get (C := RX1) (T := TX1) (N := 6) (ref := "Craterclock$Crater") X S in_RX1 hb rfl 1 (by decide) (by decide +kernel) (fun _ h => h) rfl dX1_lossBy_50 ?_
    refine call_ip (run_V X S (m_isWithin l G f a t x y z r fd d (r + r2) x2 y2 ha (by omega) (by omega) (by omega) (by omega) (by omega)) 3 gX1_lossBy_X1_isWithin rfl rfl rfl (by decide +kernel) ⟨(by exact Nat.le_of_ble_eq_true rfl), (by exact Nat.le_of_ble_eq_true rfl)⟩ ⟨_, _, ha⟩ rfl rfl rfl hl.1 rfl (by exact Nat.le_of_ble_eq_true rfl) dX1_lossBy_53 ⟨(Nat.zero_le _), (Nat.zero_le _)⟩) S (fun r_53 H locs hr_53 S => ?_)
    subst hr_53
    refine r_eqB (tgt := 66) X dX1_lossBy_56 (by decide) (fun c_56 => ?_) (fun c_56 => ?_)
    · refine lv_iconst (v := 0) X.1 X.2.1 dX1_lossBy_66 (by decide) ?_
      refine e_ip X hr S dX1_lossBy_67 ?_
      show 0 = nI (lossN _ _ _ _ _ _ _ _)
      unfold lossN
      rw [if_neg (fun z => by first | exact hle z.1 | exact of_decide_eq_false c_27 z.2), if_neg (of_decide_eq_false c_56)]
      rfl
    · refine lv_aload_n X.1 X.2.1 dX1_lossBy_59 rfl (lv_at hl 1 rfl) ?_
      refine r_get (C := RX1) (T := TX1) (N := 6) (ref := "Craterclock$Crater") X S in_RX1 hb rfl 2 (by decide) (by decide +kernel) (fun _ h => h) rfl dX1_lossBy_60 ?_
      refine lv_goto (tgt := 67) X.1 X.2.1 dX1_lossBy_63 (by decide) ?_
      refine e_ip X hr S dX1_lossBy_67 ?_
      show nI z2 = nI (lossN _ _ _ _ _ _ _ _)
      unfold lossN
      rw [if_neg (fun z => by first | exact hle z.1 | exact of_decide_eq_false c_27 z.2), if_pos (of_decide_eq_true c_56)]
  · have hle : r ≤ r2 := Nat.le_of_not_lt (fun z => c_8 (nI_lt z (by omega)))
    refine lv_aload_n X.1 X.2.1 dX1_lossBy_11 rfl (lv_at hl 0 rfl) ?_
    refine lv_aload_n X.1 X.2.1 dX1_lossBy_12 rfl (lv_at hl 1 rfl) ?_
    refine r_get (C := RX1) (T := TX1) (N := 6) (ref := "Craterclock$Crater") X S in_RX1 hb rfl 3 (by decide) (by decide +kernel) (fun _ h => h) rfl dX1_lossBy_13 ?_
    refine lv_aload_n X.1 X.2.1 dX1_lossBy_16 rfl (lv_at hl 1 rfl) ?_
    refine r_get (C := RX1) (T := TX1) (N := 6) (ref := "Craterclock$Crater") X S in_RX1 hb rfl 0 (by decide) (by decide +kernel) (fun _ h => h) rfl dX1_lossBy_17 ?_
    refine lv_aload_n X.1 X.2.1 dX1_lossBy_20 rfl (lv_at hl 1 rfl) ?_
    refine r_get (C := RX1) (T := TX1) (N := 6) (ref := "Craterclock$Crater") X S in_RX1 hb rfl 1 (by decide) (by decide +kernel) (fun _ h => h) rfl dX1_lossBy_21 ?_
    refine call_ip (run_V X S (m_isWithin l G f a t x y z r fd d r2 x2 y2 ha (by omega) (by omega) (by omega) (by omega) (by omega)) 3 gX1_lossBy_X1_isWithin rfl rfl rfl (by decide +kernel) ⟨(by exact Nat.le_of_ble_eq_true rfl), (by exact Nat.le_of_ble_eq_true rfl)⟩ ⟨_, _, ha⟩ rfl rfl rfl hl.1 rfl (by exact Nat.le_of_ble_eq_true rfl) dX1_lossBy_24 ⟨(Nat.zero_le _), (Nat.zero_le _)⟩) S (fun r_24 H locs hr_24 S => ?_)
    subst hr_24
    refine r_eqB (tgt := 35) X dX1_lossBy_27 (by decide) (fun c_27 => ?_) (fun c_27 => ?_)
    · refine lv_aload_n X.1 X.2.1 dX1_lossBy_35 rfl (lv_at hl 0 rfl) ?_
      refine lv_aload_n X.1 X.2.1 dX1_lossBy_36 rfl (lv_at hl 0 rfl) ?_
      refine r_get (C := RX1) (T := TX1) (N := 6) (ref := "Craterclock$Crater") X S in_RX1 ha rfl 3 (by decide) (by decide +kernel) (fun _ h => h) rfl dX1_lossBy_37 ?_
      refine lv_aload_n X.1 X.2.1 dX1_lossBy_40 rfl (lv_at hl 1 rfl) ?_
      refine r_get (C := RX1) (T := TX1) (N := 6) (ref := "Craterclock$Crater") X S in_RX1 hb rfl 3 (by decide) (by decide +kernel) (fun _ h => h) rfl dX1_lossBy_41 ?_
      refine lv_iadd X.1 X.2.1 dX1_lossBy_44 ?_
      refine r_toi (nI_add _ _) ?_
      refine lv_aload_n X.1 X.2.1 dX1_lossBy_45 rfl (lv_at hl 1 rfl) ?_
      refine r_get (C := RX1) (T := TX1) (N := 6) (ref := "Craterclock$Crater") X S in_RX1 hb rfl 0 (by decide) (by decide +kernel) (fun _ h => h) rfl dX1_lossBy_46 ?_
      refine lv_aload_n X.1 X.2.1 dX1_lossBy_49 rfl (lv_at hl 1 rfl) ?_
      refine r_get (C := RX1) (T := TX1) (N := 6) (ref := "Craterclock$Crater") X S in_RX1 hb rfl 1 (by decide) (by decide +kernel) (fun _ h => h) rfl dX1_lossBy_50 ?_
      refine call_ip (run_V X S (m_isWithin l G f a t x y z r fd d (r + r2) x2 y2 ha (by omega) (by omega) (by omega) (by omega) (by omega)) 3 gX1_lossBy_X1_isWithin rfl rfl rfl (by decide +kernel) ⟨(by exact Nat.le_of_ble_eq_true rfl), (by exact Nat.le_of_ble_eq_true rfl)⟩ ⟨_, _, ha⟩ rfl rfl rfl hl.1 rfl (by exact Nat.le_of_ble_eq_true rfl) dX1_lossBy_53 ⟨(Nat.zero_le _), (Nat.zero_le _)⟩) S (fun r_53 H locs hr_53 S => ?_)
      subst hr_53
      refine r_eqB (tgt := 66) X dX1_lossBy_56 (by decide) (fun c_56 => ?_) (fun c_56 => ?_)
      · refine lv_iconst (v := 0) X.1 X.2.1 dX1_lossBy_66 (by decide) ?_
        refine e_ip X hr S dX1_lossBy_67 ?_
        show 0 = nI (lossN _ _ _ _ _ _ _ _)
        unfold lossN
        rw [if_neg (fun z => by first | exact hle z.1 | exact of_decide_eq_false c_27 z.2), if_neg (of_decide_eq_false c_56)]
        rfl
      · refine lv_aload_n X.1 X.2.1 dX1_lossBy_59 rfl (lv_at hl 1 rfl) ?_
        refine r_get (C := RX1) (T := TX1) (N := 6) (ref := "Craterclock$Crater") X S in_RX1 hb rfl 2 (by decide) (by decide +kernel) (fun _ h => h) rfl dX1_lossBy_60 ?_
        refine lv_goto (tgt := 67) X.1 X.2.1 dX1_lossBy_63 (by decide) ?_
        refine e_ip X hr S dX1_lossBy_67 ?_
        show nI z2 = nI (lossN _ _ _ _ _ _ _ _)
        unfold lossN
        rw [if_neg (fun z => by first | exact hle z.1 | exact of_decide_eq_false c_27 z.2), if_pos (of_decide_eq_true c_56)]
    · refine lv_aload_n X.1 X.2.1 dX1_lossBy_30 rfl (lv_at hl 0 rfl) ?_
      refine r_get (C := RX1) (T := TX1) (N := 6) (ref := "Craterclock$Crater") X S in_RX1 ha rfl 4 (by decide) (by decide +kernel) (fun _ h => h) rfl dX1_lossBy_31 ?_
      refine e_ip X hr S dX1_lossBy_34 ?_
      show nI fd = nI (lossN _ _ _ _ _ _ _ _)
      unfold lossN
      rw [if_pos ⟨hle, of_decide_eq_true c_27⟩]

set_option maxRecDepth 100000 in
set_option maxHeartbeats 4000000 in
/-- Crater.lessen -/
theorem m_lessen (l : Launch) (G : cx_G) (f : Wd) (a t : Nat) (x y z r fd d : Nat) (w : Nat) (ha : f a = some (t, eC x y z r fd d)) (ht : t ≠ 9999) (hd : d < 1000) (hw : w < 1000) : MI l G yX1_lessen wsX1_lessen 1 24 0 0 [.ref a, .int (nI w)] f (fun v f' => v = b2i (decide (0 < d ∧ d ≤ w)) ∧ f' = wu f a t (eC x y z r fd (d - w))) := by
  refine cx_body (cc := cX1_lessen) (n := 2) (ret := (some .boolean)) (by decide +kernel) rfl (Nat.le_of_ble_eq_true rfl) ?_
  intro p0 e0 s0 m0 b0 meth0 c0 ls X hr hnm S hl
  have X : cxC G p0 l _ c0 cX1_lessen 2 m0 meth0 s0 _ RX1 wsX1_lessen := X
  have hl : lv_has ls 2 [(0, .ref a), (1, .int (nI w))] := hl
  have in_RX1 : ∀ w ∈ u_ws RX1 TX1 6, w ∈ wsX1_lessen := by decide +kernel
  refine lv_aload_n X.1 X.2.1 dX1_lessen_0 rfl (lv_at hl 0 rfl) ?_
  refine r_get (C := RX1) (T := TX1) (N := 6) (ref := "Craterclock$Crater") X S in_RX1 ha rfl 5 (by decide) (by decide +kernel) (fun _ h => h) rfl dX1_lessen_1 ?_
  refine lv_if_gt (tgt := 9) X.1 X.2.1 dX1_lessen_4 (by decide) (fun c_4 => ?_) (fun c_4 => ?_)
  · have hd0 : 0 < d := by
      rcases Nat.eq_zero_or_pos d with q | q
      · rw [q] at c_4; exact absurd c_4 (by decide)
      · exact q
    refine lv_aload_n X.1 X.2.1 dX1_lessen_9 rfl (lv_at hl 0 rfl) ?_
    refine lv_iconst (v := 0) X.1 X.2.1 dX1_lessen_10 (by decide) ?_
    refine lv_aload_n X.1 X.2.1 dX1_lessen_11 rfl (lv_at hl 0 rfl) ?_
    refine r_get (C := RX1) (T := TX1) (N := 6) (ref := "Craterclock$Crater") X S in_RX1 ha rfl 5 (by decide) (by decide +kernel) (fun _ h => h) rfl dX1_lessen_12 ?_
    refine lv_iload_n X.1 X.2.1 dX1_lessen_15 rfl (lv_at hl 1 rfl) ?_
    refine lv_isub X.1 X.2.1 dX1_lessen_16 ?_
    refine r_max (v := nI (d - w)) X (by decide +kernel) (by decide +kernel) (by decide +kernel) (by decide +kernel) hl.1 (by exact Nat.le_of_ble_eq_true rfl) (by exact Nat.le_of_ble_eq_true rfl) (Nat.zero_le _) (Nat.zero_le _) (by exact (max0 (by omega) (by omega))) dX1_lessen_17 ?_
    refine r_put (C := RX1) (T := TX1) (N := 6) (ref := "Craterclock$Crater") (fs' := [.int (nI x), .int (nI y), .int (nI z), .int (nI r), .int (nI fd), .int (nI (d - w))]) (ty := .int) X S in_RX1 tyX1 tyX1_ok nmX1 ha (by omega) rfl 5 (by decide) (by decide +kernel) (fun _ h => h) rfl (by decide +kernel) rfl rfl (Nat.le_of_ble_eq_true rfl) rfl dX1_lessen_20 (fun H locs S => ?_)
    obtain ⟨f_20, ef_20⟩ : ∃ z9 : Wd, z9 = wu f a t (.inr (2, [.int (nI x), .int (nI y), .int (nI z), .int (nI r), .int (nI fd), .int (nI (d - w))])) := ⟨_, rfl⟩
    rw [← ef_20] at S
    have ha_20 : f_20 a = some (t, .inr (2, [.int (nI x), .int (nI y), .int (nI z), .int (nI r), .int (nI fd), .int (nI (d - w))])) := by rw [ef_20]; exact wu_self _ _ _ _
    refine lv_aload_n X.1 X.2.1 dX1_lessen_23 rfl (lv_at hl 0 rfl) ?_
    refine r_get (C := RX1) (T := TX1) (N := 6) (ref := "Craterclock$Crater") X S in_RX1 ha_20 rfl 5 (by decide) (by decide +kernel) (fun _ h => h) rfl dX1_lessen_24 ?_
    refine lv_if_ne (tgt := 34) X.1 X.2.1 dX1_lessen_27 (by decide) (fun c_27 => ?_) (fun c_27 => ?_)
    · refine lv_iconst (v := 0) X.1 X.2.1 dX1_lessen_34 (by decide) ?_
      refine e_z X hr S (Nat.le_of_ble_eq_true rfl) (Nat.le_of_ble_eq_true rfl) dX1_lessen_35 rfl ?_
      exact ⟨b2i_f (fun z => c_27 (by rw [Nat.sub_eq_zero_of_le z.2]; rfl)), ef_20⟩
    · refine lv_iconst (v := 1) X.1 X.2.1 dX1_lessen_30 (by decide) ?_
      refine lv_goto (tgt := 35) X.1 X.2.1 dX1_lessen_31 (by decide) ?_
      refine e_z X hr S (Nat.le_of_ble_eq_true rfl) (Nat.le_of_ble_eq_true rfl) dX1_lessen_35 rfl ?_
      exact ⟨b2i_t ⟨hd0, Nat.le_of_sub_eq_zero ((nI_eq (b := 0) (by omega) (by omega)).mp c_27)⟩, ef_20⟩
  · have hd0 : d = 0 := by
      rcases Nat.eq_zero_or_pos d with q | q
      · exact q
      · exact absurd (nI_lt (a := 0) q (by omega)) c_4
    refine lv_iconst (v := 0) X.1 X.2.1 dX1_lessen_7 (by decide) ?_
    refine e_z X hr S (Nat.le_of_ble_eq_true rfl) (Nat.le_of_ble_eq_true rfl) dX1_lessen_8 rfl ?_
    refine ⟨b2i_f (by omega), ?_⟩
    subst hd0
    rw [Nat.zero_sub]
    exact (wu_id ha).symm

set_option maxRecDepth 100000 in
set_option maxHeartbeats 4000000 in
/-- radOn -/
theorem m_radiusOn (l : Launch) (G : cx_G) (f : Wd) (g z : Nat) (hg : g ≤ 2) (hz1 : 1 ≤ z) (hz : z ≤ 6) : PI l G yX1_radiusOn wsX1_radiusOn 1 24 [.int (nI g), .int (nI z)] f (fun v => v = nI (radOn g z)) := by
  refine cx_body (cc := cX1_radiusOn) (n := 2) (ret := (some .int)) (by decide +kernel) rfl (Nat.le_of_ble_eq_true rfl) ?_
  intro p0 e0 s0 m0 b0 meth0 c0 ls X hr hnm S hl
  have X : cxC G p0 l _ c0 cX1_radiusOn 2 m0 meth0 s0 _ RX1 wsX1_radiusOn := X
  have hl : lv_has ls 2 [(0, .int (nI g)), (1, .int (nI z))] := hl
  refine lv_iload_n X.1 X.2.1 dX1_radiusOn_0 rfl (lv_at hl 0 rfl) ?_
  by_cases c_1_0 : nI g = 1
  · refine lv_lookup (off := 27) (tgt := 28) X.1 X.2.1 dX1_radiusOn_1 (by decide) (by rw [c_1_0]; rfl) (by decide) ?_
    have hg1 : g = 1 := (nI_eq (b := 1) (by omega) (by omega)).mp c_1_0
    subst hg1
    refine lv_iconst (v := 1) X.1 X.2.1 dX1_radiusOn_28 (by decide) ?_
    refine lv_iload_n X.1 X.2.1 dX1_radiusOn_29 rfl (lv_at hl 1 rfl) ?_
    refine lv_iconst (v := 1) X.1 X.2.1 dX1_radiusOn_30 (by decide) ?_
    refine lv_isub X.1 X.2.1 dX1_radiusOn_31 ?_
    refine r_toi (nI_m1 hz1) ?_
    refine r_max (v := nI (if z - 1 < 1 then 1 else z - 1)) X (by decide +kernel) (by decide +kernel) (by decide +kernel) (by decide +kernel) hl.1 (by exact Nat.le_of_ble_eq_true rfl) (by exact Nat.le_of_ble_eq_true rfl) (Nat.zero_le _) (Nat.zero_le _) (by exact (by
        rcases (by omega : z = 1 ∨ z = 2 ∨ z = 3 ∨ z = 4 ∨ z = 5 ∨ z = 6) with q | q | q | q | q | q <;> subst q <;> decide)) dX1_radiusOn_32 ?_
    refine e_ip X hr S dX1_radiusOn_35 ?_
    exact rfl
  · by_cases c_1_1 : nI g = 2
    · refine lv_lookup (off := 35) (tgt := 36) X.1 X.2.1 dX1_radiusOn_1 (by decide) (by rw [lv_osw c_1_0 (a := 1) (by decide)]; rw [c_1_1]; rfl) (by decide) ?_
      have hg1 : g = 2 := (nI_eq (b := 2) (by omega) (by omega)).mp c_1_1
      subst hg1
      refine lv_iload_n X.1 X.2.1 dX1_radiusOn_36 rfl (lv_at hl 1 rfl) ?_
      refine lv_iconst (v := 1) X.1 X.2.1 dX1_radiusOn_37 (by decide) ?_
      refine lv_iadd X.1 X.2.1 dX1_radiusOn_38 ?_
      refine r_toi (nI_1 z) ?_
      refine e_ip X hr S dX1_radiusOn_39 ?_
      exact rfl
    · refine lv_lookup (off := 39) (tgt := 40) X.1 X.2.1 dX1_radiusOn_1 (by decide) (by rw [lv_osw c_1_0 (a := 1) (by decide), lv_osw c_1_1 (a := 2) (by decide)]; rfl) (by decide) ?_
      have hg1 : g = 0 := by
        rcases (by omega : g = 0 ∨ g = 1 ∨ g = 2) with q | q | q
        · exact q
        · exact absurd (by rw [q]; rfl) c_1_0
        · exact absurd (by rw [q]; rfl) c_1_1
      subst hg1
      refine lv_iload_n X.1 X.2.1 dX1_radiusOn_40 rfl (lv_at hl 1 rfl) ?_
      refine e_ip X hr S dX1_radiusOn_41 ?_
      exact rfl

set_option maxRecDepth 100000 in
set_option maxHeartbeats 4000000 in
/-- depOn -/
theorem m_depthOn (l : Launch) (G : cx_G) (f : Wd) (g z : Nat) (hg : g ≤ 2) (hz1 : 1 ≤ z) (hz : z ≤ 6) : PI l G yX1_depthOn wsX1_depthOn 0 0 [.int (nI g), .int (nI z)] f (fun v => v = nI (depOn g z)) := by
  refine cx_body (cc := cX1_depthOn) (n := 2) (ret := (some .int)) (by decide +kernel) rfl (Nat.le_of_ble_eq_true rfl) ?_
  intro p0 e0 s0 m0 b0 meth0 c0 ls X hr hnm S hl
  have X : cxC G p0 l _ c0 cX1_depthOn 2 m0 meth0 s0 _ RX1 wsX1_depthOn := X
  have hl : lv_has ls 2 [(0, .int (nI g)), (1, .int (nI z))] := hl
  refine lv_iload_n X.1 X.2.1 dX1_depthOn_0 rfl (lv_at hl 0 rfl) ?_
  by_cases c_1_0 : nI g = 1
  · refine lv_lookup (off := 27) (tgt := 28) X.1 X.2.1 dX1_depthOn_1 (by decide) (by rw [c_1_0]; rfl) (by decide) ?_
    have hg1 : g = 1 := (nI_eq (b := 1) (by omega) (by omega)).mp c_1_0
    subst hg1
    refine lv_iconst (v := 3) X.1 X.2.1 dX1_depthOn_28 (by decide) ?_
    refine lv_iload_n X.1 X.2.1 dX1_depthOn_29 rfl (lv_at hl 1 rfl) ?_
    refine lv_imul X.1 X.2.1 dX1_depthOn_30 ?_
    refine e_ip X hr S dX1_depthOn_31 ?_
    rcases (by omega : z = 1 ∨ z = 2 ∨ z = 3 ∨ z = 4 ∨ z = 5 ∨ z = 6) with q | q | q | q | q | q <;> subst q <;> rfl
  · by_cases c_1_1 : nI g = 2
    · refine lv_lookup (off := 31) (tgt := 32) X.1 X.2.1 dX1_depthOn_1 (by decide) (by rw [lv_osw c_1_0 (a := 1) (by decide)]; rw [c_1_1]; rfl) (by decide) ?_
      have hg1 : g = 2 := (nI_eq (b := 2) (by omega) (by omega)).mp c_1_1
      subst hg1
      refine lv_iconst (v := 5) X.1 X.2.1 dX1_depthOn_32 (by decide) ?_
      refine lv_iload_n X.1 X.2.1 dX1_depthOn_33 rfl (lv_at hl 1 rfl) ?_
      refine lv_imul X.1 X.2.1 dX1_depthOn_34 ?_
      refine e_ip X hr S dX1_depthOn_35 ?_
      rcases (by omega : z = 1 ∨ z = 2 ∨ z = 3 ∨ z = 4 ∨ z = 5 ∨ z = 6) with q | q | q | q | q | q <;> subst q <;> rfl
    · refine lv_lookup (off := 35) (tgt := 36) X.1 X.2.1 dX1_depthOn_1 (by decide) (by rw [lv_osw c_1_0 (a := 1) (by decide), lv_osw c_1_1 (a := 2) (by decide)]; rfl) (by decide) ?_
      have hg1 : g = 0 := by
        rcases (by omega : g = 0 ∨ g = 1 ∨ g = 2) with q | q | q
        · exact q
        · exact absurd (by rw [q]; rfl) c_1_0
        · exact absurd (by rw [q]; rfl) c_1_1
      subst hg1
      refine lv_iconst (v := 4) X.1 X.2.1 dX1_depthOn_36 (by decide) ?_
      refine lv_iload_n X.1 X.2.1 dX1_depthOn_37 rfl (lv_at hl 1 rfl) ?_
      refine lv_imul X.1 X.2.1 dX1_depthOn_38 ?_
      refine e_ip X hr S dX1_depthOn_39 ?_
      rcases (by omega : z = 1 ∨ z = 2 ∨ z = 3 ∨ z = 4 ∨ z = 5 ∨ z = 6) with q | q | q | q | q | q <;> subst q <;> rfl

set_option maxRecDepth 100000 in
set_option maxHeartbeats 4000000 in
/-- Crater(x, y, size, kind) -/
theorem m_Crater (l : Launch) (G : cx_G) (f : Wd) (a t x y z g : Nat) (ha : f a = some (t, .inr (2, [.int 0, .int 0, .int 0, .int 0, .int 0, .int 0]))) (ht : t ≠ 9999) (hg : g ≤ 2) (hz1 : 1 ≤ z) (hz : z ≤ 6) : MV l G yX1_init wsX1_init 2 45 0 0 [.ref a, .int (nI x), .int (nI y), .int (nI z), .int (nI g)] f (fun f' => f' = wu f a t (eC x y z (radOn g z) (depOn g z) (depOn g z))) := by
  refine cx_body (cc := cX1_init) (n := 5) (ret := none) (by decide +kernel) rfl (Nat.le_of_ble_eq_true rfl) ?_
  intro p0 e0 s0 m0 b0 meth0 c0 ls X hr hnm S hl
  have X : cxC G p0 l _ c0 cX1_init 5 m0 meth0 s0 _ RX1 wsX1_init := X
  have hl : lv_has ls 5 [(0, .ref a), (1, .int (nI x)), (2, .int (nI y)), (3, .int (nI z)), (4, .int (nI g))] := hl
  have in_RX1 : ∀ w ∈ u_ws RX1 TX1 6, w ∈ wsX1_init := by decide +kernel
  refine lv_aload_n X.1 X.2.1 dX1_init_0 rfl (lv_at hl 0 rfl) ?_
  refine r_objInit X (by decide +kernel) (by decide +kernel) (by decide +kernel) hl.1 dX1_init_1 (by exact Nat.le_of_ble_eq_true rfl) (by exact Nat.le_of_ble_eq_true rfl) ?_
  refine lv_aload_n X.1 X.2.1 dX1_init_4 rfl (lv_at hl 0 rfl) ?_
  refine lv_iload_n X.1 X.2.1 dX1_init_5 rfl (lv_at hl 1 rfl) ?_
  refine r_putF (C := RX1) (T := TX1) (N := 6) (ref := "Craterclock$Crater") (fs' := [.int (nI x), .int 0, .int 0, .int 0, .int 0, .int 0]) (ty := .int) X S in_RX1 tyX1 tyX1_ok nmX1 ha (by omega) rfl 0 (by decide) (by decide +kernel) (fun _ h => h) rfl hnm rfl (by decide +kernel) rfl rfl (Nat.le_of_ble_eq_true rfl) rfl dX1_init_6 (fun H locs S => ?_)
  obtain ⟨f_6, ef_6⟩ : ∃ z9 : Wd, z9 = wu f a t (.inr (2, [.int (nI x), .int 0, .int 0, .int 0, .int 0, .int 0])) := ⟨_, rfl⟩
  rw [← ef_6] at S
  have ha_6 : f_6 a = some (t, .inr (2, [.int (nI x), .int 0, .int 0, .int 0, .int 0, .int 0])) := by rw [ef_6]; exact wu_self _ _ _ _
  refine lv_aload_n X.1 X.2.1 dX1_init_9 rfl (lv_at hl 0 rfl) ?_
  refine lv_iload_n X.1 X.2.1 dX1_init_10 rfl (lv_at hl 2 rfl) ?_
  refine r_putF (C := RX1) (T := TX1) (N := 6) (ref := "Craterclock$Crater") (fs' := [.int (nI x), .int (nI y), .int 0, .int 0, .int 0, .int 0]) (ty := .int) X S in_RX1 tyX1 tyX1_ok nmX1 ha_6 (by omega) rfl 1 (by decide) (by decide +kernel) (fun _ h => h) rfl hnm rfl (by decide +kernel) rfl rfl (Nat.le_of_ble_eq_true rfl) rfl dX1_init_11 (fun H locs S => ?_)
  obtain ⟨f_11, ef_11⟩ : ∃ z9 : Wd, z9 = wu f_6 a t (.inr (2, [.int (nI x), .int (nI y), .int 0, .int 0, .int 0, .int 0])) := ⟨_, rfl⟩
  rw [← ef_11] at S
  have ha_11 : f_11 a = some (t, .inr (2, [.int (nI x), .int (nI y), .int 0, .int 0, .int 0, .int 0])) := by rw [ef_11]; exact wu_self _ _ _ _
  refine lv_aload_n X.1 X.2.1 dX1_init_14 rfl (lv_at hl 0 rfl) ?_
  refine lv_iload_n X.1 X.2.1 dX1_init_15 rfl (lv_at hl 3 rfl) ?_
  refine r_putF (C := RX1) (T := TX1) (N := 6) (ref := "Craterclock$Crater") (fs' := [.int (nI x), .int (nI y), .int (nI z), .int 0, .int 0, .int 0]) (ty := .int) X S in_RX1 tyX1 tyX1_ok nmX1 ha_11 (by omega) rfl 2 (by decide) (by decide +kernel) (fun _ h => h) rfl hnm rfl (by decide +kernel) rfl rfl (Nat.le_of_ble_eq_true rfl) rfl dX1_init_16 (fun H locs S => ?_)
  obtain ⟨f_16, ef_16⟩ : ∃ z9 : Wd, z9 = wu f_11 a t (.inr (2, [.int (nI x), .int (nI y), .int (nI z), .int 0, .int 0, .int 0])) := ⟨_, rfl⟩
  rw [← ef_16] at S
  have ha_16 : f_16 a = some (t, .inr (2, [.int (nI x), .int (nI y), .int (nI z), .int 0, .int 0, .int 0])) := by rw [ef_16]; exact wu_self _ _ _ _
  refine lv_aload_n X.1 X.2.1 dX1_init_19 rfl (lv_at hl 0 rfl) ?_
  refine lv_iload X.1 X.2.1 dX1_init_20 (lv_at hl 4 rfl) ?_
  refine lv_iload_n X.1 X.2.1 dX1_init_22 rfl (lv_at hl 3 rfl) ?_
  refine call_ip (run_S X S (m_radiusOn l G f_16 g z hg hz1 hz) 2 gX1_init_X1_radiusOn rfl rfl rfl (by decide +kernel) ⟨(by exact Nat.le_of_ble_eq_true rfl), (by exact Nat.le_of_ble_eq_true rfl)⟩ rfl hl.1 rfl (by exact Nat.le_of_ble_eq_true rfl) dX1_init_23 ⟨(Nat.zero_le _), (Nat.zero_le _)⟩) S (fun r_23 H locs hr_23 S => ?_)
  subst hr_23
  refine r_putF (C := RX1) (T := TX1) (N := 6) (ref := "Craterclock$Crater") (fs' := [.int (nI x), .int (nI y), .int (nI z), .int (nI (radOn g z)), .int 0, .int 0]) (ty := .int) X S in_RX1 tyX1 tyX1_ok nmX1 ha_16 (by omega) rfl 3 (by decide) (by decide +kernel) (fun _ h => h) rfl hnm rfl (by decide +kernel) rfl rfl (Nat.le_of_ble_eq_true rfl) rfl dX1_init_26 (fun H locs S => ?_)
  obtain ⟨f_26, ef_26⟩ : ∃ z9 : Wd, z9 = wu f_16 a t (.inr (2, [.int (nI x), .int (nI y), .int (nI z), .int (nI (radOn g z)), .int 0, .int 0])) := ⟨_, rfl⟩
  rw [← ef_26] at S
  have ha_26 : f_26 a = some (t, .inr (2, [.int (nI x), .int (nI y), .int (nI z), .int (nI (radOn g z)), .int 0, .int 0])) := by rw [ef_26]; exact wu_self _ _ _ _
  refine lv_aload_n X.1 X.2.1 dX1_init_29 rfl (lv_at hl 0 rfl) ?_
  refine lv_iload X.1 X.2.1 dX1_init_30 (lv_at hl 4 rfl) ?_
  refine lv_iload_n X.1 X.2.1 dX1_init_32 rfl (lv_at hl 3 rfl) ?_
  refine call_ip (run_S X S (m_depthOn l G f_26 g z hg hz1 hz) 2 gX1_init_X1_depthOn rfl rfl rfl (by decide +kernel) ⟨(by exact Nat.le_of_ble_eq_true rfl), (by exact Nat.le_of_ble_eq_true rfl)⟩ rfl hl.1 rfl (by exact Nat.le_of_ble_eq_true rfl) dX1_init_33 ⟨(Nat.zero_le _), (Nat.zero_le _)⟩) S (fun r_33 H locs hr_33 S => ?_)
  subst hr_33
  refine r_putF (C := RX1) (T := TX1) (N := 6) (ref := "Craterclock$Crater") (fs' := [.int (nI x), .int (nI y), .int (nI z), .int (nI (radOn g z)), .int (nI (depOn g z)), .int 0]) (ty := .int) X S in_RX1 tyX1 tyX1_ok nmX1 ha_26 (by omega) rfl 4 (by decide) (by decide +kernel) (fun _ h => h) rfl hnm rfl (by decide +kernel) rfl rfl (Nat.le_of_ble_eq_true rfl) rfl dX1_init_36 (fun H locs S => ?_)
  obtain ⟨f_36, ef_36⟩ : ∃ z9 : Wd, z9 = wu f_26 a t (.inr (2, [.int (nI x), .int (nI y), .int (nI z), .int (nI (radOn g z)), .int (nI (depOn g z)), .int 0])) := ⟨_, rfl⟩
  rw [← ef_36] at S
  have ha_36 : f_36 a = some (t, .inr (2, [.int (nI x), .int (nI y), .int (nI z), .int (nI (radOn g z)), .int (nI (depOn g z)), .int 0])) := by rw [ef_36]; exact wu_self _ _ _ _
  refine lv_aload_n X.1 X.2.1 dX1_init_39 rfl (lv_at hl 0 rfl) ?_
  refine lv_aload_n X.1 X.2.1 dX1_init_40 rfl (lv_at hl 0 rfl) ?_
  refine r_get (C := RX1) (T := TX1) (N := 6) (ref := "Craterclock$Crater") X S in_RX1 ha_36 rfl 4 (by decide) (by decide +kernel) (fun _ h => h) rfl dX1_init_41 ?_
  refine r_put (C := RX1) (T := TX1) (N := 6) (ref := "Craterclock$Crater") (fs' := [.int (nI x), .int (nI y), .int (nI z), .int (nI (radOn g z)), .int (nI (depOn g z)), .int (nI (depOn g z))]) (ty := .int) X S in_RX1 tyX1 tyX1_ok nmX1 ha_36 (by omega) rfl 5 (by decide) (by decide +kernel) (fun _ h => h) rfl (by decide +kernel) rfl rfl (Nat.le_of_ble_eq_true rfl) rfl dX1_init_44 (fun H locs S => ?_)
  obtain ⟨f_44, ef_44⟩ : ∃ z9 : Wd, z9 = wu f_36 a t (.inr (2, [.int (nI x), .int (nI y), .int (nI z), .int (nI (radOn g z)), .int (nI (depOn g z)), .int (nI (depOn g z))])) := ⟨_, rfl⟩
  rw [← ef_44] at S
  have ha_44 : f_44 a = some (t, .inr (2, [.int (nI x), .int (nI y), .int (nI z), .int (nI (radOn g z)), .int (nI (depOn g z)), .int (nI (depOn g z))])) := by rw [ef_44]; exact wu_self _ _ _ _
  refine e_v X hr S (Nat.le_of_ble_eq_true rfl) (Nat.le_of_ble_eq_true rfl) dX1_init_47 ?_
  rw [ef_44, ef_36, ef_26, ef_16, ef_11, ef_6, wu_wu, wu_wu, wu_wu, wu_wu, wu_wu]

set_option maxRecDepth 100000 in
set_option maxHeartbeats 4000000 in
/-- Eye(skill) -/
theorem m_Eye (l : Launch) (G : cx_G) (f : Wd) (a t : Nat) (k : Nat) (ha : f a = some (t, .inr (4, [.int 0]))) (ht : t ≠ 9999) : MV l G yX3_init wsX3_init 1 20 0 0 [.ref a, .int (nI k)] f (fun f' => f' = wu f a t (.inr (4, [.int (nI k)]))) := by
  refine cx_body (cc := cX3_init) (n := 2) (ret := none) (by decide +kernel) rfl (Nat.le_of_ble_eq_true rfl) ?_
  intro p0 e0 s0 m0 b0 meth0 c0 ls X hr hnm S hl
  have X : cxC G p0 l _ c0 cX3_init 2 m0 meth0 s0 _ RX3 wsX3_init := X
  have hl : lv_has ls 2 [(0, .ref a), (1, .int (nI k))] := hl
  have in_RX3 : ∀ w ∈ u_ws RX3 TX3 1, w ∈ wsX3_init := by decide +kernel
  refine lv_aload_n X.1 X.2.1 dX3_init_0 rfl (lv_at hl 0 rfl) ?_
  refine r_objInit X (by decide +kernel) (by decide +kernel) (by decide +kernel) hl.1 dX3_init_1 (by exact Nat.le_of_ble_eq_true rfl) (by exact Nat.le_of_ble_eq_true rfl) ?_
  refine lv_aload_n X.1 X.2.1 dX3_init_4 rfl (lv_at hl 0 rfl) ?_
  refine lv_iload_n X.1 X.2.1 dX3_init_5 rfl (lv_at hl 1 rfl) ?_
  refine r_putF (C := RX3) (T := TX3) (N := 1) (ref := "Craterclock$Eye") (fs' := [.int (nI k)]) (ty := .int) X S in_RX3 tyX3 tyX3_ok nmX3 ha (by omega) rfl 0 (by decide) (by decide +kernel) (fun _ h => h) rfl hnm rfl (by decide +kernel) rfl rfl (Nat.le_of_ble_eq_true rfl) rfl dX3_init_6 (fun H locs S => ?_)
  obtain ⟨f_6, ef_6⟩ : ∃ z9 : Wd, z9 = wu f a t (.inr (4, [.int (nI k)])) := ⟨_, rfl⟩
  rw [← ef_6] at S
  have ha_6 : f_6 a = some (t, .inr (4, [.int (nI k)])) := by rw [ef_6]; exact wu_self _ _ _ _
  refine e_v X hr S (Nat.le_of_ble_eq_true rfl) (Nat.le_of_ble_eq_true rfl) dX3_init_9 ?_
  exact ef_6

set_option maxRecDepth 100000 in
set_option maxHeartbeats 4000000 in
/-- Anchor(years, density) -/
theorem m_Anchor (l : Launch) (G : cx_G) (f : Wd) (a t : Nat) (u v : Int64) (ha : f a = some (t, .inr (1, [.long 0, .long 0]))) (ht : t ≠ 9999) : MV l G yX0_init wsX0_init 1 20 0 0 [.ref a, .long u, .long v] f (fun f' => f' = wu f a t (.inr (1, [.long u, .long v]))) := by
  refine cx_body (cc := cX0_init) (n := 5) (ret := none) (by decide +kernel) rfl (Nat.le_of_ble_eq_true rfl) ?_
  intro p0 e0 s0 m0 b0 meth0 c0 ls X hr hnm S hl
  have X : cxC G p0 l _ c0 cX0_init 5 m0 meth0 s0 _ RX0 wsX0_init := X
  have hl : lv_has ls 5 [(0, .ref a), (1, .long u), (3, .long v)] := hl
  have in_RX0 : ∀ w ∈ u_ws RX0 TX0 2, w ∈ wsX0_init := by decide +kernel
  refine lv_aload_n X.1 X.2.1 dX0_init_0 rfl (lv_at hl 0 rfl) ?_
  refine r_objInit X (by decide +kernel) (by decide +kernel) (by decide +kernel) hl.1 dX0_init_1 (by exact Nat.le_of_ble_eq_true rfl) (by exact Nat.le_of_ble_eq_true rfl) ?_
  refine lv_aload_n X.1 X.2.1 dX0_init_4 rfl (lv_at hl 0 rfl) ?_
  refine lv_lload_n X.1 X.2.1 dX0_init_5 rfl (lv_at hl 1 rfl) ?_
  refine r_putF (C := RX0) (T := TX0) (N := 2) (ref := "Craterclock$Anchor") (fs' := [.long u, .long 0]) (ty := .long) X S in_RX0 tyX0 tyX0_ok nmX0 ha (by omega) rfl 0 (by decide) (by decide +kernel) (fun _ h => h) rfl hnm rfl (by decide +kernel) rfl rfl (Nat.le_of_ble_eq_true rfl) rfl dX0_init_6 (fun H locs S => ?_)
  obtain ⟨f_6, ef_6⟩ : ∃ z9 : Wd, z9 = wu f a t (.inr (1, [.long u, .long 0])) := ⟨_, rfl⟩
  rw [← ef_6] at S
  have ha_6 : f_6 a = some (t, .inr (1, [.long u, .long 0])) := by rw [ef_6]; exact wu_self _ _ _ _
  refine lv_aload_n X.1 X.2.1 dX0_init_9 rfl (lv_at hl 0 rfl) ?_
  refine lv_lload_n X.1 X.2.1 dX0_init_10 rfl (lv_at hl 2 rfl) ?_
  refine r_putF (C := RX0) (T := TX0) (N := 2) (ref := "Craterclock$Anchor") (fs' := [.long u, .long v]) (ty := .long) X S in_RX0 tyX0 tyX0_ok nmX0 ha_6 (by omega) rfl 1 (by decide) (by decide +kernel) (fun _ h => h) rfl hnm rfl (by decide +kernel) rfl rfl (Nat.le_of_ble_eq_true rfl) rfl dX0_init_11 (fun H locs S => ?_)
  obtain ⟨f_11, ef_11⟩ : ∃ z9 : Wd, z9 = wu f_6 a t (.inr (1, [.long u, .long v])) := ⟨_, rfl⟩
  rw [← ef_11] at S
  have ha_11 : f_11 a = some (t, .inr (1, [.long u, .long v])) := by rw [ef_11]; exact wu_self _ _ _ _
  refine e_v X hr S (Nat.le_of_ble_eq_true rfl) (Nat.le_of_ble_eq_true rfl) dX0_init_14 ?_
  rw [ef_11, ef_6, wu_wu]

set_option maxRecDepth 100000 in
set_option maxHeartbeats 4000000 in
/-- Field(x, y, toX, toY) -/
theorem m_Field (l : Launch) (G : cx_G) (f : Wd) (a t : Nat) (x y tx ty : Nat) (ha : f a = some (t, .inr (5, [.int 0, .int 0, .int 0, .int 0]))) (ht : t ≠ 9999) : MV l G yX4_init wsX4_init 1 20 0 0 [.ref a, .int (nI x), .int (nI y), .int (nI tx), .int (nI ty)] f (fun f' => f' = wu f a t (.inr (5, [.int (nI x), .int (nI y), .int (nI tx), .int (nI ty)]))) := by
  refine cx_body (cc := cX4_init) (n := 5) (ret := none) (by decide +kernel) rfl (Nat.le_of_ble_eq_true rfl) ?_
  intro p0 e0 s0 m0 b0 meth0 c0 ls X hr hnm S hl
  have X : cxC G p0 l _ c0 cX4_init 5 m0 meth0 s0 _ RX4 wsX4_init := X
  have hl : lv_has ls 5 [(0, .ref a), (1, .int (nI x)), (2, .int (nI y)), (3, .int (nI tx)), (4, .int (nI ty))] := hl
  have in_RX4 : ∀ w ∈ u_ws RX4 TX4 4, w ∈ wsX4_init := by decide +kernel
  refine lv_aload_n X.1 X.2.1 dX4_init_0 rfl (lv_at hl 0 rfl) ?_
  refine r_objInit X (by decide +kernel) (by decide +kernel) (by decide +kernel) hl.1 dX4_init_1 (by exact Nat.le_of_ble_eq_true rfl) (by exact Nat.le_of_ble_eq_true rfl) ?_
  refine lv_aload_n X.1 X.2.1 dX4_init_4 rfl (lv_at hl 0 rfl) ?_
  refine lv_iload_n X.1 X.2.1 dX4_init_5 rfl (lv_at hl 1 rfl) ?_
  refine r_putF (C := RX4) (T := TX4) (N := 4) (ref := "Craterclock$Field") (fs' := [.int (nI x), .int 0, .int 0, .int 0]) (ty := .int) X S in_RX4 tyX4 tyX4_ok nmX4 ha (by omega) rfl 0 (by decide) (by decide +kernel) (fun _ h => h) rfl hnm rfl (by decide +kernel) rfl rfl (Nat.le_of_ble_eq_true rfl) rfl dX4_init_6 (fun H locs S => ?_)
  obtain ⟨f_6, ef_6⟩ : ∃ z9 : Wd, z9 = wu f a t (.inr (5, [.int (nI x), .int 0, .int 0, .int 0])) := ⟨_, rfl⟩
  rw [← ef_6] at S
  have ha_6 : f_6 a = some (t, .inr (5, [.int (nI x), .int 0, .int 0, .int 0])) := by rw [ef_6]; exact wu_self _ _ _ _
  refine lv_aload_n X.1 X.2.1 dX4_init_9 rfl (lv_at hl 0 rfl) ?_
  refine lv_iload_n X.1 X.2.1 dX4_init_10 rfl (lv_at hl 2 rfl) ?_
  refine r_putF (C := RX4) (T := TX4) (N := 4) (ref := "Craterclock$Field") (fs' := [.int (nI x), .int (nI y), .int 0, .int 0]) (ty := .int) X S in_RX4 tyX4 tyX4_ok nmX4 ha_6 (by omega) rfl 1 (by decide) (by decide +kernel) (fun _ h => h) rfl hnm rfl (by decide +kernel) rfl rfl (Nat.le_of_ble_eq_true rfl) rfl dX4_init_11 (fun H locs S => ?_)
  obtain ⟨f_11, ef_11⟩ : ∃ z9 : Wd, z9 = wu f_6 a t (.inr (5, [.int (nI x), .int (nI y), .int 0, .int 0])) := ⟨_, rfl⟩
  rw [← ef_11] at S
  have ha_11 : f_11 a = some (t, .inr (5, [.int (nI x), .int (nI y), .int 0, .int 0])) := by rw [ef_11]; exact wu_self _ _ _ _
  refine lv_aload_n X.1 X.2.1 dX4_init_14 rfl (lv_at hl 0 rfl) ?_
  refine lv_iload_n X.1 X.2.1 dX4_init_15 rfl (lv_at hl 3 rfl) ?_
  refine r_putF (C := RX4) (T := TX4) (N := 4) (ref := "Craterclock$Field") (fs' := [.int (nI x), .int (nI y), .int (nI tx), .int 0]) (ty := .int) X S in_RX4 tyX4 tyX4_ok nmX4 ha_11 (by omega) rfl 2 (by decide) (by decide +kernel) (fun _ h => h) rfl hnm rfl (by decide +kernel) rfl rfl (Nat.le_of_ble_eq_true rfl) rfl dX4_init_16 (fun H locs S => ?_)
  obtain ⟨f_16, ef_16⟩ : ∃ z9 : Wd, z9 = wu f_11 a t (.inr (5, [.int (nI x), .int (nI y), .int (nI tx), .int 0])) := ⟨_, rfl⟩
  rw [← ef_16] at S
  have ha_16 : f_16 a = some (t, .inr (5, [.int (nI x), .int (nI y), .int (nI tx), .int 0])) := by rw [ef_16]; exact wu_self _ _ _ _
  refine lv_aload_n X.1 X.2.1 dX4_init_19 rfl (lv_at hl 0 rfl) ?_
  refine lv_iload X.1 X.2.1 dX4_init_20 (lv_at hl 4 rfl) ?_
  refine r_putF (C := RX4) (T := TX4) (N := 4) (ref := "Craterclock$Field") (fs' := [.int (nI x), .int (nI y), .int (nI tx), .int (nI ty)]) (ty := .int) X S in_RX4 tyX4 tyX4_ok nmX4 ha_16 (by omega) rfl 3 (by decide) (by decide +kernel) (fun _ h => h) rfl hnm rfl (by decide +kernel) rfl rfl (Nat.le_of_ble_eq_true rfl) rfl dX4_init_22 (fun H locs S => ?_)
  obtain ⟨f_22, ef_22⟩ : ∃ z9 : Wd, z9 = wu f_16 a t (.inr (5, [.int (nI x), .int (nI y), .int (nI tx), .int (nI ty)])) := ⟨_, rfl⟩
  rw [← ef_22] at S
  have ha_22 : f_22 a = some (t, .inr (5, [.int (nI x), .int (nI y), .int (nI tx), .int (nI ty)])) := by rw [ef_22]; exact wu_self _ _ _ _
  refine e_v X hr S (Nat.le_of_ble_eq_true rfl) (Nat.le_of_ble_eq_true rfl) dX4_init_25 ?_
  rw [ef_22, ef_16, ef_11, ef_6, wu_wu, wu_wu, wu_wu]

set_option maxRecDepth 100000 in
set_option maxHeartbeats 4000000 in
/-- Ground(rows) -/
theorem m_Ground (l : Launch) (G : cx_G) (f : Wd) (a t : Nat) (rw1 : Nat) (ha : f a = some (t, .inr (7, [.null]))) (ht : t ≠ 9999) : MV l G yX6_init wsX6_init 1 20 0 0 [.ref a, .ref rw1] f (fun f' => f' = wu f a t (.inr (7, [.ref rw1]))) := by
  refine cx_body (cc := cX6_init) (n := 2) (ret := none) (by decide +kernel) rfl (Nat.le_of_ble_eq_true rfl) ?_
  intro p0 e0 s0 m0 b0 meth0 c0 ls X hr hnm S hl
  have X : cxC G p0 l _ c0 cX6_init 2 m0 meth0 s0 _ RX6 wsX6_init := X
  have hl : lv_has ls 2 [(0, .ref a), (1, .ref rw1)] := hl
  have in_RX6 : ∀ w ∈ u_ws RX6 TX6 1, w ∈ wsX6_init := by decide +kernel
  refine lv_aload_n X.1 X.2.1 dX6_init_0 rfl (lv_at hl 0 rfl) ?_
  refine r_objInit X (by decide +kernel) (by decide +kernel) (by decide +kernel) hl.1 dX6_init_1 (by exact Nat.le_of_ble_eq_true rfl) (by exact Nat.le_of_ble_eq_true rfl) ?_
  refine lv_aload_n X.1 X.2.1 dX6_init_4 rfl (lv_at hl 0 rfl) ?_
  refine lv_aload_n X.1 X.2.1 dX6_init_5 rfl (lv_at hl 1 rfl) ?_
  refine r_putF (C := RX6) (T := TX6) (N := 1) (ref := "Craterclock$Ground") (fs' := [.ref rw1]) (ty := .array .int) X S in_RX6 tyX6 tyX6_ok nmX6 ha (by omega) rfl 0 (by decide) (by decide +kernel) (fun _ h => h) rfl hnm rfl (by decide +kernel) rfl rfl (Nat.le_of_ble_eq_true rfl) rfl dX6_init_6 (fun H locs S => ?_)
  obtain ⟨f_6, ef_6⟩ : ∃ z9 : Wd, z9 = wu f a t (.inr (7, [.ref rw1])) := ⟨_, rfl⟩
  rw [← ef_6] at S
  have ha_6 : f_6 a = some (t, .inr (7, [.ref rw1])) := by rw [ef_6]; exact wu_self _ _ _ _
  refine e_v X hr S (Nat.le_of_ble_eq_true rfl) (Nat.le_of_ble_eq_true rfl) dX6_init_9 ?_
  exact ef_6

set_option maxRecDepth 100000 in
set_option maxHeartbeats 4000000 in
/-- Eye.sees -/
theorem m_sees (l : Launch) (G : cx_G) (f : Wd) (e1 te k a t : Nat) (x y z r fd d : Nat) (ha : f a = some (t, eC x y z r fd d)) (he : f e1 = some (te, .inr (4, [.int (nI k)]))) (hk : k ≤ 9) (hd : d < 1000) : PI l G yX3_sees wsX3_sees 0 0 [.ref e1, .ref a] f (fun v => v = b2i (decide (0 < d ∧ 10 - k ≤ d))) := by
  refine cx_body (cc := cX3_sees) (n := 2) (ret := (some .boolean)) (by decide +kernel) rfl (Nat.le_of_ble_eq_true rfl) ?_
  intro p0 e0 s0 m0 b0 meth0 c0 ls X hr hnm S hl
  have X : cxC G p0 l _ c0 cX3_sees 2 m0 meth0 s0 _ RX3 wsX3_sees := X
  have hl : lv_has ls 2 [(0, .ref e1), (1, .ref a)] := hl
  have in_RX1 : ∀ w ∈ u_ws RX1 TX1 6, w ∈ wsX3_sees := by decide +kernel
  have in_RX3 : ∀ w ∈ u_ws RX3 TX3 1, w ∈ wsX3_sees := by decide +kernel
  refine lv_aload_n X.1 X.2.1 dX3_sees_0 rfl (lv_at hl 1 rfl) ?_
  refine r_get (C := RX1) (T := TX1) (N := 6) (ref := "Craterclock$Crater") X S in_RX1 ha rfl 5 (by decide) (by decide +kernel) (fun _ h => h) rfl dX3_sees_1 ?_
  refine lv_if_le (tgt := 25) X.1 X.2.1 dX3_sees_4 (by decide) (fun c_4 => ?_) (fun c_4 => ?_)
  · refine lv_iconst (v := 0) X.1 X.2.1 dX3_sees_25 (by decide) ?_
    refine e_zp X hr S dX3_sees_26 rfl ?_
    first | exact b2i_f (fun z => nI_nle z.1 (by omega) c_4) | exact b2i_f (fun z => nI_nlt z.2 (by omega) c_18)
  · refine lv_aload_n X.1 X.2.1 dX3_sees_7 rfl (lv_at hl 1 rfl) ?_
    refine r_get (C := RX1) (T := TX1) (N := 6) (ref := "Craterclock$Crater") X S in_RX1 ha rfl 5 (by decide) (by decide +kernel) (fun _ h => h) rfl dX3_sees_8 ?_
    refine lv_bipush (v := 10) X.1 X.2.1 dX3_sees_11 (by decide) ?_
    refine lv_aload_n X.1 X.2.1 dX3_sees_13 rfl (lv_at hl 0 rfl) ?_
    refine r_get (C := RX3) (T := TX3) (N := 1) (ref := "Craterclock$Eye") X S in_RX3 he rfl 0 (by decide) (by decide +kernel) (fun _ h => h) rfl dX3_sees_14 ?_
    refine lv_isub X.1 X.2.1 dX3_sees_17 ?_
    refine r_toi (y := nI (10 - k)) (pk_sub (a := 10) (by omega)) ?_
    refine lv_icmp_lt (tgt := 25) X.1 X.2.1 dX3_sees_18 (by decide) (fun c_18 => ?_) (fun c_18 => ?_)
    · refine lv_iconst (v := 0) X.1 X.2.1 dX3_sees_25 (by decide) ?_
      refine e_zp X hr S dX3_sees_26 rfl ?_
      first | exact b2i_f (fun z => nI_nle z.1 (by omega) c_4) | exact b2i_f (fun z => nI_nlt z.2 (by omega) c_18)
    · refine lv_iconst (v := 1) X.1 X.2.1 dX3_sees_21 (by decide) ?_
      refine lv_goto (tgt := 26) X.1 X.2.1 dX3_sees_22 (by decide) ?_
      refine e_zp X hr S dX3_sees_26 rfl ?_
      exact b2i_t ⟨Nat.pos_of_ne_zero (fun z => c_4 (by rw [z]; decide)), Nat.le_of_not_lt (fun z => c_18 (nI_lt z (by omega)))⟩

set_option maxRecDepth 100000 in
set_option maxHeartbeats 4000000 in
/-- Field.has -/
theorem m_has (l : Launch) (G : cx_G) (f : Wd) (a t x y tx ty : Nat) (ha : f a = some (t, eF x y tx ty)) (hx : x < 16) (hy : y < 16) (htx : tx < 16) (hty : ty < 16) (cx cy : Nat) (hcx : cx < 16) (hcy : cy < 16) : PI l G yX4_has wsX4_has 0 0 [.ref a, .int (nI cx), .int (nI cy)] f (fun v => v = b2i (decide (x ≤ cx ∧ cx ≤ tx ∧ y ≤ cy ∧ cy ≤ ty))) := by
  refine cx_body (cc := cX4_has) (n := 3) (ret := (some .boolean)) (by decide +kernel) rfl (Nat.le_of_ble_eq_true rfl) ?_
  intro p0 e0 s0 m0 b0 meth0 c0 ls X hr hnm S hl
  have X : cxC G p0 l _ c0 cX4_has 3 m0 meth0 s0 _ RX4 wsX4_has := X
  have hl : lv_has ls 3 [(0, .ref a), (1, .int (nI cx)), (2, .int (nI cy))] := hl
  have in_RX4 : ∀ w ∈ u_ws RX4 TX4 4, w ∈ wsX4_has := by decide +kernel
  refine lv_iload_n X.1 X.2.1 dX4_has_0 rfl (lv_at hl 1 rfl) ?_
  refine lv_aload_n X.1 X.2.1 dX4_has_1 rfl (lv_at hl 0 rfl) ?_
  refine r_get (C := RX4) (T := TX4) (N := 4) (ref := "Craterclock$Field") X S in_RX4 ha rfl 0 (by decide) (by decide +kernel) (fun _ h => h) rfl dX4_has_2 ?_
  refine lv_icmp_lt (tgt := 36) X.1 X.2.1 dX4_has_5 (by decide) (fun c_5 => ?_) (fun c_5 => ?_)
  · refine lv_iconst (v := 0) X.1 X.2.1 dX4_has_36 (by decide) ?_
    refine e_zp X hr S dX4_has_37 rfl ?_
    first | exact b2i_f (fun z => nI_nlt z.1 (by omega) c_5) | exact b2i_f (fun z => nI_nlt z.2.1 (by omega) c_13) | exact b2i_f (fun z => nI_nlt z.2.2.1 (by omega) c_21) | exact b2i_f (fun z => nI_nlt z.2.2.2 (by omega) c_29)
  · refine lv_iload_n X.1 X.2.1 dX4_has_8 rfl (lv_at hl 1 rfl) ?_
    refine lv_aload_n X.1 X.2.1 dX4_has_9 rfl (lv_at hl 0 rfl) ?_
    refine r_get (C := RX4) (T := TX4) (N := 4) (ref := "Craterclock$Field") X S in_RX4 ha rfl 2 (by decide) (by decide +kernel) (fun _ h => h) rfl dX4_has_10 ?_
    refine lv_icmp_gt (tgt := 36) X.1 X.2.1 dX4_has_13 (by decide) (fun c_13 => ?_) (fun c_13 => ?_)
    · refine lv_iconst (v := 0) X.1 X.2.1 dX4_has_36 (by decide) ?_
      refine e_zp X hr S dX4_has_37 rfl ?_
      first | exact b2i_f (fun z => nI_nlt z.1 (by omega) c_5) | exact b2i_f (fun z => nI_nlt z.2.1 (by omega) c_13) | exact b2i_f (fun z => nI_nlt z.2.2.1 (by omega) c_21) | exact b2i_f (fun z => nI_nlt z.2.2.2 (by omega) c_29)
    · refine lv_iload_n X.1 X.2.1 dX4_has_16 rfl (lv_at hl 2 rfl) ?_
      refine lv_aload_n X.1 X.2.1 dX4_has_17 rfl (lv_at hl 0 rfl) ?_
      refine r_get (C := RX4) (T := TX4) (N := 4) (ref := "Craterclock$Field") X S in_RX4 ha rfl 1 (by decide) (by decide +kernel) (fun _ h => h) rfl dX4_has_18 ?_
      refine lv_icmp_lt (tgt := 36) X.1 X.2.1 dX4_has_21 (by decide) (fun c_21 => ?_) (fun c_21 => ?_)
      · refine lv_iconst (v := 0) X.1 X.2.1 dX4_has_36 (by decide) ?_
        refine e_zp X hr S dX4_has_37 rfl ?_
        first | exact b2i_f (fun z => nI_nlt z.1 (by omega) c_5) | exact b2i_f (fun z => nI_nlt z.2.1 (by omega) c_13) | exact b2i_f (fun z => nI_nlt z.2.2.1 (by omega) c_21) | exact b2i_f (fun z => nI_nlt z.2.2.2 (by omega) c_29)
      · refine lv_iload_n X.1 X.2.1 dX4_has_24 rfl (lv_at hl 2 rfl) ?_
        refine lv_aload_n X.1 X.2.1 dX4_has_25 rfl (lv_at hl 0 rfl) ?_
        refine r_get (C := RX4) (T := TX4) (N := 4) (ref := "Craterclock$Field") X S in_RX4 ha rfl 3 (by decide) (by decide +kernel) (fun _ h => h) rfl dX4_has_26 ?_
        refine lv_icmp_gt (tgt := 36) X.1 X.2.1 dX4_has_29 (by decide) (fun c_29 => ?_) (fun c_29 => ?_)
        · refine lv_iconst (v := 0) X.1 X.2.1 dX4_has_36 (by decide) ?_
          refine e_zp X hr S dX4_has_37 rfl ?_
          first | exact b2i_f (fun z => nI_nlt z.1 (by omega) c_5) | exact b2i_f (fun z => nI_nlt z.2.1 (by omega) c_13) | exact b2i_f (fun z => nI_nlt z.2.2.1 (by omega) c_21) | exact b2i_f (fun z => nI_nlt z.2.2.2 (by omega) c_29)
        · refine lv_iconst (v := 1) X.1 X.2.1 dX4_has_32 (by decide) ?_
          refine lv_goto (tgt := 37) X.1 X.2.1 dX4_has_33 (by decide) ?_
          refine e_zp X hr S dX4_has_37 rfl ?_
          exact b2i_t ⟨Nat.le_of_not_lt (fun z => c_5 (nI_lt z (by omega))), Nat.le_of_not_lt (fun z => c_13 (nI_lt z (by omega))), Nat.le_of_not_lt (fun z => c_21 (nI_lt z (by omega))), Nat.le_of_not_lt (fun z => c_29 (nI_lt z (by omega)))⟩

set_option maxRecDepth 100000 in
set_option maxHeartbeats 4000000 in
/-- Field.cells -/
theorem m_cells (l : Launch) (G : cx_G) (f : Wd) (a t x y tx ty : Nat) (ha : f a = some (t, eF x y tx ty)) (hx : x < 16) (hy : y < 16) (htx : tx < 16) (hty : ty < 16) (h1 : x ≤ tx) (h2 : y ≤ ty) : PI l G yX4_cells wsX4_cells 0 0 [.ref a] f (fun v => v = nI ((tx - x + 1) * (ty - y + 1))) := by
  refine cx_body (cc := cX4_cells) (n := 1) (ret := (some .int)) (by decide +kernel) rfl (Nat.le_of_ble_eq_true rfl) ?_
  intro p0 e0 s0 m0 b0 meth0 c0 ls X hr hnm S hl
  have X : cxC G p0 l _ c0 cX4_cells 1 m0 meth0 s0 _ RX4 wsX4_cells := X
  have hl : lv_has ls 1 [(0, .ref a)] := hl
  have in_RX4 : ∀ w ∈ u_ws RX4 TX4 4, w ∈ wsX4_cells := by decide +kernel
  refine lv_aload_n X.1 X.2.1 dX4_cells_0 rfl (lv_at hl 0 rfl) ?_
  refine r_get (C := RX4) (T := TX4) (N := 4) (ref := "Craterclock$Field") X S in_RX4 ha rfl 2 (by decide) (by decide +kernel) (fun _ h => h) rfl dX4_cells_1 ?_
  refine lv_aload_n X.1 X.2.1 dX4_cells_4 rfl (lv_at hl 0 rfl) ?_
  refine r_get (C := RX4) (T := TX4) (N := 4) (ref := "Craterclock$Field") X S in_RX4 ha rfl 0 (by decide) (by decide +kernel) (fun _ h => h) rfl dX4_cells_5 ?_
  refine lv_isub X.1 X.2.1 dX4_cells_8 ?_
  refine lv_iconst (v := 1) X.1 X.2.1 dX4_cells_9 (by decide) ?_
  refine lv_iadd X.1 X.2.1 dX4_cells_10 ?_
  refine lv_aload_n X.1 X.2.1 dX4_cells_11 rfl (lv_at hl 0 rfl) ?_
  refine r_get (C := RX4) (T := TX4) (N := 4) (ref := "Craterclock$Field") X S in_RX4 ha rfl 3 (by decide) (by decide +kernel) (fun _ h => h) rfl dX4_cells_12 ?_
  refine lv_aload_n X.1 X.2.1 dX4_cells_15 rfl (lv_at hl 0 rfl) ?_
  refine r_get (C := RX4) (T := TX4) (N := 4) (ref := "Craterclock$Field") X S in_RX4 ha rfl 1 (by decide) (by decide +kernel) (fun _ h => h) rfl dX4_cells_16 ?_
  refine lv_isub X.1 X.2.1 dX4_cells_19 ?_
  refine lv_iconst (v := 1) X.1 X.2.1 dX4_cells_20 (by decide) ?_
  refine lv_iadd X.1 X.2.1 dX4_cells_21 ?_
  refine lv_imul X.1 X.2.1 dX4_cells_22 ?_
  refine e_ip X hr S dX4_cells_23 ?_
  rw [pk_sub h1, pk_sub h2, nI_1, nI_1, pk_mul]

set_option maxRecDepth 100000 in
set_option maxHeartbeats 4000000 in
/-- Ground.kindAt -/
theorem m_kindAt (l : Launch) (G : cx_G) (f : Wd) (a t rw1 t1 : Nat) (w : Nat → Int32) (g : Nat → Nat) (ha : f a = some (t, .inr (7, [.ref rw1]))) (hrw : f rw1 = some (t1, eI G 16 w)) (hg : grd w g) (x y : Nat) (hx : x < 16) (hy : y < 16) : PI l G yX6_kindAt wsX6_kindAt 0 0 [.ref a, .int (nI x), .int (nI y)] f (fun v => v = nI (g (16 * y + x))) := by
  refine cx_body (cc := cX6_kindAt) (n := 3) (ret := (some .int)) (by decide +kernel) rfl (Nat.le_of_ble_eq_true rfl) ?_
  intro p0 e0 s0 m0 b0 meth0 c0 ls X hr hnm S hl
  have X : cxC G p0 l _ c0 cX6_kindAt 3 m0 meth0 s0 _ RX6 wsX6_kindAt := X
  have hl : lv_has ls 3 [(0, .ref a), (1, .int (nI x)), (2, .int (nI y))] := hl
  have in_RX6 : ∀ w ∈ u_ws RX6 TX6 1, w ∈ wsX6_kindAt := by decide +kernel
  refine lv_iload_n X.1 X.2.1 dX6_kindAt_0 rfl (lv_at hl 2 rfl) ?_
  refine lv_if_lt (tgt := 13) X.1 X.2.1 dX6_kindAt_1 (by decide) (fun c_1 => ?_) (fun c_1 => ?_)
  · exact absurd c_1 (nI_pos (by omega))
  · refine lv_iload_n X.1 X.2.1 dX6_kindAt_4 rfl (lv_at hl 2 rfl) ?_
    refine lv_aload_n X.1 X.2.1 dX6_kindAt_5 rfl (lv_at hl 0 rfl) ?_
    refine r_get (C := RX6) (T := TX6) (N := 1) (ref := "Craterclock$Ground") X S in_RX6 ha rfl 0 (by decide) (by decide +kernel) (fun _ h => h) rfl dX6_kindAt_6 ?_
    refine r_alenI (v := nI 16) X S hrw rfl dX6_kindAt_9 ?_
    refine lv_icmp_lt (tgt := 15) X.1 X.2.1 dX6_kindAt_10 (by decide) (fun c_10 => ?_) (fun c_10 => ?_)
    · refine lv_aload_n X.1 X.2.1 dX6_kindAt_15 rfl (lv_at hl 0 rfl) ?_
      refine r_get (C := RX6) (T := TX6) (N := 1) (ref := "Craterclock$Ground") X S in_RX6 ha rfl 0 (by decide) (by decide +kernel) (fun _ h => h) rfl dX6_kindAt_16 ?_
      refine lv_iload_n X.1 X.2.1 dX6_kindAt_19 rfl (lv_at hl 2 rfl) ?_
      refine r_iald (v := (w y)) X S hrw (vp_in_nI hy (by omega)) (by rw [nI_clamp (by omega)]) dX6_kindAt_20 ?_
      refine lv_iconst (v := 2) X.1 X.2.1 dX6_kindAt_21 (by decide) ?_
      refine lv_iload_n X.1 X.2.1 dX6_kindAt_22 rfl (lv_at hl 1 rfl) ?_
      refine lv_imul X.1 X.2.1 dX6_kindAt_23 ?_
      refine lv_iushr (v := ((w y).toUInt32 >>> ((2 * (nI x)).toUInt32 &&& Int32.toUInt32 31)).toInt32) X.1 X.2.1 dX6_kindAt_24 rfl ?_
      refine lv_iconst (v := 3) X.1 X.2.1 dX6_kindAt_25 (by decide) ?_
      refine lv_iand X.1 X.2.1 dX6_kindAt_26 ?_
      refine e_ip X hr S dX6_kindAt_27 ?_
      exact hg x y hx hy
    · exact absurd (nI_lt hy (by omega)) c_10

set_option maxRecDepth 100000 in
set_option maxHeartbeats 4000000 in
/-- Lessening(cratersThen) of a flood -/
theorem m_LessF (l : Launch) (G : cx_G) (f : Wd) (a t c : Nat) (ha : f a = some (t, .inr (6, [.int 0, .null, .int 0]))) (ht : t ≠ 9999) : MV l G yX7_init wsX7_init 1 20 0 0 [.ref a, .int (nI c)] f (fun f' => f' = wu f a t (.inr (6, [.int (nI c), .null, .int 0]))) := by
  refine cx_body (cc := cX7_init) (n := 2) (ret := none) (by decide +kernel) rfl (Nat.le_of_ble_eq_true rfl) ?_
  intro p0 e0 s0 m0 b0 meth0 c0 ls X hr hnm S hl
  have X : cxC G p0 l _ c0 cX7_init 2 m0 meth0 s0 _ RX7 wsX7_init := X
  have hl : lv_has ls 2 [(0, .ref a), (1, .int (nI c))] := hl
  have in_RX5 : ∀ w ∈ u_ws RX5 TX5 3, w ∈ wsX7_init := by decide +kernel
  refine lv_aload_n X.1 X.2.1 dX7_init_0 rfl (lv_at hl 0 rfl) ?_
  refine r_objInit X (by decide +kernel) (by decide +kernel) (by decide +kernel) hl.1 dX7_init_1 (by exact Nat.le_of_ble_eq_true rfl) (by exact Nat.le_of_ble_eq_true rfl) ?_
  refine lv_aload_n X.1 X.2.1 dX7_init_4 rfl (lv_at hl 0 rfl) ?_
  refine lv_iload_n X.1 X.2.1 dX7_init_5 rfl (lv_at hl 1 rfl) ?_
  refine r_putF (C := RX5) (T := TX5) (N := 3) (ref := "Craterclock$Lessening") (fs' := [.int (nI c), .null, .int 0]) (ty := .int) X S in_RX5 tyX5 tyX5_ok nmX5 ha (by omega) rfl 0 (by decide) (by decide +kernel) (fun _ h => h) rfl hnm rfl (by decide +kernel) rfl rfl (Nat.le_of_ble_eq_true rfl) rfl dX7_init_6 (fun H locs S => ?_)
  obtain ⟨f_6, ef_6⟩ : ∃ z9 : Wd, z9 = wu f a t (.inr (6, [.int (nI c), .null, .int 0])) := ⟨_, rfl⟩
  rw [← ef_6] at S
  have ha_6 : f_6 a = some (t, .inr (6, [.int (nI c), .null, .int 0])) := by rw [ef_6]; exact wu_self _ _ _ _
  refine e_v X hr S (Nat.le_of_ble_eq_true rfl) (Nat.le_of_ble_eq_true rfl) dX7_init_9 ?_
  exact ef_6

set_option maxRecDepth 100000 in
set_option maxHeartbeats 4000000 in
/-- Lessening(cratersThen) of a softening -/
theorem m_LessS (l : Launch) (G : cx_G) (f : Wd) (a t c : Nat) (ha : f a = some (t, .inr (8, [.int 0, .null, .int 0]))) (ht : t ≠ 9999) : MV l G yX7_init wsX7_init 1 20 0 0 [.ref a, .int (nI c)] f (fun f' => f' = wu f a t (.inr (8, [.int (nI c), .null, .int 0]))) := by
  refine cx_body (cc := cX7_init) (n := 2) (ret := none) (by decide +kernel) rfl (Nat.le_of_ble_eq_true rfl) ?_
  intro p0 e0 s0 m0 b0 meth0 c0 ls X hr hnm S hl
  have X : cxC G p0 l _ c0 cX7_init 2 m0 meth0 s0 _ RX7 wsX7_init := X
  have hl : lv_has ls 2 [(0, .ref a), (1, .int (nI c))] := hl
  have in_RX8 : ∀ w ∈ u_ws RX8 TX8 3, w ∈ wsX7_init := by decide +kernel
  refine lv_aload_n X.1 X.2.1 dX7_init_0 rfl (lv_at hl 0 rfl) ?_
  refine r_objInit X (by decide +kernel) (by decide +kernel) (by decide +kernel) hl.1 dX7_init_1 (by exact Nat.le_of_ble_eq_true rfl) (by exact Nat.le_of_ble_eq_true rfl) ?_
  refine lv_aload_n X.1 X.2.1 dX7_init_4 rfl (lv_at hl 0 rfl) ?_
  refine lv_iload_n X.1 X.2.1 dX7_init_5 rfl (lv_at hl 1 rfl) ?_
  refine r_putF (C := RX8) (T := TX8) (N := 3) (ref := "Craterclock$Lessening") (fs' := [.int (nI c), .null, .int 0]) (ty := .int) X S in_RX8 tyX8 tyX8_ok nmX8 ha (by omega) rfl 0 (by decide) (by decide +kernel) (fun _ h => h) rfl hnm rfl (by decide +kernel) rfl rfl (Nat.le_of_ble_eq_true rfl) rfl dX7_init_6 (fun H locs S => ?_)
  obtain ⟨f_6, ef_6⟩ : ∃ z9 : Wd, z9 = wu f a t (.inr (8, [.int (nI c), .null, .int 0])) := ⟨_, rfl⟩
  rw [← ef_6] at S
  have ha_6 : f_6 a = some (t, .inr (8, [.int (nI c), .null, .int 0])) := by rw [ef_6]; exact wu_self _ _ _ _
  refine e_v X hr S (Nat.le_of_ble_eq_true rfl) (Nat.le_of_ble_eq_true rfl) dX7_init_9 ?_
  exact ef_6

set_option maxRecDepth 100000 in
set_option maxHeartbeats 4000000 in
/-- Flood(cratersThen, field, thick) -/
theorem m_Flood (l : Launch) (G : cx_G) (f : Wd) (a t c q v : Nat) (ha : f a = some (t, .inr (6, [.int 0, .null, .int 0]))) (ht : t ≠ 9999) : MV l G yX5_init wsX5_init 2 41 0 0 [.ref a, .int (nI c), .ref q, .int (nI v)] f (fun f' => f' = wu f a t (.inr (6, [.int (nI c), .ref q, .int (nI v)]))) := by
  refine cx_body (cc := cX5_init) (n := 4) (ret := none) (by decide +kernel) rfl (Nat.le_of_ble_eq_true rfl) ?_
  intro p0 e0 s0 m0 b0 meth0 c0 ls X hr hnm S hl
  have X : cxC G p0 l _ c0 cX5_init 4 m0 meth0 s0 _ RX5 wsX5_init := X
  have hl : lv_has ls 4 [(0, .ref a), (1, .int (nI c)), (2, .ref q), (3, .int (nI v))] := hl
  have in_RX5 : ∀ w ∈ u_ws RX5 TX5 3, w ∈ wsX5_init := by decide +kernel
  refine lv_aload_n X.1 X.2.1 dX5_init_0 rfl (lv_at hl 0 rfl) ?_
  refine lv_iload_n X.1 X.2.1 dX5_init_1 rfl (lv_at hl 1 rfl) ?_
  refine call_v (run_I X S (m_LessF l G f a t c ha ht) 1 gX5_init_X7_init rfl rfl rfl (by decide +kernel) (by decide +kernel) (by decide +kernel) rfl (by decide +kernel) ⟨(by exact Nat.le_of_ble_eq_true rfl), (by exact Nat.le_of_ble_eq_true rfl)⟩ rfl hl.1 rfl (by exact Nat.le_of_ble_eq_true rfl) dX5_init_2 ⟨(by exact Nat.le_of_ble_eq_true rfl), (by exact Nat.le_of_ble_eq_true rfl)⟩) S (fun f_2 H locs hr_2 S => ?_)
  have ha_2 : f_2 a = some (t, .inr (6, [.int (nI c), .null, .int 0])) := by rw [hr_2]; exact wu_self _ _ _ _
  refine lv_aload_n X.1 X.2.1 dX5_init_5 rfl (lv_at hl 0 rfl) ?_
  refine lv_aload_n X.1 X.2.1 dX5_init_6 rfl (lv_at hl 2 rfl) ?_
  refine r_putF (C := RX5) (T := TX5) (N := 3) (ref := "Craterclock$Flood") (fs' := [.int (nI c), .ref q, .int 0]) (ty := .object "Craterclock$Field") X S in_RX5 tyX5 tyX5_ok nmX5 ha_2 (by omega) rfl 1 (by decide) (by decide +kernel) (fun _ h => h) rfl hnm rfl (by decide +kernel) rfl rfl (Nat.le_of_ble_eq_true rfl) rfl dX5_init_7 (fun H locs S => ?_)
  obtain ⟨f_7, ef_7⟩ : ∃ z9 : Wd, z9 = wu f_2 a t (.inr (6, [.int (nI c), .ref q, .int 0])) := ⟨_, rfl⟩
  rw [← ef_7] at S
  have ha_7 : f_7 a = some (t, .inr (6, [.int (nI c), .ref q, .int 0])) := by rw [ef_7]; exact wu_self _ _ _ _
  refine lv_aload_n X.1 X.2.1 dX5_init_10 rfl (lv_at hl 0 rfl) ?_
  refine lv_iload_n X.1 X.2.1 dX5_init_11 rfl (lv_at hl 3 rfl) ?_
  refine r_putF (C := RX5) (T := TX5) (N := 3) (ref := "Craterclock$Flood") (fs' := [.int (nI c), .ref q, .int (nI v)]) (ty := .int) X S in_RX5 tyX5 tyX5_ok nmX5 ha_7 (by omega) rfl 2 (by decide) (by decide +kernel) (fun _ h => h) rfl hnm rfl (by decide +kernel) rfl rfl (Nat.le_of_ble_eq_true rfl) rfl dX5_init_12 (fun H locs S => ?_)
  obtain ⟨f_12, ef_12⟩ : ∃ z9 : Wd, z9 = wu f_7 a t (.inr (6, [.int (nI c), .ref q, .int (nI v)])) := ⟨_, rfl⟩
  rw [← ef_12] at S
  have ha_12 : f_12 a = some (t, .inr (6, [.int (nI c), .ref q, .int (nI v)])) := by rw [ef_12]; exact wu_self _ _ _ _
  refine e_v X hr S (Nat.le_of_ble_eq_true rfl) (Nat.le_of_ble_eq_true rfl) dX5_init_15 ?_
  rw [ef_12, ef_7, hr_2, wu_wu, wu_wu]

set_option maxRecDepth 100000 in
set_option maxHeartbeats 4000000 in
/-- Softening(cratersThen, cellsThen, steps) -/
theorem m_Soft (l : Launch) (G : cx_G) (f : Wd) (a t c q v : Nat) (ha : f a = some (t, .inr (8, [.int 0, .null, .int 0]))) (ht : t ≠ 9999) : MV l G yX8_init wsX8_init 2 41 0 0 [.ref a, .int (nI c), .ref q, .int (nI v)] f (fun f' => f' = wu f a t (.inr (8, [.int (nI c), .ref q, .int (nI v)]))) := by
  refine cx_body (cc := cX8_init) (n := 4) (ret := none) (by decide +kernel) rfl (Nat.le_of_ble_eq_true rfl) ?_
  intro p0 e0 s0 m0 b0 meth0 c0 ls X hr hnm S hl
  have X : cxC G p0 l _ c0 cX8_init 4 m0 meth0 s0 _ RX8 wsX8_init := X
  have hl : lv_has ls 4 [(0, .ref a), (1, .int (nI c)), (2, .ref q), (3, .int (nI v))] := hl
  have in_RX8 : ∀ w ∈ u_ws RX8 TX8 3, w ∈ wsX8_init := by decide +kernel
  refine lv_aload_n X.1 X.2.1 dX8_init_0 rfl (lv_at hl 0 rfl) ?_
  refine lv_iload_n X.1 X.2.1 dX8_init_1 rfl (lv_at hl 1 rfl) ?_
  refine call_v (run_I X S (m_LessS l G f a t c ha ht) 1 gX8_init_X7_init rfl rfl rfl (by decide +kernel) (by decide +kernel) (by decide +kernel) rfl (by decide +kernel) ⟨(by exact Nat.le_of_ble_eq_true rfl), (by exact Nat.le_of_ble_eq_true rfl)⟩ rfl hl.1 rfl (by exact Nat.le_of_ble_eq_true rfl) dX8_init_2 ⟨(by exact Nat.le_of_ble_eq_true rfl), (by exact Nat.le_of_ble_eq_true rfl)⟩) S (fun f_2 H locs hr_2 S => ?_)
  have ha_2 : f_2 a = some (t, .inr (8, [.int (nI c), .null, .int 0])) := by rw [hr_2]; exact wu_self _ _ _ _
  refine lv_aload_n X.1 X.2.1 dX8_init_5 rfl (lv_at hl 0 rfl) ?_
  refine lv_aload_n X.1 X.2.1 dX8_init_6 rfl (lv_at hl 2 rfl) ?_
  refine r_putF (C := RX8) (T := TX8) (N := 3) (ref := "Craterclock$Softening") (fs' := [.int (nI c), .ref q, .int 0]) (ty := .object "Craterclock$Ground") X S in_RX8 tyX8 tyX8_ok nmX8 ha_2 (by omega) rfl 1 (by decide) (by decide +kernel) (fun _ h => h) rfl hnm rfl (by decide +kernel) rfl rfl (Nat.le_of_ble_eq_true rfl) rfl dX8_init_7 (fun H locs S => ?_)
  obtain ⟨f_7, ef_7⟩ : ∃ z9 : Wd, z9 = wu f_2 a t (.inr (8, [.int (nI c), .ref q, .int 0])) := ⟨_, rfl⟩
  rw [← ef_7] at S
  have ha_7 : f_7 a = some (t, .inr (8, [.int (nI c), .ref q, .int 0])) := by rw [ef_7]; exact wu_self _ _ _ _
  refine lv_aload_n X.1 X.2.1 dX8_init_10 rfl (lv_at hl 0 rfl) ?_
  refine lv_iload_n X.1 X.2.1 dX8_init_11 rfl (lv_at hl 3 rfl) ?_
  refine r_putF (C := RX8) (T := TX8) (N := 3) (ref := "Craterclock$Softening") (fs' := [.int (nI c), .ref q, .int (nI v)]) (ty := .int) X S in_RX8 tyX8 tyX8_ok nmX8 ha_7 (by omega) rfl 2 (by decide) (by decide +kernel) (fun _ h => h) rfl hnm rfl (by decide +kernel) rfl rfl (Nat.le_of_ble_eq_true rfl) rfl dX8_init_12 (fun H locs S => ?_)
  obtain ⟨f_12, ef_12⟩ : ∃ z9 : Wd, z9 = wu f_7 a t (.inr (8, [.int (nI c), .ref q, .int (nI v)])) := ⟨_, rfl⟩
  rw [← ef_12] at S
  have ha_12 : f_12 a = some (t, .inr (8, [.int (nI c), .ref q, .int (nI v)])) := by rw [ef_12]; exact wu_self _ _ _ _
  refine e_v X hr S (Nat.le_of_ble_eq_true rfl) (Nat.le_of_ble_eq_true rfl) dX8_init_15 ?_
  rw [ef_12, ef_7, hr_2, wu_wu, wu_wu]

set_option maxRecDepth 100000 in
set_option maxHeartbeats 4000000 in
/-- Flood.lossOf -/
theorem m_lossF (l : Launch) (G : cx_G) (f : Wd) (o to fl tf c x0 y0 tx ty v a t : Nat) (x y z r fd d : Nat) (ho : f o = some (to, .inr (6, [.int (nI c), .ref fl, .int (nI v)]))) (hf : f fl = some (tf, eF x0 y0 tx ty)) (ha : f a = some (t, eC x y z r fd d)) (hx : x < 16) (hy : y < 16) (hx0 : x0 < 16) (hy0 : y0 < 16) (htx : tx < 16) (hty : ty < 16) : PI l G yX5_lossOf wsX5_lossOf 1 22 [.ref o, .ref a] f (fun u => u = nI (if x0 ≤ x ∧ x ≤ tx ∧ y0 ≤ y ∧ y ≤ ty then v else 0)) := by
  refine cx_body (cc := cX5_lossOf) (n := 2) (ret := (some .int)) (by decide +kernel) rfl (Nat.le_of_ble_eq_true rfl) ?_
  intro p0 e0 s0 m0 b0 meth0 c0 ls X hr hnm S hl
  have X : cxC G p0 l _ c0 cX5_lossOf 2 m0 meth0 s0 _ RX5 wsX5_lossOf := X
  have hl : lv_has ls 2 [(0, .ref o), (1, .ref a)] := hl
  have in_RX1 : ∀ w ∈ u_ws RX1 TX1 6, w ∈ wsX5_lossOf := by decide +kernel
  have in_RX5 : ∀ w ∈ u_ws RX5 TX5 3, w ∈ wsX5_lossOf := by decide +kernel
  refine lv_aload_n X.1 X.2.1 dX5_lossOf_0 rfl (lv_at hl 0 rfl) ?_
  refine r_get (C := RX5) (T := TX5) (N := 3) (ref := "Craterclock$Flood") X S in_RX5 ho rfl 1 (by decide) (by decide +kernel) (fun _ h => h) rfl dX5_lossOf_1 ?_
  refine lv_aload_n X.1 X.2.1 dX5_lossOf_4 rfl (lv_at hl 1 rfl) ?_
  refine r_get (C := RX1) (T := TX1) (N := 6) (ref := "Craterclock$Crater") X S in_RX1 ha rfl 0 (by decide) (by decide +kernel) (fun _ h => h) rfl dX5_lossOf_5 ?_
  refine lv_aload_n X.1 X.2.1 dX5_lossOf_8 rfl (lv_at hl 1 rfl) ?_
  refine r_get (C := RX1) (T := TX1) (N := 6) (ref := "Craterclock$Crater") X S in_RX1 ha rfl 1 (by decide) (by decide +kernel) (fun _ h => h) rfl dX5_lossOf_9 ?_
  refine call_ip (run_V X S (m_has l G f fl tf x0 y0 tx ty hf hx0 hy0 htx hty x y hx hy) 2 gX5_lossOf_X4_has rfl rfl rfl (by decide +kernel) ⟨(by exact Nat.le_of_ble_eq_true rfl), (by exact Nat.le_of_ble_eq_true rfl)⟩ ⟨_, _, hf⟩ rfl rfl rfl hl.1 rfl (by exact Nat.le_of_ble_eq_true rfl) dX5_lossOf_12 ⟨(Nat.zero_le _), (Nat.zero_le _)⟩) S (fun r_12 H locs hr_12 S => ?_)
  subst hr_12
  refine r_eqB (tgt := 25) X dX5_lossOf_15 (by decide) (fun c_15 => ?_) (fun c_15 => ?_)
  · refine lv_iconst (v := 0) X.1 X.2.1 dX5_lossOf_25 (by decide) ?_
    refine e_ip X hr S dX5_lossOf_26 ?_
    rw [if_neg (of_decide_eq_false c_15)]
    exact rfl
  · refine lv_aload_n X.1 X.2.1 dX5_lossOf_18 rfl (lv_at hl 0 rfl) ?_
    refine r_get (C := RX5) (T := TX5) (N := 3) (ref := "Craterclock$Flood") X S in_RX5 ho rfl 2 (by decide) (by decide +kernel) (fun _ h => h) rfl dX5_lossOf_19 ?_
    refine lv_goto (tgt := 26) X.1 X.2.1 dX5_lossOf_22 (by decide) ?_
    refine e_ip X hr S dX5_lossOf_26 ?_
    rw [if_pos (of_decide_eq_true c_15)]

set_option maxRecDepth 100000 in
set_option maxHeartbeats 4000000 in
/-- Softening.lossOf -/
theorem m_lossS (l : Launch) (G : cx_G) (f : Wd) (o to gr tg rw1 t1 c v a t : Nat) (w : Nat → Int32) (g : Nat → Nat) (x y z r fd d : Nat) (ho : f o = some (to, .inr (8, [.int (nI c), .ref gr, .int (nI v)]))) (hgr : f gr = some (tg, .inr (7, [.ref rw1]))) (hrw : f rw1 = some (t1, eI G 16 w)) (hg : grd w g) (ha : f a = some (t, eC x y z r fd d)) (hx : x < 16) (hy : y < 16) (hgb : g (16 * y + x) ≤ 2) (hv : v ≤ 40) : PI l G yX8_lossOf wsX8_lossOf 1 22 [.ref o, .ref a] f (fun u => u = nI (if g (16 * y + x) = 1 then v else if g (16 * y + x) = 2 then 2 * v else v / 2)) := by
  refine cx_body (cc := cX8_lossOf) (n := 2) (ret := (some .int)) (by decide +kernel) rfl (Nat.le_of_ble_eq_true rfl) ?_
  intro p0 e0 s0 m0 b0 meth0 c0 ls X hr hnm S hl
  have X : cxC G p0 l _ c0 cX8_lossOf 2 m0 meth0 s0 _ RX8 wsX8_lossOf := X
  have hl : lv_has ls 2 [(0, .ref o), (1, .ref a)] := hl
  have in_RX1 : ∀ w ∈ u_ws RX1 TX1 6, w ∈ wsX8_lossOf := by decide +kernel
  have in_RX8 : ∀ w ∈ u_ws RX8 TX8 3, w ∈ wsX8_lossOf := by decide +kernel
  refine lv_aload_n X.1 X.2.1 dX8_lossOf_0 rfl (lv_at hl 0 rfl) ?_
  refine r_get (C := RX8) (T := TX8) (N := 3) (ref := "Craterclock$Softening") X S in_RX8 ho rfl 1 (by decide) (by decide +kernel) (fun _ h => h) rfl dX8_lossOf_1 ?_
  refine lv_aload_n X.1 X.2.1 dX8_lossOf_4 rfl (lv_at hl 1 rfl) ?_
  refine r_get (C := RX1) (T := TX1) (N := 6) (ref := "Craterclock$Crater") X S in_RX1 ha rfl 0 (by decide) (by decide +kernel) (fun _ h => h) rfl dX8_lossOf_5 ?_
  refine lv_aload_n X.1 X.2.1 dX8_lossOf_8 rfl (lv_at hl 1 rfl) ?_
  refine r_get (C := RX1) (T := TX1) (N := 6) (ref := "Craterclock$Crater") X S in_RX1 ha rfl 1 (by decide) (by decide +kernel) (fun _ h => h) rfl dX8_lossOf_9 ?_
  refine call_ip (run_V X S (m_kindAt l G f gr tg rw1 t1 w g hgr hrw hg x y hx hy) 2 gX8_lossOf_X6_kindAt rfl rfl rfl (by decide +kernel) ⟨(by exact Nat.le_of_ble_eq_true rfl), (by exact Nat.le_of_ble_eq_true rfl)⟩ ⟨_, _, hgr⟩ rfl rfl rfl hl.1 rfl (by exact Nat.le_of_ble_eq_true rfl) dX8_lossOf_12 ⟨(Nat.zero_le _), (Nat.zero_le _)⟩) S (fun r_12 H locs hr_12 S => ?_)
  subst hr_12
  generalize hgk : g (16 * y + x) = k at hgb ⊢
  by_cases c_15_0 : nI k = 1
  · refine lv_lookup (off := 25) (tgt := 40) X.1 X.2.1 dX8_lossOf_15 (by decide) (by rw [c_15_0]; rfl) (by decide) ?_
    have hg1 : k = 1 := (nI_eq (b := 1) (by omega) (by omega)).mp c_15_0
    subst hg1
    refine lv_aload_n X.1 X.2.1 dX8_lossOf_40 rfl (lv_at hl 0 rfl) ?_
    refine r_get (C := RX8) (T := TX8) (N := 3) (ref := "Craterclock$Softening") X S in_RX8 ho rfl 2 (by decide) (by decide +kernel) (fun _ h => h) rfl dX8_lossOf_41 ?_
    refine e_ip X hr S dX8_lossOf_44 ?_
    exact rfl
  · by_cases c_15_1 : nI k = 2
    · refine lv_lookup (off := 30) (tgt := 45) X.1 X.2.1 dX8_lossOf_15 (by decide) (by rw [lv_osw c_15_0 (a := 1) (by decide)]; rw [c_15_1]; rfl) (by decide) ?_
      have hg1 : k = 2 := (nI_eq (b := 2) (by omega) (by omega)).mp c_15_1
      subst hg1
      refine lv_iconst (v := 2) X.1 X.2.1 dX8_lossOf_45 (by decide) ?_
      refine lv_aload_n X.1 X.2.1 dX8_lossOf_46 rfl (lv_at hl 0 rfl) ?_
      refine r_get (C := RX8) (T := TX8) (N := 3) (ref := "Craterclock$Softening") X S in_RX8 ho rfl 2 (by decide) (by decide +kernel) (fun _ h => h) rfl dX8_lossOf_47 ?_
      refine lv_imul X.1 X.2.1 dX8_lossOf_50 ?_
      refine e_ip X hr S dX8_lossOf_51 ?_
      exact pk_mul 2 v
    · refine lv_lookup (off := 37) (tgt := 52) X.1 X.2.1 dX8_lossOf_15 (by decide) (by rw [lv_osw c_15_0 (a := 1) (by decide), lv_osw c_15_1 (a := 2) (by decide)]; rfl) (by decide) ?_
      have hg1 : k = 0 := by
        rcases (by omega : k = 0 ∨ k = 1 ∨ k = 2) with q | q | q
        · exact q
        · exact absurd (by rw [q]; rfl) c_15_0
        · exact absurd (by rw [q]; rfl) c_15_1
      subst hg1
      refine lv_aload_n X.1 X.2.1 dX8_lossOf_52 rfl (lv_at hl 0 rfl) ?_
      refine r_get (C := RX8) (T := TX8) (N := 3) (ref := "Craterclock$Softening") X S in_RX8 ho rfl 2 (by decide) (by decide +kernel) (fun _ h => h) rfl dX8_lossOf_53 ?_
      refine lv_iconst (v := 2) X.1 X.2.1 dX8_lossOf_56 (by decide) ?_
      refine lv_idiv X.1 X.2.1 dX8_lossOf_57 (by decide) ?_
      refine e_ip X hr S dX8_lossOf_58 ?_
      exact pk_div (d := 2) (by omega) (by omega) (by omega)

set_option maxRecDepth 100000 in
set_option maxHeartbeats 4000000 in
/-- dividedDown -/
theorem m_div (l : Launch) (G : cx_G) (f : Wd) (u v : Nat) (hu : u < 2 ^ 63) (hv : v < 2 ^ 63) (hv0 : 0 < v) : PL l G yX2_dividedDown wsX2_dividedDown 0 0 [.long (lN u), .long (lN v)] f (fun x => x = lN (u / v)) := by
  refine cx_body (cc := cX2_dividedDown) (n := 4) (ret := (some .long)) (by decide +kernel) rfl (Nat.le_of_ble_eq_true rfl) ?_
  intro p0 e0 s0 m0 b0 meth0 c0 ls X hr hnm S hl
  have X : cxC G p0 l _ c0 cX2_dividedDown 4 m0 meth0 s0 _ RX2 wsX2_dividedDown := X
  have hl : lv_has ls 4 [(0, .long (lN u)), (2, .long (lN v))] := hl
  refine lv_lload_n X.1 X.2.1 dX2_dividedDown_0 rfl (lv_at hl 1 rfl) ?_
  refine lv_lconst (v := 0) X.1 X.2.1 dX2_dividedDown_1 (by decide) ?_
  refine W.lcmp X.1 X.2.1 dX2_dividedDown_2 ?_
  refine lv_if_le (tgt := 12) X.1 X.2.1 dX2_dividedDown_3 (by decide) (fun c_3 => ?_) (fun c_3 => ?_)
  · exact absurd ((pk_lLE (b := 0) hv (by omega)).mp ((lg_cmp_le _ _).mp c_3)) (by omega)
  · have hne : ¬ lN v = 0 := fun z => absurd ((pk_lEQ (b := 0) hv (by omega)).mp z) (by omega)
    refine lv_lload_n X.1 X.2.1 dX2_dividedDown_6 rfl (lv_at hl 0 rfl) ?_
    refine lv_lload_n X.1 X.2.1 dX2_dividedDown_7 rfl (lv_at hl 1 rfl) ?_
    refine lv_ldiv X.1 X.2.1 dX2_dividedDown_8 hne ?_
    refine lv_goto (tgt := 13) X.1 X.2.1 dX2_dividedDown_9 (by decide) ?_
    refine e_lp X hr S dX2_dividedDown_13 ?_
    exact pk_lDiv hu hv0 hv

set_option maxRecDepth 100000 in
set_option maxHeartbeats 4000000 in
/-- sizeDrawn -/
theorem m_sizeDrawn (l : Launch) (G : cx_G) (f : Wd) (q : Nat) (hq : q < 64) : PI l G yX9_sizeDrawn wsX9_sizeDrawn 0 0 [.int (nI q)] f (fun x => x = nI (sizeOf q)) := by
  refine cx_body (cc := cX9_sizeDrawn) (n := 1) (ret := (some .int)) (by decide +kernel) rfl (Nat.le_of_ble_eq_true rfl) ?_
  intro p0 e0 s0 m0 b0 meth0 c0 ls X hr hnm S hl
  have X : cxC G p0 l _ c0 cX9_sizeDrawn 1 m0 meth0 s0 _ RX9 wsX9_sizeDrawn := X
  have hl : lv_has ls 1 [(0, .int (nI q))] := hl
  refine lv_iload_n X.1 X.2.1 dX9_sizeDrawn_0 rfl (lv_at hl 0 rfl) ?_
  refine lv_bipush (v := 40) X.1 X.2.1 dX9_sizeDrawn_1 (by decide) ?_
  refine lv_icmp_ge (tgt := 8) X.1 X.2.1 dX9_sizeDrawn_3 (by decide) (fun c_3 => ?_) (fun c_3 => ?_)
  · refine lv_iload_n X.1 X.2.1 dX9_sizeDrawn_8 rfl (lv_at hl 0 rfl) ?_
    refine lv_bipush (v := 52) X.1 X.2.1 dX9_sizeDrawn_9 (by decide) ?_
    refine lv_icmp_ge (tgt := 16) X.1 X.2.1 dX9_sizeDrawn_11 (by decide) (fun c_11 => ?_) (fun c_11 => ?_)
    · refine lv_iload_n X.1 X.2.1 dX9_sizeDrawn_16 rfl (lv_at hl 0 rfl) ?_
      refine lv_bipush (v := 58) X.1 X.2.1 dX9_sizeDrawn_17 (by decide) ?_
      refine lv_icmp_ge (tgt := 24) X.1 X.2.1 dX9_sizeDrawn_19 (by decide) (fun c_19 => ?_) (fun c_19 => ?_)
      · refine lv_iload_n X.1 X.2.1 dX9_sizeDrawn_24 rfl (lv_at hl 0 rfl) ?_
        refine lv_bipush (v := 61) X.1 X.2.1 dX9_sizeDrawn_25 (by decide) ?_
        refine lv_icmp_ge (tgt := 32) X.1 X.2.1 dX9_sizeDrawn_27 (by decide) (fun c_27 => ?_) (fun c_27 => ?_)
        · refine lv_iload_n X.1 X.2.1 dX9_sizeDrawn_32 rfl (lv_at hl 0 rfl) ?_
          refine lv_bipush (v := 63) X.1 X.2.1 dX9_sizeDrawn_33 (by decide) ?_
          refine lv_icmp_ge (tgt := 42) X.1 X.2.1 dX9_sizeDrawn_35 (by decide) (fun c_35 => ?_) (fun c_35 => ?_)
          · refine lv_bipush (v := 6) X.1 X.2.1 dX9_sizeDrawn_42 (by decide) ?_
            refine e_ip X hr S dX9_sizeDrawn_44 ?_
            show _ = nI (sizeOf q)
            unfold sizeOf
            rw [if_neg (Nat.not_lt.mpr ((nI_leI (a := 40) (by omega) (by omega)).mp c_3)), if_neg (Nat.not_lt.mpr ((nI_leI (a := 52) (by omega) (by omega)).mp c_11)), if_neg (Nat.not_lt.mpr ((nI_leI (a := 58) (by omega) (by omega)).mp c_19)), if_neg (Nat.not_lt.mpr ((nI_leI (a := 61) (by omega) (by omega)).mp c_27)), if_neg (Nat.not_lt.mpr ((nI_leI (a := 63) (by omega) (by omega)).mp c_35))]
            rfl
          · refine lv_iconst (v := 5) X.1 X.2.1 dX9_sizeDrawn_38 (by decide) ?_
            refine lv_goto (tgt := 44) X.1 X.2.1 dX9_sizeDrawn_39 (by decide) ?_
            refine e_ip X hr S dX9_sizeDrawn_44 ?_
            show _ = nI (sizeOf q)
            unfold sizeOf
            rw [if_neg (Nat.not_lt.mpr ((nI_leI (a := 40) (by omega) (by omega)).mp c_3)), if_neg (Nat.not_lt.mpr ((nI_leI (a := 52) (by omega) (by omega)).mp c_11)), if_neg (Nat.not_lt.mpr ((nI_leI (a := 58) (by omega) (by omega)).mp c_19)), if_neg (Nat.not_lt.mpr ((nI_leI (a := 61) (by omega) (by omega)).mp c_27)), if_pos (Nat.lt_of_not_le (fun z => c_35 (nI_le z (by omega))))]
            rfl
        · refine lv_iconst (v := 4) X.1 X.2.1 dX9_sizeDrawn_30 (by decide) ?_
          refine e_ip X hr S dX9_sizeDrawn_31 ?_
          show _ = nI (sizeOf q)
          unfold sizeOf
          rw [if_neg (Nat.not_lt.mpr ((nI_leI (a := 40) (by omega) (by omega)).mp c_3)), if_neg (Nat.not_lt.mpr ((nI_leI (a := 52) (by omega) (by omega)).mp c_11)), if_neg (Nat.not_lt.mpr ((nI_leI (a := 58) (by omega) (by omega)).mp c_19)), if_pos (Nat.lt_of_not_le (fun z => c_27 (nI_le z (by omega))))]
          rfl
      · refine lv_iconst (v := 3) X.1 X.2.1 dX9_sizeDrawn_22 (by decide) ?_
        refine e_ip X hr S dX9_sizeDrawn_23 ?_
        show _ = nI (sizeOf q)
        unfold sizeOf
        rw [if_neg (Nat.not_lt.mpr ((nI_leI (a := 40) (by omega) (by omega)).mp c_3)), if_neg (Nat.not_lt.mpr ((nI_leI (a := 52) (by omega) (by omega)).mp c_11)), if_pos (Nat.lt_of_not_le (fun z => c_19 (nI_le z (by omega))))]
        rfl
    · refine lv_iconst (v := 2) X.1 X.2.1 dX9_sizeDrawn_14 (by decide) ?_
      refine e_ip X hr S dX9_sizeDrawn_15 ?_
      show _ = nI (sizeOf q)
      unfold sizeOf
      rw [if_neg (Nat.not_lt.mpr ((nI_leI (a := 40) (by omega) (by omega)).mp c_3)), if_pos (Nat.lt_of_not_le (fun z => c_11 (nI_le z (by omega))))]
      rfl
  · refine lv_iconst (v := 1) X.1 X.2.1 dX9_sizeDrawn_6 (by decide) ?_
    refine e_ip X hr S dX9_sizeDrawn_7 ?_
    show _ = nI (sizeOf q)
    unfold sizeOf
    rw [if_pos (Nat.lt_of_not_le (fun z => c_3 (nI_le z (by omega))))]
    rfl
