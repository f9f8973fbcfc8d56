/-! the class's questions once more: the world stays as it was -/
set_option maxRecDepth 100000 in
set_option maxHeartbeats 4000000 in
/-- count -/
theorem q_count (l : Launch) (hst : l.stackTraces = false) (G : cx_G) (f : Wd) (st : St) (x : Nat) (hI : sInv st) (hR0 : RX G f st x) (c a b p q k : Int32) : XI l G yX9_count wsX9_count 8 136 6 34 [.ref x, .int c, .int a, .int b, .int p, .int q, .int k] f (fun r f' => (k2 (eyeP st c a b p q) (inI k 1 7 ∧ ordP a b p q)) = 0 ∧ r = nI (cn (seenP st (nN k) (nN c) (nN a) (nN b) (nN p) (nN q)) (st 0 0)) ∧ f' = f) (psi ["java/lang/IndexOutOfBoundsException", "java/lang/IllegalArgumentException"] (k2 (eyeP st c a b p q) (inI k 1 7 ∧ ordP a b p q))) := by
  refine vx_body (cc := cX9_count) (n := 7) (ret := (some .int)) (by decide +kernel) rfl (Nat.le_of_ble_eq_true rfl) ?_
  intro p0 e0 s0 m0 b0 meth0 c0 ls X hr hnm hout S hl
  have X : cxC G p0 l _ c0 cX9_count 7 m0 meth0 s0 _ RX9 wsX9_count := X
  have hl : lv_has ls 7 [(0, .ref x), (1, .int c), (2, .int a), (3, .int b), (4, .int p), (5, .int q), (6, .int k)] := hl
  have in_RX4 : ∀ w ∈ u_ws RX4 TX4 4, w ∈ wsX9_count := by decide +kernel
  obtain ⟨gr, rw1, L1, L2, L3, cu, L4, g1, g2, g3, g4, w, hR⟩ := id hR0
  obtain ⟨hi0, hi1, hi2, hi3, hi4, hi5, hi6, hi7⟩ := id hI
  obtain ⟨hx, hgr, hrw, hgd, hL1, hC, hL2, hS2, hL3, hE, hcu, hL4, hA⟩ := id hR
  have m00 : md (fun _ => False) f f := md_rf _ f
  refine lv_aload_n X.1 X.2.1 dX9_count_0 rfl (lv_at hl 0 rfl) ?_
  refine lv_iload_n X.1 X.2.1 dX9_count_1 rfl (lv_at hl 1 rfl) ?_
  refine lv_iload_n X.1 X.2.1 dX9_count_2 rfl (lv_at hl 2 rfl) ?_
  refine lv_iload_n X.1 X.2.1 dX9_count_3 rfl (lv_at hl 3 rfl) ?_
  refine lv_iload X.1 X.2.1 dX9_count_4 (lv_at hl 4 rfl) ?_
  refine lv_iload X.1 X.2.1 dX9_count_6 (lv_at hl 5 rfl) ?_
  refine xcall_v (xrun_V X S (m_rqEye l hst G f st x gr rw1 L1 L2 L3 cu L4 g1 g2 g3 g4 w hI hR c a b p q) 5 gX9_count_X9_requireEyeAndCells rfl rfl rfl (by decide +kernel) ⟨(by exact Nat.le_of_ble_eq_true rfl), (by exact Nat.le_of_ble_eq_true rfl)⟩ ⟨_, _, hx⟩ rfl rfl rfl hl.1 rfl (by exact Nat.le_of_ble_eq_true rfl) dX9_count_8 ⟨(by exact Nat.le_of_ble_eq_true rfl), (by exact Nat.le_of_ble_eq_true rfl)⟩) S hout X.2.2.2.2.2.2.2 (by exact Nat.le_of_ble_eq_true rfl) (by exact Nat.le_of_ble_eq_true rfl) (fun E hE => by rw [hE.1]; exact p21 hE.2) (fun H locs hr_8 S => ?_)
  refine lv_iload X.1 X.2.1 dX9_count_11 (lv_at hl 6 rfl) ?_
  refine lv_i2l (v := k.toInt64) X.1 X.2.1 dX9_count_13 rfl ?_
  refine lv_lconst (v := 1) X.1 X.2.1 dX9_count_14 (by decide) ?_
  refine r_ldc2 (v := 7) X (by decide +kernel) dX9_count_15 ?_
  refine xcall_v (xrun_S X S (m_rqRange l hst G f k.toInt64 1 7) 3 gX9_count_X9_requireRange rfl rfl rfl (by decide +kernel) ⟨(by exact Nat.le_of_ble_eq_true rfl), (by exact Nat.le_of_ble_eq_true rfl)⟩ rfl hl.1 rfl (by exact Nat.le_of_ble_eq_true rfl) dX9_count_18 ⟨(by exact Nat.le_of_ble_eq_true rfl), (by exact Nat.le_of_ble_eq_true rfl)⟩) S hout X.2.2.2.2.2.2.2 (by exact Nat.le_of_ble_eq_true rfl) (by exact Nat.le_of_ble_eq_true rfl) (fun E hE => by rw [hE.1]; exact p22 hr_8 (fun z => hE.2 ((rg_i (p := 1) (q := 7) (by decide +kernel) (by decide +kernel)).mpr z.1))) (fun H locs hr_18 S => ?_)
  have hP2 := (rg_i (p := 1) (q := 7) (by decide +kernel) (by decide +kernel)).mp hr_18
  refine lv_iload_n X.1 X.2.1 dX9_count_21 rfl (lv_at hl 2 rfl) ?_
  refine lv_iload_n X.1 X.2.1 dX9_count_22 rfl (lv_at hl 3 rfl) ?_
  refine lv_iload X.1 X.2.1 dX9_count_23 (lv_at hl 4 rfl) ?_
  refine lv_iload X.1 X.2.1 dX9_count_25 (lv_at hl 5 rfl) ?_
  refine xcall_v (xrun_S X S (m_rqOrder l hst G f a b p q) 4 gX9_count_X9_requireOrder rfl rfl rfl (by decide +kernel) ⟨(by exact Nat.le_of_ble_eq_true rfl), (by exact Nat.le_of_ble_eq_true rfl)⟩ rfl hl.1 rfl (by exact Nat.le_of_ble_eq_true rfl) dX9_count_27 ⟨(by exact Nat.le_of_ble_eq_true rfl), (by exact Nat.le_of_ble_eq_true rfl)⟩) S hout X.2.2.2.2.2.2.2 (by exact Nat.le_of_ble_eq_true rfl) (by exact Nat.le_of_ble_eq_true rfl) (fun E hE => by rw [hE.1]; exact p22 hr_8 (fun z => hE.2 z.2)) (fun H locs hr_27 S => ?_)
  obtain ⟨c1, rfl, clo, cup, cbd⟩ := inI_sub hr_8.1 (by omega)
  have nc : nN (nI c1) = c1 := nN_nI cbd
  obtain ⟨a1, rfl, alo, aup, abd⟩ := inI_sub hr_8.2.1.1 (by omega)
  have na : nN (nI a1) = a1 := nN_nI abd
  obtain ⟨b1, rfl, blo, bup, bbd⟩ := inI_sub hr_8.2.1.2 (by omega)
  have nb : nN (nI b1) = b1 := nN_nI bbd
  obtain ⟨p1, rfl, plo, pup, pbd⟩ := inI_sub hr_8.2.2.1 (by omega)
  have np : nN (nI p1) = p1 := nN_nI pbd
  obtain ⟨q1, rfl, qlo, qup, qbd⟩ := inI_sub hr_8.2.2.2 (by omega)
  have nq : nN (nI q1) = q1 := nN_nI qbd
  obtain ⟨k1, rfl, klo, kup, kbd⟩ := inI_sub hP2 (by omega)
  have nk : nN (nI k1) = k1 := nN_nI kbd
  refine lv_aload_n X.1 X.2.1 dX9_count_30 rfl (lv_at hl 0 rfl) ?_
  refine lv_iload_n X.1 X.2.1 dX9_count_31 rfl (lv_at hl 1 rfl) ?_
  refine r_new (C := RX4) (T := TX4) (N := 4) (ci := 5) (fs := [.int 0, .int 0, .int 0, .int 0]) X S 8 (by decide) in_RX4 tyX4 tyX4_ok (by decide +kernel) (by decide +kernel) (by decide +kernel) rfl (fun j hj => by rcases (show j = 0 ∨ j = 1 ∨ j = 2 ∨ j = 3 by omega) with rfl | rfl | rfl | rfl <;> rfl) (by exact Nat.le_of_ble_eq_true rfl) (by exact Nat.le_of_ble_eq_true rfl) dX9_count_32 (fun q_32 H hn_q_32 S => ?_)
  obtain ⟨f_32, ef_32⟩ : ∃ z9 : Wd, z9 = wu f q_32 8 (.inr (5, [.int 0, .int 0, .int 0, .int 0])) := ⟨_, rfl⟩
  rw [← ef_32] at S
  have hx_32 : f_32 x = some (0, .inr (9, [.ref gr, .ref L1, .ref L2, .ref L3, .ref cu, .int (nI (st 0 4))])) := by rw [ef_32]; exact wu_new hn_q_32 hx
  have hNq32 : f_32 q_32 = some (8, .inr (5, [.int 0, .int 0, .int 0, .int 0])) := by rw [ef_32]; exact wu_self _ _ _ _
  have hz_q_32 := md_none m00 hn_q_32
  have mw_new_32 : md (fun _ => False) f f_32 := by rw [ef_32]; exact md_newput hz_q_32 m00
  have hL1_32 := hL1.md mw_new_32 (fun z => z)
  refine lv_dup X.1 X.2.1 dX9_count_35 rfl ?_
  refine lv_iload_n X.1 X.2.1 dX9_count_36 rfl (lv_at hl 2 rfl) ?_
  refine lv_iload_n X.1 X.2.1 dX9_count_37 rfl (lv_at hl 3 rfl) ?_
  refine lv_iload X.1 X.2.1 dX9_count_38 (lv_at hl 4 rfl) ?_
  refine lv_iload X.1 X.2.1 dX9_count_40 (lv_at hl 5 rfl) ?_
  refine call_v (run_I X S (m_Field l G f_32 q_32 8 a1 b1 p1 q1 hNq32 (by decide)) 4 gX9_count_X4_init rfl rfl rfl (by decide +kernel) (by decide +kernel) (by decide +kernel) rfl (by decide +kernel) ⟨(by exact Nat.le_of_ble_eq_true rfl), (by exact Nat.le_of_ble_eq_true rfl)⟩ rfl hl.1 rfl (by exact Nat.le_of_ble_eq_true rfl) dX9_count_42 ⟨(by exact Nat.le_of_ble_eq_true rfl), (by exact Nat.le_of_ble_eq_true rfl)⟩) S (fun f_42 H locs hr_42 S => ?_)
  have hx_42 : f_42 x = some (0, .inr (9, [.ref gr, .ref L1, .ref L2, .ref L3, .ref cu, .int (nI (st 0 4))])) := by rw [hr_42]; exact wu_get hNq32 hx_32 (by decide)
  have hNq32_42 : f_42 q_32 = some (8, .inr (5, [.int (nI a1), .int (nI b1), .int (nI p1), .int (nI q1)])) := by rw [hr_42]; exact wu_self _ _ _ _
  have mw_set_42 : md (fun _ => False) f f_42 := by rw [hr_42]; exact md_newput hz_q_32 mw_new_32
  have hL1_42 := hL1.md mw_set_42 (fun z => z)
  have hR42 := hR.kept (fun b t e hb _ => mw_set_42 b t e hb (fun z => z)) hI.1.1
  refine lv_iload X.1 X.2.1 dX9_count_45 (lv_at hl 6 rfl) ?_
  refine call_ip (run_V X S (m_countSeen l G f_42 st x gr rw1 L1 L2 L3 cu L4 g1 g2 g3 g4 w hI hR42 c1 q_32 8 a1 b1 p1 q1 k1 (by omega) hNq32_42 (by omega) (by omega) (by omega) (by omega) (by omega)) 3 gX9_count_X9_countSeen rfl rfl rfl (by decide +kernel) ⟨(by exact Nat.le_of_ble_eq_true rfl), (by exact Nat.le_of_ble_eq_true rfl)⟩ ⟨_, _, hx_42⟩ rfl rfl rfl hl.1 rfl (by exact Nat.le_of_ble_eq_true rfl) dX9_count_47 ⟨(by exact Nat.le_of_ble_eq_true rfl), (by exact Nat.le_of_ble_eq_true rfl)⟩) S (fun r_47 H locs hr_47 S => ?_)
  subst hr_47
  rw [hr_42, ef_32, wu_wu] at S
  replace S : cxS G s0 f H locs := ⟨S.1.drop hn_q_32 (by decide), S.2⟩
  refine vx_ret (e_i X hr S (Nat.le_of_ble_eq_true rfl) (Nat.le_of_ble_eq_true rfl) dX9_count_50 ?_)
  simp only [nc, na, nb, np, nq, nk]
  exact ⟨k2_0 hr_8 ⟨hP2, hr_27⟩, by trivial, by trivial⟩

set_option maxRecDepth 100000 in
set_option maxHeartbeats 4000000 in
/-- whyNot -/
theorem q_whyNot (l : Launch) (hst : l.stackTraces = false) (G : cx_G) (f : Wd) (st : St) (x : Nat) (hI : sInv st) (hR0 : RX G f st x) (c a b p q : Int32) : XI l G yX9_whyNot wsX9_whyNot 8 136 5 28 [.ref x, .int c, .int a, .int b, .int p, .int q] f (fun r f' => (k2 (eyeP st c a b p q) (ordP a b p q)) = 0 ∧ r = nI (lackN st (densN st (nN c) (nN a) (nN b) (nN p) (nN q))) ∧ f' = f) (psi ["java/lang/IndexOutOfBoundsException", "java/lang/IllegalArgumentException"] (k2 (eyeP st c a b p q) (ordP a b p q))) := by
  refine vx_body (cc := cX9_whyNot) (n := 6) (ret := (some .int)) (by decide +kernel) rfl (Nat.le_of_ble_eq_true rfl) ?_
  intro p0 e0 s0 m0 b0 meth0 c0 ls X hr hnm hout S hl
  have X : cxC G p0 l _ c0 cX9_whyNot 6 m0 meth0 s0 _ RX9 wsX9_whyNot := X
  have hl : lv_has ls 6 [(0, .ref x), (1, .int c), (2, .int a), (3, .int b), (4, .int p), (5, .int q)] := hl
  have in_RX4 : ∀ w ∈ u_ws RX4 TX4 4, w ∈ wsX9_whyNot := by decide +kernel
  have in_RX9 : ∀ w ∈ u_ws RX9 TX9 6, w ∈ wsX9_whyNot := by decide +kernel
  obtain ⟨gr, rw1, L1, L2, L3, cu, L4, g1, g2, g3, g4, w, hR⟩ := id hR0
  obtain ⟨hi0, hi1, hi2, hi3, hi4, hi5, hi6, hi7⟩ := id hI
  obtain ⟨hx, hgr, hrw, hgd, hL1, hC, hL2, hS2, hL3, hE, hcu, hL4, hA⟩ := id hR
  have m00 : md (fun _ => False) f f := md_rf _ f
  refine lv_aload_n X.1 X.2.1 dX9_whyNot_0 rfl (lv_at hl 0 rfl) ?_
  refine lv_iload_n X.1 X.2.1 dX9_whyNot_1 rfl (lv_at hl 1 rfl) ?_
  refine lv_iload_n X.1 X.2.1 dX9_whyNot_2 rfl (lv_at hl 2 rfl) ?_
  refine lv_iload_n X.1 X.2.1 dX9_whyNot_3 rfl (lv_at hl 3 rfl) ?_
  refine lv_iload X.1 X.2.1 dX9_whyNot_4 (lv_at hl 4 rfl) ?_
  refine lv_iload X.1 X.2.1 dX9_whyNot_6 (lv_at hl 5 rfl) ?_
  refine xcall_v (xrun_V X S (m_rqEye l hst G f st x gr rw1 L1 L2 L3 cu L4 g1 g2 g3 g4 w hI hR c a b p q) 5 gX9_whyNot_X9_requireEyeAndCells rfl rfl rfl (by decide +kernel) ⟨(by exact Nat.le_of_ble_eq_true rfl), (by exact Nat.le_of_ble_eq_true rfl)⟩ ⟨_, _, hx⟩ rfl rfl rfl hl.1 rfl (by exact Nat.le_of_ble_eq_true rfl) dX9_whyNot_8 ⟨(by exact Nat.le_of_ble_eq_true rfl), (by exact Nat.le_of_ble_eq_true rfl)⟩) S hout X.2.2.2.2.2.2.2 (by exact Nat.le_of_ble_eq_true rfl) (by exact Nat.le_of_ble_eq_true rfl) (fun E hE => by rw [hE.1]; exact p21 hE.2) (fun H locs hr_8 S => ?_)
  refine lv_iload_n X.1 X.2.1 dX9_whyNot_11 rfl (lv_at hl 2 rfl) ?_
  refine lv_iload_n X.1 X.2.1 dX9_whyNot_12 rfl (lv_at hl 3 rfl) ?_
  refine lv_iload X.1 X.2.1 dX9_whyNot_13 (lv_at hl 4 rfl) ?_
  refine lv_iload X.1 X.2.1 dX9_whyNot_15 (lv_at hl 5 rfl) ?_
  refine xcall_v (xrun_S X S (m_rqOrder l hst G f a b p q) 4 gX9_whyNot_X9_requireOrder rfl rfl rfl (by decide +kernel) ⟨(by exact Nat.le_of_ble_eq_true rfl), (by exact Nat.le_of_ble_eq_true rfl)⟩ rfl hl.1 rfl (by exact Nat.le_of_ble_eq_true rfl) dX9_whyNot_17 ⟨(by exact Nat.le_of_ble_eq_true rfl), (by exact Nat.le_of_ble_eq_true rfl)⟩) S hout X.2.2.2.2.2.2.2 (by exact Nat.le_of_ble_eq_true rfl) (by exact Nat.le_of_ble_eq_true rfl) (fun E hE => by rw [hE.1]; exact p22 hr_8 (fun z => hE.2 z)) (fun H locs hr_17 S => ?_)
  obtain ⟨c1, rfl, clo, cup, cbd⟩ := inI_sub hr_8.1 (by omega)
  have nc : nN (nI c1) = c1 := nN_nI cbd
  obtain ⟨a1, rfl, alo, aup, abd⟩ := inI_sub hr_8.2.1.1 (by omega)
  have na : nN (nI a1) = a1 := nN_nI abd
  obtain ⟨b1, rfl, blo, bup, bbd⟩ := inI_sub hr_8.2.1.2 (by omega)
  have nb : nN (nI b1) = b1 := nN_nI bbd
  obtain ⟨p1, rfl, plo, pup, pbd⟩ := inI_sub hr_8.2.2.1 (by omega)
  have np : nN (nI p1) = p1 := nN_nI pbd
  obtain ⟨q1, rfl, qlo, qup, qbd⟩ := inI_sub hr_8.2.2.2 (by omega)
  have nq : nN (nI q1) = q1 := nN_nI qbd
  have hox : a1 ≤ p1 := by have := hr_17.1; rw [i_n (by omega), i_n (by omega)] at this; omega
  have hoy : b1 ≤ q1 := by have := hr_17.2; rw [i_n (by omega), i_n (by omega)] at this; omega
  refine lv_aload_n X.1 X.2.1 dX9_whyNot_20 rfl (lv_at hl 0 rfl) ?_
  refine r_get (C := RX9) (T := TX9) (N := 6) (ref := "Craterclock") X S in_RX9 hx rfl 4 (by decide) (by decide +kernel) (fun _ h => h) rfl dX9_whyNot_21 ?_
  refine lv_aload_n X.1 X.2.1 dX9_whyNot_24 rfl (lv_at hl 0 rfl) ?_
  refine lv_iload_n X.1 X.2.1 dX9_whyNot_25 rfl (lv_at hl 1 rfl) ?_
  refine r_new (C := RX4) (T := TX4) (N := 4) (ci := 5) (fs := [.int 0, .int 0, .int 0, .int 0]) X S 8 (by decide) in_RX4 tyX4 tyX4_ok (by decide +kernel) (by decide +kernel) (by decide +kernel) rfl (fun j hj => by rcases (show j = 0 ∨ j = 1 ∨ j = 2 ∨ j = 3 by omega) with rfl | rfl | rfl | rfl <;> rfl) (by exact Nat.le_of_ble_eq_true rfl) (by exact Nat.le_of_ble_eq_true rfl) dX9_whyNot_26 (fun q_26 H hn_q_26 S => ?_)
  obtain ⟨f_26, ef_26⟩ : ∃ z9 : Wd, z9 = wu f q_26 8 (.inr (5, [.int 0, .int 0, .int 0, .int 0])) := ⟨_, rfl⟩
  rw [← ef_26] at S
  have hx_26 : f_26 x = some (0, .inr (9, [.ref gr, .ref L1, .ref L2, .ref L3, .ref cu, .int (nI (st 0 4))])) := by rw [ef_26]; exact wu_new hn_q_26 hx
  have hcu_26 : f_26 cu = some (6, .inr (3, [.ref L4])) := by rw [ef_26]; exact wu_new hn_q_26 hcu
  have hNq26 : f_26 q_26 = some (8, .inr (5, [.int 0, .int 0, .int 0, .int 0])) := by rw [ef_26]; exact wu_self _ _ _ _
  have hz_q_26 := md_none m00 hn_q_26
  have mw_new_26 : md (fun _ => False) f f_26 := by rw [ef_26]; exact md_newput hz_q_26 m00
  have hL1_26 := hL1.md mw_new_26 (fun z => z)
  refine lv_dup X.1 X.2.1 dX9_whyNot_29 rfl ?_
  refine lv_iload_n X.1 X.2.1 dX9_whyNot_30 rfl (lv_at hl 2 rfl) ?_
  refine lv_iload_n X.1 X.2.1 dX9_whyNot_31 rfl (lv_at hl 3 rfl) ?_
  refine lv_iload X.1 X.2.1 dX9_whyNot_32 (lv_at hl 4 rfl) ?_
  refine lv_iload X.1 X.2.1 dX9_whyNot_34 (lv_at hl 5 rfl) ?_
  refine call_v (run_I X S (m_Field l G f_26 q_26 8 a1 b1 p1 q1 hNq26 (by decide)) 4 gX9_whyNot_X4_init rfl rfl rfl (by decide +kernel) (by decide +kernel) (by decide +kernel) rfl (by decide +kernel) ⟨(by exact Nat.le_of_ble_eq_true rfl), (by exact Nat.le_of_ble_eq_true rfl)⟩ rfl hl.1 rfl (by exact Nat.le_of_ble_eq_true rfl) dX9_whyNot_36 ⟨(by exact Nat.le_of_ble_eq_true rfl), (by exact Nat.le_of_ble_eq_true rfl)⟩) S (fun f_36 H locs hr_36 S => ?_)
  have hx_36 : f_36 x = some (0, .inr (9, [.ref gr, .ref L1, .ref L2, .ref L3, .ref cu, .int (nI (st 0 4))])) := by rw [hr_36]; exact wu_get hNq26 hx_26 (by decide)
  have hcu_36 : f_36 cu = some (6, .inr (3, [.ref L4])) := by rw [hr_36]; exact wu_get hNq26 hcu_26 (by decide)
  have hNq26_36 : f_36 q_26 = some (8, .inr (5, [.int (nI a1), .int (nI b1), .int (nI p1), .int (nI q1)])) := by rw [hr_36]; exact wu_self _ _ _ _
  have mw_set_36 : md (fun _ => False) f f_36 := by rw [hr_36]; exact md_newput hz_q_26 mw_new_26
  have hL1_36 := hL1.md mw_set_36 (fun z => z)
  have hR36 := hR.kept (fun b t e hb _ => mw_set_36 b t e hb (fun z => z)) hI.1.1
  refine call_lp (run_V X S (m_densitySeen l G f_36 st x gr rw1 L1 L2 L3 cu L4 g1 g2 g3 g4 w hI hR36 c1 q_26 8 a1 b1 p1 q1 (by omega) hNq26_36 (by omega) (by omega) (by omega) (by omega) hox hoy) 2 gX9_whyNot_X9_densitySeen rfl rfl rfl (by decide +kernel) ⟨(by exact Nat.le_of_ble_eq_true rfl), (by exact Nat.le_of_ble_eq_true rfl)⟩ ⟨_, _, hx_36⟩ rfl rfl rfl hl.1 rfl (by exact Nat.le_of_ble_eq_true rfl) dX9_whyNot_39 ⟨(by exact Nat.le_of_ble_eq_true rfl), (by exact Nat.le_of_ble_eq_true rfl)⟩) S (fun r_39 H locs hr_39 S => ?_)
  subst hr_39
  refine call_ip (run_V X S (m_lackFor l G f_36 st x gr rw1 L1 L2 L3 cu L4 g1 g2 g3 g4 w hI hR36 (densN st c1 a1 b1 p1 q1) (dens_lt hI _ _ _ _ _)) 1 gX9_whyNot_X2_lackFor rfl rfl rfl (by decide +kernel) ⟨(by exact Nat.le_of_ble_eq_true rfl), (by exact Nat.le_of_ble_eq_true rfl)⟩ ⟨_, _, hcu_36⟩ rfl rfl rfl hl.1 rfl (by exact Nat.le_of_ble_eq_true rfl) dX9_whyNot_42 ⟨(by exact Nat.le_of_ble_eq_true rfl), (by exact Nat.le_of_ble_eq_true rfl)⟩) S (fun r_42 H locs hr_42 S => ?_)
  subst hr_42
  rw [hr_36, ef_26, wu_wu] at S
  replace S : cxS G s0 f H locs := ⟨S.1.drop hn_q_26 (by decide), S.2⟩
  refine vx_ret (e_i X hr S (Nat.le_of_ble_eq_true rfl) (Nat.le_of_ble_eq_true rfl) dX9_whyNot_45 ?_)
  simp only [nc, na, nb, np, nq]
  exact ⟨k2_0 hr_8 hr_17, by trivial, by trivial⟩

set_option maxRecDepth 100000 in
set_option maxHeartbeats 4000000 in
/-- age -/
theorem q_age (l : Launch) (hst : l.stackTraces = false) (G : cx_G) (f : Wd) (st : St) (x : Nat) (hI : sInv st) (hR0 : RX G f st x) (c a b p q : Int32) : XL l G yX9_age wsX9_age 8 136 6 34 [.ref x, .int c, .int a, .int b, .int p, .int q] f (fun r f' => (k3 (eyeP st c a b p q) (ordP a b p q) (lackN st (densN st (nN c) (nN a) (nN b) (nN p) (nN q)) = 0)) = 0 ∧ ageR st (densN st (nN c) (nN a) (nN b) (nN p) (nN q)) r ∧ f' = f) (psi ["java/lang/IndexOutOfBoundsException", "java/lang/IllegalArgumentException", "java/lang/IllegalStateException"] (k3 (eyeP st c a b p q) (ordP a b p q) (lackN st (densN st (nN c) (nN a) (nN b) (nN p) (nN q)) = 0))) := by
  refine vx_body (cc := cX9_age) (n := 8) (ret := (some .long)) (by decide +kernel) rfl (Nat.le_of_ble_eq_true rfl) ?_
  intro p0 e0 s0 m0 b0 meth0 c0 ls X hr hnm hout S hl
  have X : cxC G p0 l _ c0 cX9_age 8 m0 meth0 s0 _ RX9 wsX9_age := X
  have hl : lv_has ls 8 [(0, .ref x), (1, .int c), (2, .int a), (3, .int b), (4, .int p), (5, .int q)] := hl
  have in_RX4 : ∀ w ∈ u_ws RX4 TX4 4, w ∈ wsX9_age := by decide +kernel
  have in_RX9 : ∀ w ∈ u_ws RX9 TX9 6, w ∈ wsX9_age := by decide +kernel
  obtain ⟨gr, rw1, L1, L2, L3, cu, L4, g1, g2, g3, g4, w, hR⟩ := id hR0
  obtain ⟨hi0, hi1, hi2, hi3, hi4, hi5, hi6, hi7⟩ := id hI
  obtain ⟨hx, hgr, hrw, hgd, hL1, hC, hL2, hS2, hL3, hE, hcu, hL4, hA⟩ := id hR
  have m00 : md (fun _ => False) f f := md_rf _ f
  refine lv_aload_n X.1 X.2.1 dX9_age_0 rfl (lv_at hl 0 rfl) ?_
  refine lv_iload_n X.1 X.2.1 dX9_age_1 rfl (lv_at hl 1 rfl) ?_
  refine lv_iload_n X.1 X.2.1 dX9_age_2 rfl (lv_at hl 2 rfl) ?_
  refine lv_iload_n X.1 X.2.1 dX9_age_3 rfl (lv_at hl 3 rfl) ?_
  refine lv_iload X.1 X.2.1 dX9_age_4 (lv_at hl 4 rfl) ?_
  refine lv_iload X.1 X.2.1 dX9_age_6 (lv_at hl 5 rfl) ?_
  refine xcall_v (xrun_V X S (m_rqEye l hst G f st x gr rw1 L1 L2 L3 cu L4 g1 g2 g3 g4 w hI hR c a b p q) 5 gX9_age_X9_requireEyeAndCells rfl rfl rfl (by decide +kernel) ⟨(by exact Nat.le_of_ble_eq_true rfl), (by exact Nat.le_of_ble_eq_true rfl)⟩ ⟨_, _, hx⟩ rfl rfl rfl hl.1 rfl (by exact Nat.le_of_ble_eq_true rfl) dX9_age_8 ⟨(by exact Nat.le_of_ble_eq_true rfl), (by exact Nat.le_of_ble_eq_true rfl)⟩) S hout X.2.2.2.2.2.2.2 (by exact Nat.le_of_ble_eq_true rfl) (by exact Nat.le_of_ble_eq_true rfl) (fun E hE => by rw [hE.1]; exact p31 hE.2) (fun H locs hr_8 S => ?_)
  refine lv_iload_n X.1 X.2.1 dX9_age_11 rfl (lv_at hl 2 rfl) ?_
  refine lv_iload_n X.1 X.2.1 dX9_age_12 rfl (lv_at hl 3 rfl) ?_
  refine lv_iload X.1 X.2.1 dX9_age_13 (lv_at hl 4 rfl) ?_
  refine lv_iload X.1 X.2.1 dX9_age_15 (lv_at hl 5 rfl) ?_
  refine xcall_v (xrun_S X S (m_rqOrder l hst G f a b p q) 4 gX9_age_X9_requireOrder rfl rfl rfl (by decide +kernel) ⟨(by exact Nat.le_of_ble_eq_true rfl), (by exact Nat.le_of_ble_eq_true rfl)⟩ rfl hl.1 rfl (by exact Nat.le_of_ble_eq_true rfl) dX9_age_17 ⟨(by exact Nat.le_of_ble_eq_true rfl), (by exact Nat.le_of_ble_eq_true rfl)⟩) S hout X.2.2.2.2.2.2.2 (by exact Nat.le_of_ble_eq_true rfl) (by exact Nat.le_of_ble_eq_true rfl) (fun E hE => by rw [hE.1]; exact p32 hr_8 (fun z => hE.2 z)) (fun H locs hr_17 S => ?_)
  obtain ⟨c1, rfl, clo, cup, cbd⟩ := inI_sub hr_8.1 (by omega)
  have nc : nN (nI c1) = c1 := nN_nI cbd
  obtain ⟨a1, rfl, alo, aup, abd⟩ := inI_sub hr_8.2.1.1 (by omega)
  have na : nN (nI a1) = a1 := nN_nI abd
  obtain ⟨b1, rfl, blo, bup, bbd⟩ := inI_sub hr_8.2.1.2 (by omega)
  have nb : nN (nI b1) = b1 := nN_nI bbd
  obtain ⟨p1, rfl, plo, pup, pbd⟩ := inI_sub hr_8.2.2.1 (by omega)
  have np : nN (nI p1) = p1 := nN_nI pbd
  obtain ⟨q1, rfl, qlo, qup, qbd⟩ := inI_sub hr_8.2.2.2 (by omega)
  have nq : nN (nI q1) = q1 := nN_nI qbd
  have hox : a1 ≤ p1 := by have := hr_17.1; rw [i_n (by omega), i_n (by omega)] at this; omega
  have hoy : b1 ≤ q1 := by have := hr_17.2; rw [i_n (by omega), i_n (by omega)] at this; omega
  refine lv_aload_n X.1 X.2.1 dX9_age_20 rfl (lv_at hl 0 rfl) ?_
  refine lv_iload_n X.1 X.2.1 dX9_age_21 rfl (lv_at hl 1 rfl) ?_
  refine r_new (C := RX4) (T := TX4) (N := 4) (ci := 5) (fs := [.int 0, .int 0, .int 0, .int 0]) X S 8 (by decide) in_RX4 tyX4 tyX4_ok (by decide +kernel) (by decide +kernel) (by decide +kernel) rfl (fun j hj => by rcases (show j = 0 ∨ j = 1 ∨ j = 2 ∨ j = 3 by omega) with rfl | rfl | rfl | rfl <;> rfl) (by exact Nat.le_of_ble_eq_true rfl) (by exact Nat.le_of_ble_eq_true rfl) dX9_age_22 (fun q_22 H hn_q_22 S => ?_)
  obtain ⟨f_22, ef_22⟩ : ∃ z9 : Wd, z9 = wu f q_22 8 (.inr (5, [.int 0, .int 0, .int 0, .int 0])) := ⟨_, rfl⟩
  rw [← ef_22] at S
  have hx_22 : f_22 x = some (0, .inr (9, [.ref gr, .ref L1, .ref L2, .ref L3, .ref cu, .int (nI (st 0 4))])) := by rw [ef_22]; exact wu_new hn_q_22 hx
  have hcu_22 : f_22 cu = some (6, .inr (3, [.ref L4])) := by rw [ef_22]; exact wu_new hn_q_22 hcu
  have hNq22 : f_22 q_22 = some (8, .inr (5, [.int 0, .int 0, .int 0, .int 0])) := by rw [ef_22]; exact wu_self _ _ _ _
  have hz_q_22 := md_none m00 hn_q_22
  have mw_new_22 : md (fun _ => False) f f_22 := by rw [ef_22]; exact md_newput hz_q_22 m00
  have hL1_22 := hL1.md mw_new_22 (fun z => z)
  refine lv_dup X.1 X.2.1 dX9_age_25 rfl ?_
  refine lv_iload_n X.1 X.2.1 dX9_age_26 rfl (lv_at hl 2 rfl) ?_
  refine lv_iload_n X.1 X.2.1 dX9_age_27 rfl (lv_at hl 3 rfl) ?_
  refine lv_iload X.1 X.2.1 dX9_age_28 (lv_at hl 4 rfl) ?_
  refine lv_iload X.1 X.2.1 dX9_age_30 (lv_at hl 5 rfl) ?_
  refine call_v (run_I X S (m_Field l G f_22 q_22 8 a1 b1 p1 q1 hNq22 (by decide)) 4 gX9_age_X4_init rfl rfl rfl (by decide +kernel) (by decide +kernel) (by decide +kernel) rfl (by decide +kernel) ⟨(by exact Nat.le_of_ble_eq_true rfl), (by exact Nat.le_of_ble_eq_true rfl)⟩ rfl hl.1 rfl (by exact Nat.le_of_ble_eq_true rfl) dX9_age_32 ⟨(by exact Nat.le_of_ble_eq_true rfl), (by exact Nat.le_of_ble_eq_true rfl)⟩) S (fun f_32 H locs hr_32 S => ?_)
  have hx_32 : f_32 x = some (0, .inr (9, [.ref gr, .ref L1, .ref L2, .ref L3, .ref cu, .int (nI (st 0 4))])) := by rw [hr_32]; exact wu_get hNq22 hx_22 (by decide)
  have hcu_32 : f_32 cu = some (6, .inr (3, [.ref L4])) := by rw [hr_32]; exact wu_get hNq22 hcu_22 (by decide)
  have hNq22_32 : f_32 q_22 = some (8, .inr (5, [.int (nI a1), .int (nI b1), .int (nI p1), .int (nI q1)])) := by rw [hr_32]; exact wu_self _ _ _ _
  have mw_set_32 : md (fun _ => False) f f_32 := by rw [hr_32]; exact md_newput hz_q_22 mw_new_22
  have hL1_32 := hL1.md mw_set_32 (fun z => z)
  have hR32 := hR.kept (fun b t e hb _ => mw_set_32 b t e hb (fun z => z)) hI.1.1
  refine call_lp (run_V X S (m_densitySeen l G f_32 st x gr rw1 L1 L2 L3 cu L4 g1 g2 g3 g4 w hI hR32 c1 q_22 8 a1 b1 p1 q1 (by omega) hNq22_32 (by omega) (by omega) (by omega) (by omega) hox hoy) 2 gX9_age_X9_densitySeen rfl rfl rfl (by decide +kernel) ⟨(by exact Nat.le_of_ble_eq_true rfl), (by exact Nat.le_of_ble_eq_true rfl)⟩ ⟨_, _, hx_32⟩ rfl rfl rfl hl.1 rfl (by exact Nat.le_of_ble_eq_true rfl) dX9_age_35 ⟨(by exact Nat.le_of_ble_eq_true rfl), (by exact Nat.le_of_ble_eq_true rfl)⟩) S (fun r_35 H locs hr_35 S => ?_)
  subst hr_35
  refine lv_lstore (lv' := [(6, .long (lN (densN st c1 a1 b1 p1 q1))), (0, .ref x), (1, .int (nI c1)), (2, .int (nI a1)), (3, .int (nI b1)), (4, .int (nI p1)), (5, .int (nI q1))]) X.1 X.2.1 dX9_age_38 hl (by decide) rfl (fun ls hl => ?_)
  refine lv_aload_n X.1 X.2.1 dX9_age_40 rfl (lv_at hl 1 rfl) ?_
  refine r_get (C := RX9) (T := TX9) (N := 6) (ref := "Craterclock") X S in_RX9 hx_32 rfl 4 (by decide) (by decide +kernel) (fun _ h => h) rfl dX9_age_41 ?_
  refine lv_lload X.1 X.2.1 dX9_age_44 (lv_at hl 0 rfl) ?_
  refine call_ip (run_V X S (m_lackFor l G f_32 st x gr rw1 L1 L2 L3 cu L4 g1 g2 g3 g4 w hI hR32 (densN st c1 a1 b1 p1 q1) (dens_lt hI _ _ _ _ _)) 1 gX9_age_X2_lackFor rfl rfl rfl (by decide +kernel) ⟨(by exact Nat.le_of_ble_eq_true rfl), (by exact Nat.le_of_ble_eq_true rfl)⟩ ⟨_, _, hcu_32⟩ rfl rfl rfl hl.1 rfl (by exact Nat.le_of_ble_eq_true rfl) dX9_age_46 ⟨(by exact Nat.le_of_ble_eq_true rfl), (by exact Nat.le_of_ble_eq_true rfl)⟩) S (fun r_46 H locs hr_46 S => ?_)
  subst hr_46
  refine lv_if_eq (tgt := 62) X.1 X.2.1 dX9_age_49 (by decide) (fun c_49 => ?_) (fun c_49 => ?_)
  · have hlk : lackN st (densN st c1 a1 b1 p1 q1) = 0 := (nI_eq (b := 0) (by unfold lackN; split; omega; split <;> omega) (by omega)).mp c_49
    have hlk2 := lack_0 hlk
    refine lv_aload_n X.1 X.2.1 dX9_age_62 rfl (lv_at hl 1 rfl) ?_
    refine r_get (C := RX9) (T := TX9) (N := 6) (ref := "Craterclock") X S in_RX9 hx_32 rfl 4 (by decide) (by decide +kernel) (fun _ h => h) rfl dX9_age_63 ?_
    refine lv_lload X.1 X.2.1 dX9_age_66 (lv_at hl 0 rfl) ?_
    refine call_lp (run_V X S (m_yearsOf l G f_32 st x gr rw1 L1 L2 L3 cu L4 g1 g2 g3 g4 w hI hR32 (densN st c1 a1 b1 p1 q1) hlk2.1 hlk2.2) 1 gX9_age_X2_yearsOf rfl rfl rfl (by decide +kernel) ⟨(by exact Nat.le_of_ble_eq_true rfl), (by exact Nat.le_of_ble_eq_true rfl)⟩ ⟨_, _, hcu_32⟩ rfl rfl rfl hl.1 rfl (by exact Nat.le_of_ble_eq_true rfl) dX9_age_68 ⟨(by exact Nat.le_of_ble_eq_true rfl), (by exact Nat.le_of_ble_eq_true rfl)⟩) S (fun r_68 H locs hr_68 S => ?_)
    rw [hr_32, ef_22, wu_wu] at S
    replace S : cxS G s0 f H locs := ⟨S.1.drop hn_q_22 (by decide), S.2⟩
    refine vx_ret (e_l X hr S (Nat.le_of_ble_eq_true rfl) (Nat.le_of_ble_eq_true rfl) dX9_age_71 ?_)
    simp only [nc, na, nb, np, nq]
    exact ⟨k3_0 hr_8 hr_17 hlk, hr_68, by trivial⟩
  · rw [hr_32, ef_22, wu_wu] at S
    replace S : cxS G s0 f H locs := ⟨S.1.drop hn_q_22 (by decide), S.2⟩
    refine r_throw (cls := "java/lang/IllegalStateException") (text := "there is no age") X S hst hout rfl hl.1 (by decide +kernel) (by decide +kernel) (by decide +kernel) (by decide +kernel) (by decide +kernel) (by decide +kernel) (by decide +kernel) (by decide +kernel) dX9_age_52 dX9_age_55 dX9_age_56 dX9_age_58 dX9_age_61 (by exact Nat.le_of_ble_eq_true rfl) (by exact Nat.le_of_ble_eq_true rfl) (by exact Nat.le_of_ble_eq_true rfl) (by exact Nat.le_of_ble_eq_true rfl) (by exact Nat.le_of_ble_eq_true rfl) (by exact Nat.le_of_ble_eq_true rfl) ?_
    exact p33 hr_8 hr_17 (fun z => c_49 (by simp only [nc, na, nb, np, nq] at z; unfold lackN at z; rw [z]; rfl))

set_option maxRecDepth 100000 in
set_option maxHeartbeats 4000000 in
/-- about -/
theorem q_about (l : Launch) (hst : l.stackTraces = false) (G : cx_G) (f : Wd) (st : St) (x : Nat) (hI : sInv st) (hR0 : RX G f st x) (c v : Int32) : XI l G yX9_about wsX9_about 7 115 2 12 [.ref x, .int c, .int v] f (fun r f' => (k2 (inI c 0 ((st 0 0 : Int) - 1)) (inI v 0 3)) = 0 ∧ r = nI (aboutN st (nN c) (nN v)) ∧ f' = f) (psi ["java/lang/IndexOutOfBoundsException", "java/lang/IllegalArgumentException"] (k2 (inI c 0 ((st 0 0 : Int) - 1)) (inI v 0 3))) := by
  refine vx_body (cc := cX9_about) (n := 4) (ret := (some .int)) (by decide +kernel) rfl (Nat.le_of_ble_eq_true rfl) ?_
  intro p0 e0 s0 m0 b0 meth0 c0 ls X hr hnm hout S hl
  have X : cxC G p0 l _ c0 cX9_about 4 m0 meth0 s0 _ RX9 wsX9_about := X
  have hl : lv_has ls 4 [(0, .ref x), (1, .int c), (2, .int v)] := hl
  have in_RX1 : ∀ w ∈ u_ws RX1 TX1 6, w ∈ wsX9_about := by decide +kernel
  have in_RX9 : ∀ w ∈ u_ws RX9 TX9 6, w ∈ wsX9_about := by decide +kernel
  obtain ⟨gr, rw1, L1, L2, L3, cu, L4, g1, g2, g3, g4, w, hR⟩ := id hR0
  obtain ⟨hi0, hi1, hi2, hi3, hi4, hi5, hi6, hi7⟩ := id hI
  obtain ⟨hx, hgr, hrw, hgd, hL1, hC, hL2, hS2, hL3, hE, hcu, hL4, hA⟩ := id hR
  refine lv_aload_n X.1 X.2.1 dX9_about_0 rfl (lv_at hl 0 rfl) ?_
  refine lv_iload_n X.1 X.2.1 dX9_about_1 rfl (lv_at hl 1 rfl) ?_
  refine xcall_v (xrun_V X S (m_rqCrater l hst G f st x gr rw1 L1 L2 L3 cu L4 g1 g2 g3 g4 w hI hR c) 1 gX9_about_X9_requireCrater rfl rfl rfl (by decide +kernel) ⟨(by exact Nat.le_of_ble_eq_true rfl), (by exact Nat.le_of_ble_eq_true rfl)⟩ ⟨_, _, hx⟩ rfl rfl rfl hl.1 rfl (by exact Nat.le_of_ble_eq_true rfl) dX9_about_2 ⟨(by exact Nat.le_of_ble_eq_true rfl), (by exact Nat.le_of_ble_eq_true rfl)⟩) S hout X.2.2.2.2.2.2.2 (by exact Nat.le_of_ble_eq_true rfl) (by exact Nat.le_of_ble_eq_true rfl) (fun E hE => by rw [hE.1]; exact p21 hE.2) (fun H locs hr_2 S => ?_)
  refine lv_iload_n X.1 X.2.1 dX9_about_5 rfl (lv_at hl 2 rfl) ?_
  refine lv_i2l (v := v.toInt64) X.1 X.2.1 dX9_about_6 rfl ?_
  refine lv_lconst (v := 0) X.1 X.2.1 dX9_about_7 (by decide) ?_
  refine r_ldc2 (v := 3) X (by decide +kernel) dX9_about_8 ?_
  refine xcall_v (xrun_S X S (m_rqRange l hst G f v.toInt64 0 3) 3 gX9_about_X9_requireRange rfl rfl rfl (by decide +kernel) ⟨(by exact Nat.le_of_ble_eq_true rfl), (by exact Nat.le_of_ble_eq_true rfl)⟩ rfl hl.1 rfl (by exact Nat.le_of_ble_eq_true rfl) dX9_about_11 ⟨(by exact Nat.le_of_ble_eq_true rfl), (by exact Nat.le_of_ble_eq_true rfl)⟩) S hout X.2.2.2.2.2.2.2 (by exact Nat.le_of_ble_eq_true rfl) (by exact Nat.le_of_ble_eq_true rfl) (fun E hE => by rw [hE.1]; exact p22 hr_2 (fun z => hE.2 ((rg_i (p := 0) (q := 3) (by decide +kernel) (by decide +kernel)).mpr z))) (fun H locs hr_11 S => ?_)
  have hP2 := (rg_i (p := 0) (q := 3) (by decide +kernel) (by decide +kernel)).mp hr_11
  obtain ⟨c1, rfl, clo, cup, cbd⟩ := inI_sub hr_2 (by omega)
  have nc : nN (nI c1) = c1 := nN_nI cbd
  obtain ⟨v1, rfl, vlo, vup, vbd⟩ := inI_sub hP2 (by omega)
  have nv : nN (nI v1) = v1 := nN_nI vbd
  have hlt_c1 : c1 < st 0 0 := by omega
  refine lv_aload_n X.1 X.2.1 dX9_about_14 rfl (lv_at hl 0 rfl) ?_
  refine r_get (C := RX9) (T := TX9) (N := 6) (ref := "Craterclock") X S in_RX9 hx rfl 1 (by decide) (by decide +kernel) (fun _ h => h) rfl dX9_about_15 ?_
  refine lv_iload_n X.1 X.2.1 dX9_about_18 rfl (lv_at hl 1 rfl) ?_
  refine call_rp (run_V X S (m_get l G f L1 3 (st 0 0) c1 g1 hL1 hlt_c1 (by omega)) 1 gX9_about_Jx4a65c_get_915e3 rfl rfl rfl (by decide +kernel) ⟨(by exact Nat.le_of_ble_eq_true rfl), (by exact Nat.le_of_ble_eq_true rfl)⟩ hL1.obj rfl rfl rfl hl.1 rfl (by exact Nat.le_of_ble_eq_true rfl) dX9_about_19 ⟨(by exact Nat.le_of_ble_eq_true rfl), (by exact Nat.le_of_ble_eq_true rfl)⟩) S (fun r_19 H locs hr_19 S => ?_)
  subst hr_19
  refine r_castS X S (nm := RX1) rfl (by decide +kernel) (hC c1 hlt_c1) rfl dX9_about_22 ?_
  refine lv_astore_n (lv' := [(3, .ref (g1 c1)), (0, .ref x), (1, .int (nI c1)), (2, .int (nI v1))]) X.1 X.2.1 dX9_about_25 rfl hl (by decide) rfl (fun ls hl => ?_)
  refine lv_iload_n X.1 X.2.1 dX9_about_26 rfl (lv_at hl 3 rfl) ?_
  rcases (show v1 = 0 ∨ v1 = 1 ∨ v1 = 2 ∨ v1 = 3 by omega) with rfl | rfl | rfl | rfl
  · refine lv_tableIn (off := 25) (tgt := 52) X.1 X.2.1 dX9_about_27 (by decide) (by decide) (by decide) (by decide) ?_
    refine lv_aload_n X.1 X.2.1 dX9_about_52 rfl (lv_at hl 0 rfl) ?_
    refine r_get (C := RX1) (T := TX1) (N := 6) (ref := "Craterclock$Crater") X S in_RX1 (hC c1 hlt_c1) rfl 0 (by decide) (by decide +kernel) (fun _ h => h) rfl dX9_about_53 ?_
    refine vx_ret (e_i X hr S (Nat.le_of_ble_eq_true rfl) (Nat.le_of_ble_eq_true rfl) dX9_about_56 ?_)
    simp only [nc, nv]
    exact ⟨k2_0 hr_2 hP2, by rfl, by trivial⟩
  · refine lv_tableIn (off := 30) (tgt := 57) X.1 X.2.1 dX9_about_27 (by decide) (by decide) (by decide) (by decide) ?_
    refine lv_aload_n X.1 X.2.1 dX9_about_57 rfl (lv_at hl 0 rfl) ?_
    refine r_get (C := RX1) (T := TX1) (N := 6) (ref := "Craterclock$Crater") X S in_RX1 (hC c1 hlt_c1) rfl 1 (by decide) (by decide +kernel) (fun _ h => h) rfl dX9_about_58 ?_
    refine vx_ret (e_i X hr S (Nat.le_of_ble_eq_true rfl) (Nat.le_of_ble_eq_true rfl) dX9_about_61 ?_)
    simp only [nc, nv]
    exact ⟨k2_0 hr_2 hP2, by rfl, by trivial⟩
  · refine lv_tableIn (off := 35) (tgt := 62) X.1 X.2.1 dX9_about_27 (by decide) (by decide) (by decide) (by decide) ?_
    refine lv_aload_n X.1 X.2.1 dX9_about_62 rfl (lv_at hl 0 rfl) ?_
    refine r_get (C := RX1) (T := TX1) (N := 6) (ref := "Craterclock$Crater") X S in_RX1 (hC c1 hlt_c1) rfl 3 (by decide) (by decide +kernel) (fun _ h => h) rfl dX9_about_63 ?_
    refine vx_ret (e_i X hr S (Nat.le_of_ble_eq_true rfl) (Nat.le_of_ble_eq_true rfl) dX9_about_66 ?_)
    simp only [nc, nv]
    exact ⟨k2_0 hr_2 hP2, by rfl, by trivial⟩
  · refine lv_tableOut (tgt := 67) X.1 X.2.1 dX9_about_27 (by decide) (by decide) ?_
    refine lv_aload_n X.1 X.2.1 dX9_about_67 rfl (lv_at hl 0 rfl) ?_
    refine r_get (C := RX1) (T := TX1) (N := 6) (ref := "Craterclock$Crater") X S in_RX1 (hC c1 hlt_c1) rfl 5 (by decide) (by decide +kernel) (fun _ h => h) rfl dX9_about_68 ?_
    refine vx_ret (e_i X hr S (Nat.le_of_ble_eq_true rfl) (Nat.le_of_ble_eq_true rfl) dX9_about_71 ?_)
    simp only [nc, nv]
    exact ⟨k2_0 hr_2 hP2, by rfl, by trivial⟩

set_option maxRecDepth 100000 in
set_option maxHeartbeats 4000000 in
/-- depthAnew -/
theorem q_depthAnew (l : Launch) (hst : l.stackTraces = false) (G : cx_G) (f : Wd) (st : St) (x : Nat) (hI : sInv st) (hR0 : RX G f st x) (c : Int32) : XI l G yX9_depthAnew wsX9_depthAnew 7 111 1 6 [.ref x, .int c] f (fun r f' => (k1 (inI c 0 ((st 0 0 : Int) - 1))) = 0 ∧ r = nI (st 7 (nN c)) ∧ f' = f) (psi ["java/lang/IndexOutOfBoundsException"] (k1 (inI c 0 ((st 0 0 : Int) - 1)))) := by
  refine vx_body (cc := cX9_depthAnew) (n := 2) (ret := (some .int)) (by decide +kernel) rfl (Nat.le_of_ble_eq_true rfl) ?_
  intro p0 e0 s0 m0 b0 meth0 c0 ls X hr hnm hout S hl
  have X : cxC G p0 l _ c0 cX9_depthAnew 2 m0 meth0 s0 _ RX9 wsX9_depthAnew := X
  have hl : lv_has ls 2 [(0, .ref x), (1, .int c)] := hl
  obtain ⟨gr, rw1, L1, L2, L3, cu, L4, g1, g2, g3, g4, w, hR⟩ := id hR0
  obtain ⟨hi0, hi1, hi2, hi3, hi4, hi5, hi6, hi7⟩ := id hI
  obtain ⟨hx, hgr, hrw, hgd, hL1, hC, hL2, hS2, hL3, hE, hcu, hL4, hA⟩ := id hR
  refine lv_aload_n X.1 X.2.1 dX9_depthAnew_0 rfl (lv_at hl 0 rfl) ?_
  refine lv_iload_n X.1 X.2.1 dX9_depthAnew_1 rfl (lv_at hl 1 rfl) ?_
  refine xcall_v (xrun_V X S (m_rqCrater l hst G f st x gr rw1 L1 L2 L3 cu L4 g1 g2 g3 g4 w hI hR c) 1 gX9_depthAnew_X9_requireCrater rfl rfl rfl (by decide +kernel) ⟨(by exact Nat.le_of_ble_eq_true rfl), (by exact Nat.le_of_ble_eq_true rfl)⟩ ⟨_, _, hx⟩ rfl rfl rfl hl.1 rfl (by exact Nat.le_of_ble_eq_true rfl) dX9_depthAnew_2 ⟨(by exact Nat.le_of_ble_eq_true rfl), (by exact Nat.le_of_ble_eq_true rfl)⟩) S hout X.2.2.2.2.2.2.2 (by exact Nat.le_of_ble_eq_true rfl) (by exact Nat.le_of_ble_eq_true rfl) (fun E hE => by rw [hE.1]; exact p11 hE.2) (fun H locs hr_2 S => ?_)
  obtain ⟨c1, rfl, clo, cup, cbd⟩ := inI_sub hr_2 (by omega)
  have nc : nN (nI c1) = c1 := nN_nI cbd
  refine lv_aload_n X.1 X.2.1 dX9_depthAnew_5 rfl (lv_at hl 0 rfl) ?_
  refine lv_iload_n X.1 X.2.1 dX9_depthAnew_6 rfl (lv_at hl 1 rfl) ?_
  refine call_ip (run_V X S (m_depthOnceMore l G f st x gr rw1 L1 L2 L3 cu L4 g1 g2 g3 g4 w hI hR c1 (by omega)) 1 gX9_depthAnew_X9_depthOnceMore rfl rfl rfl (by decide +kernel) ⟨(by exact Nat.le_of_ble_eq_true rfl), (by exact Nat.le_of_ble_eq_true rfl)⟩ ⟨_, _, hx⟩ rfl rfl rfl hl.1 rfl (by exact Nat.le_of_ble_eq_true rfl) dX9_depthAnew_7 ⟨(by exact Nat.le_of_ble_eq_true rfl), (by exact Nat.le_of_ble_eq_true rfl)⟩) S (fun r_7 H locs hr_7 S => ?_)
  subst hr_7
  refine vx_ret (e_i X hr S (Nat.le_of_ble_eq_true rfl) (Nat.le_of_ble_eq_true rfl) dX9_depthAnew_10 ?_)
  simp only [nc]
  exact ⟨k1_0 hr_2, by trivial, by trivial⟩

set_option maxRecDepth 100000 in
set_option maxHeartbeats 4000000 in
/-- q_top -/
theorem q_top (l : Launch) (hst : l.stackTraces = false) (G : cx_G) (f : Wd) (st : St) (x : Nat) (hI : sInv st) (hR0 : RX G f st x) (a b : Int32) : XI l G yX9_top wsX9_top 7 111 1 6 [.ref x, .int a, .int b] f (fun r f' => (k1 (cellP a b)) = 0 ∧ r = tpI (topP st (nN a) (nN b)) (st 0 0) ∧ f' = f) (psi ["java/lang/IndexOutOfBoundsException"] (k1 (cellP a b))) := by
  refine vx_body (cc := cX9_top) (n := 5) (ret := (some .int)) (by decide +kernel) rfl (Nat.le_of_ble_eq_true rfl) ?_
  intro p0 e0 s0 m0 b0 meth0 c0 ls X hr hnm hout S hl
  have X : cxC G p0 l _ c0 cX9_top 5 m0 meth0 s0 _ RX9 wsX9_top := X
  have hl : lv_has ls 5 [(0, .ref x), (1, .int a), (2, .int b)] := hl
  have in_RX1 : ∀ w ∈ u_ws RX1 TX1 6, w ∈ wsX9_top := by decide +kernel
  have in_RX9 : ∀ w ∈ u_ws RX9 TX9 6, w ∈ wsX9_top := by decide +kernel
  obtain ⟨gr, rw1, L1, L2, L3, cu, L4, g1, g2, g3, g4, w, hR⟩ := id hR0
  obtain ⟨hi0, hi1, hi2, hi3, hi4, hi5, hi6, hi7⟩ := id hI
  obtain ⟨hx, hgr, hrw, hgd, hL1, hC, hL2, hS2, hL3, hE, hcu, hL4, hA⟩ := id hR
  refine lv_iload_n X.1 X.2.1 dX9_top_0 rfl (lv_at hl 1 rfl) ?_
  refine lv_iload_n X.1 X.2.1 dX9_top_1 rfl (lv_at hl 2 rfl) ?_
  refine xcall_v (xrun_S X S (m_rqCell l hst G f a b) 2 gX9_top_X9_requireCell rfl rfl rfl (by decide +kernel) ⟨(by exact Nat.le_of_ble_eq_true rfl), (by exact Nat.le_of_ble_eq_true rfl)⟩ rfl hl.1 rfl (by exact Nat.le_of_ble_eq_true rfl) dX9_top_2 ⟨(by exact Nat.le_of_ble_eq_true rfl), (by exact Nat.le_of_ble_eq_true rfl)⟩) S hout X.2.2.2.2.2.2.2 (by exact Nat.le_of_ble_eq_true rfl) (by exact Nat.le_of_ble_eq_true rfl) (fun E hE => by rw [hE.1]; exact p11 hE.2) (fun H locs hr_2 S => ?_)
  obtain ⟨a1, rfl, alo, aup, abd⟩ := inI_sub hr_2.1 (by omega)
  have na : nN (nI a1) = a1 := nN_nI abd
  obtain ⟨b1, rfl, blo, bup, bbd⟩ := inI_sub hr_2.2 (by omega)
  have nb : nN (nI b1) = b1 := nN_nI bbd
  refine lv_aload_n X.1 X.2.1 dX9_top_5 rfl (lv_at hl 0 rfl) ?_
  refine r_get (C := RX9) (T := TX9) (N := 6) (ref := "Craterclock") X S in_RX9 hx rfl 1 (by decide) (by decide +kernel) (fun _ h => h) rfl dX9_top_6 ?_
  refine call_ip (run_V X S (m_sizeL l G f L1 3 (st 0 0) g1 hL1) 0 gX9_top_Jx4a65c_size_8abf5 rfl rfl rfl (by decide +kernel) ⟨(by exact Nat.le_of_ble_eq_true rfl), (by exact Nat.le_of_ble_eq_true rfl)⟩ hL1.obj rfl rfl rfl hl.1 rfl (by exact Nat.le_of_ble_eq_true rfl) dX9_top_9 ⟨(by exact Nat.le_of_ble_eq_true rfl), (by exact Nat.le_of_ble_eq_true rfl)⟩) S (fun r_9 H locs hr_9 S => ?_)
  subst hr_9
  refine lv_iconst (v := 1) X.1 X.2.1 dX9_top_12 (by decide) ?_
  refine lv_isub X.1 X.2.1 dX9_top_13 ?_
  refine r_toi (y := nI (st 0 0) + (-1)) (Int32.sub_eq_add_neg _ _) ?_
  refine lv_istore_n (lv' := [(3, .int (nI (st 0 0) + (-1))), (0, .ref x), (1, .int (nI a1)), (2, .int (nI b1))]) X.1 X.2.1 dX9_top_14 rfl hl (by decide) rfl (fun ls hl => ?_)
  refine W_genQ (fun Q9 hQ9 => ?_)
  have loop : ∀ (N : Nat) (j : Nat) (H : Heap) (locs : List Loc) (ls : Array Slot), j ≤ st 0 0 → j < N → tpI (topP st a1 b1) (st 0 0) = tpI (topP st a1 b1) j → cxS G s0 f H locs → lv_has ls 5 [(0, .ref x), (1, .int (nI a1)), (2, .int (nI b1)), (3, .int (nI j + (-1)))] → W p0 l e0 ({ frames := 7, cells := 1, slots := 6, locals := 111 } : Room) s0 m0 ([.ref x, .int (nI a1), .int (nI b1)] : List Value).toArray b0 meth0 c0 H locs 1 6 Q9 (F0 m0 15 ls []) := by
    intro N
    induction N with
    | zero =>
      intro j  H locs ls hk hN htp S hl
      exfalso
      omega
    | succ N ih =>
      intro j  H locs ls hk hN htp S hl
      refine lv_iload_n X.1 X.2.1 dX9_top_15 rfl (lv_at hl 3 rfl) ?_
      refine lv_if_lt (tgt := 58) X.1 X.2.1 dX9_top_16 (by decide) (fun c_16 => ?_) (fun c_16 => ?_)
      · have hj0 : j = 0 := by
          rcases Nat.eq_zero_or_pos j with z | z
          · exact z
          · exfalso
            obtain ⟨j1, rfl⟩ : ∃ j1, j = j1 + 1 := ⟨j - 1, by omega⟩
            rw [nI_dn] at c_16
            exact nI_pos (by omega) c_16
        subst hj0
        subst hQ9
        refine lv_iconst (v := (-1)) X.1 X.2.1 dX9_top_58 (by decide) ?_
        refine vx_ret (e_i X hr S (Nat.le_of_ble_eq_true rfl) (Nat.le_of_ble_eq_true rfl) dX9_top_59 ?_)
        simp only [na, nb]
        exact ⟨k1_0 hr_2, by rw [htp]; rfl, by trivial⟩
      · have hj0 : j ≠ 0 := fun z => c_16 (by rw [z]; decide)
        obtain ⟨j1, rfl⟩ : ∃ j1, j = j1 + 1 := ⟨j - 1, by omega⟩
        rw [nI_dn] at hl
        have hlt_j1 : j1 < st 0 0 := by omega
        have hcc := hi2 j1 hlt_j1
        have hr7 := hcc.2.2.2.2.2.1
        have hd7 := hcc.2.2.2.2.2.2
        refine lv_aload_n X.1 X.2.1 dX9_top_19 rfl (lv_at hl 0 rfl) ?_
        refine r_get (C := RX9) (T := TX9) (N := 6) (ref := "Craterclock") X S in_RX9 hx rfl 1 (by decide) (by decide +kernel) (fun _ h => h) rfl dX9_top_20 ?_
        refine lv_iload_n X.1 X.2.1 dX9_top_23 rfl (lv_at hl 3 rfl) ?_
        refine call_rp (run_V X S (m_get l G f L1 3 (st 0 0) j1 g1 hL1 hlt_j1 (by omega)) 1 gX9_top_Jx4a65c_get_915e3 rfl rfl rfl (by decide +kernel) ⟨(by exact Nat.le_of_ble_eq_true rfl), (by exact Nat.le_of_ble_eq_true rfl)⟩ hL1.obj rfl rfl rfl hl.1 rfl (by exact Nat.le_of_ble_eq_true rfl) dX9_top_24 ⟨(by exact Nat.le_of_ble_eq_true rfl), (by exact Nat.le_of_ble_eq_true rfl)⟩) S (fun r_24 H locs hr_24 S => ?_)
        subst hr_24
        refine r_castS X S (nm := RX1) rfl (by decide +kernel) (hC j1 hlt_j1) rfl dX9_top_27 ?_
        refine lv_astore (lv' := [(4, .ref (g1 j1)), (0, .ref x), (1, .int (nI a1)), (2, .int (nI b1)), (3, .int (nI j1))]) X.1 X.2.1 dX9_top_30 hl (by decide) rfl (fun ls hl => ?_)
        refine lv_aload X.1 X.2.1 dX9_top_32 (lv_at hl 0 rfl) ?_
        refine r_get (C := RX1) (T := TX1) (N := 6) (ref := "Craterclock$Crater") X S in_RX1 (hC j1 hlt_j1) rfl 5 (by decide) (by decide +kernel) (fun _ h => h) rfl dX9_top_34 ?_
        refine lv_if_le (tgt := 52) X.1 X.2.1 dX9_top_37 (by decide) (fun c_37 => ?_) (fun c_37 => ?_)
        · refine lv_iinc (v := ((nI j1) + (-1))) (lv' := [(3, .int ((nI j1) + (-1))), (4, .ref (g1 j1)), (0, .ref x), (1, .int (nI a1)), (2, .int (nI b1))]) X.1 X.2.1 dX9_top_52 hl (k := 4) rfl rfl (by decide) rfl (fun ls hl => ?_)
          refine lv_goto (tgt := 15) X.1 X.2.1 dX9_top_55 (by decide) ?_
          exact ih j1 H locs ls (by omega) (by omega) (by rw [htp]; exact tpI_f (decide_eq_false (fun z => by have := nI_le0 (by omega) c_37; omega))) S (lv_sub hl [2, 3, 4, 0] rfl)
        · refine lv_aload X.1 X.2.1 dX9_top_40 (lv_at hl 0 rfl) ?_
          refine lv_iload_n X.1 X.2.1 dX9_top_42 rfl (lv_at hl 2 rfl) ?_
          refine lv_iload_n X.1 X.2.1 dX9_top_43 rfl (lv_at hl 3 rfl) ?_
          refine call_ip (run_V X S (m_covers l G f (g1 j1) (100 + j1) (st 2 j1) (st 3 j1) (st 4 j1) (st 5 j1) (st 6 j1) (st 7 j1) a1 b1 (hC j1 hlt_j1) hcc.1 hcc.2.1 (by omega) (by omega) (by omega)) 2 gX9_top_X1_covers rfl rfl rfl (by decide +kernel) ⟨(by exact Nat.le_of_ble_eq_true rfl), (by exact Nat.le_of_ble_eq_true rfl)⟩ ⟨_, _, (hC j1 hlt_j1)⟩ rfl rfl rfl hl.1 rfl (by exact Nat.le_of_ble_eq_true rfl) dX9_top_44 ⟨(by exact Nat.le_of_ble_eq_true rfl), (by exact Nat.le_of_ble_eq_true rfl)⟩) S (fun r_44 H locs hr_44 S => ?_)
          subst hr_44
          refine r_eqB (tgt := 52) X dX9_top_47 (by decide) (fun c_47 => ?_) (fun c_47 => ?_)
          · refine lv_iinc (v := ((nI j1) + (-1))) (lv' := [(3, .int ((nI j1) + (-1))), (4, .ref (g1 j1)), (0, .ref x), (1, .int (nI a1)), (2, .int (nI b1))]) X.1 X.2.1 dX9_top_52 hl (k := 4) rfl rfl (by decide) rfl (fun ls hl => ?_)
            refine lv_goto (tgt := 15) X.1 X.2.1 dX9_top_55 (by decide) ?_
            exact ih j1 H locs ls (by omega) (by omega) (by rw [htp]; exact tpI_f (decide_eq_false (fun z => of_decide_eq_false c_47 z.2))) S (lv_sub hl [2, 3, 4, 0] rfl)
          · subst hQ9
            refine lv_iload_n X.1 X.2.1 dX9_top_50 rfl (lv_at hl 4 rfl) ?_
            refine vx_ret (e_i X hr S (Nat.le_of_ble_eq_true rfl) (Nat.le_of_ble_eq_true rfl) dX9_top_51 ?_)
            simp only [na, nb]
            exact ⟨k1_0 hr_2, by rw [htp]; exact (tpI_t (decide_eq_true ⟨nI_gt0 c_37, of_decide_eq_true c_47⟩)).symm, by trivial⟩
  exact loop (st 0 0 + 1) (st 0 0) _ _ _ (Nat.le_refl _) (by omega) rfl S (lv_sub hl [1, 2, 3, 0] rfl)

set_option maxRecDepth 100000 in
set_option maxHeartbeats 4000000 in
/-- q_topAnew -/
theorem q_topAnew (l : Launch) (hst : l.stackTraces = false) (G : cx_G) (f : Wd) (st : St) (x : Nat) (hI : sInv st) (hR0 : RX G f st x) (a b : Int32) : XI l G yX9_topAnew wsX9_topAnew 7 111 1 6 [.ref x, .int a, .int b] f (fun r f' => (k1 (cellP a b)) = 0 ∧ r = tpI (topP st (nN a) (nN b)) (st 0 0) ∧ f' = f) (psi ["java/lang/IndexOutOfBoundsException"] (k1 (cellP a b))) := by
  refine vx_body (cc := cX9_topAnew) (n := 4) (ret := (some .int)) (by decide +kernel) rfl (Nat.le_of_ble_eq_true rfl) ?_
  intro p0 e0 s0 m0 b0 meth0 c0 ls X hr hnm hout S hl
  have X : cxC G p0 l _ c0 cX9_topAnew 4 m0 meth0 s0 _ RX9 wsX9_topAnew := X
  have hl : lv_has ls 4 [(0, .ref x), (1, .int a), (2, .int b)] := hl
  have in_RX9 : ∀ w ∈ u_ws RX9 TX9 6, w ∈ wsX9_topAnew := by decide +kernel
  obtain ⟨gr, rw1, L1, L2, L3, cu, L4, g1, g2, g3, g4, w, hR⟩ := id hR0
  obtain ⟨hi0, hi1, hi2, hi3, hi4, hi5, hi6, hi7⟩ := id hI
  obtain ⟨hx, hgr, hrw, hgd, hL1, hC, hL2, hS2, hL3, hE, hcu, hL4, hA⟩ := id hR
  refine lv_iload_n X.1 X.2.1 dX9_topAnew_0 rfl (lv_at hl 1 rfl) ?_
  refine lv_iload_n X.1 X.2.1 dX9_topAnew_1 rfl (lv_at hl 2 rfl) ?_
  refine xcall_v (xrun_S X S (m_rqCell l hst G f a b) 2 gX9_topAnew_X9_requireCell rfl rfl rfl (by decide +kernel) ⟨(by exact Nat.le_of_ble_eq_true rfl), (by exact Nat.le_of_ble_eq_true rfl)⟩ rfl hl.1 rfl (by exact Nat.le_of_ble_eq_true rfl) dX9_topAnew_2 ⟨(by exact Nat.le_of_ble_eq_true rfl), (by exact Nat.le_of_ble_eq_true rfl)⟩) S hout X.2.2.2.2.2.2.2 (by exact Nat.le_of_ble_eq_true rfl) (by exact Nat.le_of_ble_eq_true rfl) (fun E hE => by rw [hE.1]; exact p11 hE.2) (fun H locs hr_2 S => ?_)
  obtain ⟨a1, rfl, alo, aup, abd⟩ := inI_sub hr_2.1 (by omega)
  have na : nN (nI a1) = a1 := nN_nI abd
  obtain ⟨b1, rfl, blo, bup, bbd⟩ := inI_sub hr_2.2 (by omega)
  have nb : nN (nI b1) = b1 := nN_nI bbd
  refine lv_aload_n X.1 X.2.1 dX9_topAnew_5 rfl (lv_at hl 0 rfl) ?_
  refine r_get (C := RX9) (T := TX9) (N := 6) (ref := "Craterclock") X S in_RX9 hx rfl 1 (by decide) (by decide +kernel) (fun _ h => h) rfl dX9_topAnew_6 ?_
  refine call_ip (run_V X S (m_sizeL l G f L1 3 (st 0 0) g1 hL1) 0 gX9_topAnew_Jx4a65c_size_8abf5 rfl rfl rfl (by decide +kernel) ⟨(by exact Nat.le_of_ble_eq_true rfl), (by exact Nat.le_of_ble_eq_true rfl)⟩ hL1.obj rfl rfl rfl hl.1 rfl (by exact Nat.le_of_ble_eq_true rfl) dX9_topAnew_9 ⟨(by exact Nat.le_of_ble_eq_true rfl), (by exact Nat.le_of_ble_eq_true rfl)⟩) S (fun r_9 H locs hr_9 S => ?_)
  subst hr_9
  refine lv_iconst (v := 1) X.1 X.2.1 dX9_topAnew_12 (by decide) ?_
  refine lv_isub X.1 X.2.1 dX9_topAnew_13 ?_
  refine r_toi (y := nI (st 0 0) + (-1)) (Int32.sub_eq_add_neg _ _) ?_
  refine lv_istore_n (lv' := [(3, .int (nI (st 0 0) + (-1))), (0, .ref x), (1, .int (nI a1)), (2, .int (nI b1))]) X.1 X.2.1 dX9_topAnew_14 rfl hl (by decide) rfl (fun ls hl => ?_)
  refine W_genQ (fun Q9 hQ9 => ?_)
  have loop : ∀ (N : Nat) (j : Nat) (H : Heap) (locs : List Loc) (ls : Array Slot), j ≤ st 0 0 → j < N → tpI (topP st a1 b1) (st 0 0) = tpI (topP st a1 b1) j → cxS G s0 f H locs → lv_has ls 4 [(0, .ref x), (1, .int (nI a1)), (2, .int (nI b1)), (3, .int (nI j + (-1)))] → W p0 l e0 ({ frames := 7, cells := 1, slots := 6, locals := 111 } : Room) s0 m0 ([.ref x, .int (nI a1), .int (nI b1)] : List Value).toArray b0 meth0 c0 H locs 1 6 Q9 (F0 m0 15 ls []) := by
    intro N
    induction N with
    | zero =>
      intro j  H locs ls hk hN htp S hl
      exfalso
      omega
    | succ N ih =>
      intro j  H locs ls hk hN htp S hl
      refine lv_iload_n X.1 X.2.1 dX9_topAnew_15 rfl (lv_at hl 3 rfl) ?_
      refine lv_if_lt (tgt := 54) X.1 X.2.1 dX9_topAnew_16 (by decide) (fun c_16 => ?_) (fun c_16 => ?_)
      · have hj0 : j = 0 := by
          rcases Nat.eq_zero_or_pos j with z | z
          · exact z
          · exfalso
            obtain ⟨j1, rfl⟩ : ∃ j1, j = j1 + 1 := ⟨j - 1, by omega⟩
            rw [nI_dn] at c_16
            exact nI_pos (by omega) c_16
        subst hj0
        subst hQ9
        refine lv_iconst (v := (-1)) X.1 X.2.1 dX9_topAnew_54 (by decide) ?_
        refine vx_ret (e_i X hr S (Nat.le_of_ble_eq_true rfl) (Nat.le_of_ble_eq_true rfl) dX9_topAnew_55 ?_)
        simp only [na, nb]
        exact ⟨k1_0 hr_2, by rw [htp]; rfl, by trivial⟩
      · have hj0 : j ≠ 0 := fun z => c_16 (by rw [z]; decide)
        obtain ⟨j1, rfl⟩ : ∃ j1, j = j1 + 1 := ⟨j - 1, by omega⟩
        rw [nI_dn] at hl
        have hlt_j1 : j1 < st 0 0 := by omega
        have hcc := hi2 j1 hlt_j1
        have hr7 := hcc.2.2.2.2.2.1
        have hd7 := hcc.2.2.2.2.2.2
        refine lv_aload_n X.1 X.2.1 dX9_topAnew_19 rfl (lv_at hl 0 rfl) ?_
        refine r_get (C := RX9) (T := TX9) (N := 6) (ref := "Craterclock") X S in_RX9 hx rfl 1 (by decide) (by decide +kernel) (fun _ h => h) rfl dX9_topAnew_20 ?_
        refine lv_iload_n X.1 X.2.1 dX9_topAnew_23 rfl (lv_at hl 3 rfl) ?_
        refine call_rp (run_V X S (m_get l G f L1 3 (st 0 0) j1 g1 hL1 hlt_j1 (by omega)) 1 gX9_topAnew_Jx4a65c_get_915e3 rfl rfl rfl (by decide +kernel) ⟨(by exact Nat.le_of_ble_eq_true rfl), (by exact Nat.le_of_ble_eq_true rfl)⟩ hL1.obj rfl rfl rfl hl.1 rfl (by exact Nat.le_of_ble_eq_true rfl) dX9_topAnew_24 ⟨(by exact Nat.le_of_ble_eq_true rfl), (by exact Nat.le_of_ble_eq_true rfl)⟩) S (fun r_24 H locs hr_24 S => ?_)
        subst hr_24
        refine r_castS X S (nm := RX1) rfl (by decide +kernel) (hC j1 hlt_j1) rfl dX9_topAnew_27 ?_
        refine lv_iload_n X.1 X.2.1 dX9_topAnew_30 rfl (lv_at hl 1 rfl) ?_
        refine lv_iload_n X.1 X.2.1 dX9_topAnew_31 rfl (lv_at hl 2 rfl) ?_
        refine call_ip (run_V X S (m_covers l G f (g1 j1) (100 + j1) (st 2 j1) (st 3 j1) (st 4 j1) (st 5 j1) (st 6 j1) (st 7 j1) a1 b1 (hC j1 hlt_j1) hcc.1 hcc.2.1 (by omega) (by omega) (by omega)) 2 gX9_topAnew_X1_covers rfl rfl rfl (by decide +kernel) ⟨(by exact Nat.le_of_ble_eq_true rfl), (by exact Nat.le_of_ble_eq_true rfl)⟩ ⟨_, _, (hC j1 hlt_j1)⟩ rfl rfl rfl hl.1 rfl (by exact Nat.le_of_ble_eq_true rfl) dX9_topAnew_32 ⟨(by exact Nat.le_of_ble_eq_true rfl), (by exact Nat.le_of_ble_eq_true rfl)⟩) S (fun r_32 H locs hr_32 S => ?_)
        subst hr_32
        refine r_eqB (tgt := 48) X dX9_topAnew_35 (by decide) (fun c_35 => ?_) (fun c_35 => ?_)
        · refine lv_iinc (v := ((nI j1) + (-1))) (lv' := [(3, .int ((nI j1) + (-1))), (0, .ref x), (1, .int (nI a1)), (2, .int (nI b1))]) X.1 X.2.1 dX9_topAnew_48 hl (k := 3) rfl rfl (by decide) rfl (fun ls hl => ?_)
          refine lv_goto (tgt := 15) X.1 X.2.1 dX9_topAnew_51 (by decide) ?_
          exact ih j1 H locs ls (by omega) (by omega) (by rw [htp]; exact tpI_f (decide_eq_false (fun z => of_decide_eq_false c_35 z.2))) S (lv_sub hl [1, 2, 3, 0] rfl)
        · refine lv_aload_n X.1 X.2.1 dX9_topAnew_38 rfl (lv_at hl 0 rfl) ?_
          refine lv_iload_n X.1 X.2.1 dX9_topAnew_39 rfl (lv_at hl 3 rfl) ?_
          refine call_ip (run_V X S (m_depthOnceMore l G f st x gr rw1 L1 L2 L3 cu L4 g1 g2 g3 g4 w hI hR j1 hlt_j1) 1 gX9_topAnew_X9_depthOnceMore rfl rfl rfl (by decide +kernel) ⟨(by exact Nat.le_of_ble_eq_true rfl), (by exact Nat.le_of_ble_eq_true rfl)⟩ ⟨_, _, hx⟩ rfl rfl rfl hl.1 rfl (by exact Nat.le_of_ble_eq_true rfl) dX9_topAnew_40 ⟨(by exact Nat.le_of_ble_eq_true rfl), (by exact Nat.le_of_ble_eq_true rfl)⟩) S (fun r_40 H locs hr_40 S => ?_)
          subst hr_40
          refine lv_if_le (tgt := 48) X.1 X.2.1 dX9_topAnew_43 (by decide) (fun c_43 => ?_) (fun c_43 => ?_)
          · refine lv_iinc (v := ((nI j1) + (-1))) (lv' := [(3, .int ((nI j1) + (-1))), (0, .ref x), (1, .int (nI a1)), (2, .int (nI b1))]) X.1 X.2.1 dX9_topAnew_48 hl (k := 3) rfl rfl (by decide) rfl (fun ls hl => ?_)
            refine lv_goto (tgt := 15) X.1 X.2.1 dX9_topAnew_51 (by decide) ?_
            exact ih j1 H locs ls (by omega) (by omega) (by rw [htp]; exact tpI_f (decide_eq_false (fun z => by have := nI_le0 (by omega) c_43; omega))) S (lv_sub hl [1, 2, 3, 0] rfl)
          · subst hQ9
            refine lv_iload_n X.1 X.2.1 dX9_topAnew_46 rfl (lv_at hl 3 rfl) ?_
            refine vx_ret (e_i X hr S (Nat.le_of_ble_eq_true rfl) (Nat.le_of_ble_eq_true rfl) dX9_topAnew_47 ?_)
            simp only [na, nb]
            exact ⟨k1_0 hr_2, by rw [htp]; exact (tpI_t (decide_eq_true ⟨nI_gt0 c_43, of_decide_eq_true c_35⟩)).symm, by trivial⟩
  exact loop (st 0 0 + 1) (st 0 0) _ _ _ (Nat.le_refl _) (by omega) rfl S (lv_sub hl [1, 2, 3, 0] rfl)
