/-! the reference: its public methods -/
def stp (k : Nat) (a b : St) : St := if k = 0 then a else b
theorem s_up_2 (st : St) (A j u v : Nat) : s_up (s_up st A j u) A j v = s_up st A j v := by
  funext B i
  unfold s_up
  split <;> rfl
theorem flood_C {st : St} {k x y tx ty v : Nat} (hx : st 2 k < 16) (hy : st 3 k < 16) : lessC st (floodφ x y tx ty v) k = if x ≤ st 2 k ∧ st 2 k ≤ tx ∧ y ≤ st 3 k ∧ st 3 k ≤ ty then v else 0 := by
  unfold lessC floodφ
  rw [show (16 * st 3 k + st 2 k) % 16 = st 2 k by omega, show (16 * st 3 k + st 2 k) / 16 = st 3 k by omega]
theorem dT {p : Prop} {i : Decidable p} (h : @decide p i = true) : p := of_decide_eq_true h
theorem dF {p : Prop} {i : Decidable p} (h : @decide p i = false) : ¬ p := of_decide_eq_false h
section RME
variable {G : cx_G} {f : Wd} {st : St} {y : Nat} {A : Nat → Nat} {V : Nat → Nat → Int32} {VL : Nat → Nat → Int64} {thr : Int32}
theorem RMx_ground {c k : Nat} (h : RMx G f st y A V VL thr) : RMx G (wu f (A 1) 1001 (eI G 256 (upd (V 1) c (nI k)))) (s_up st 1 c k) y A (vset V 1 (upd (V 1) c (nI k))) VL thr := by
  obtain ⟨h0, ⟨h1, h2, h3, h4, h5, h6, h7, h8⟩, a1, a2, a3, a4⟩ := h
  have kp : ∀ (b t : Nat) (e : va_E), f b = some (t, e) → t ≠ 1001 → wu f (A 1) 1001 (eI G 256 (upd (V 1) c (nI k))) b = some (t, e) := fun b t e hb ht => md_put h1 b t e hb ht
  have e : ∀ B, B ≠ 1 → s_up st 1 c k B = st B := fun B hB => funext fun i => s_up_ne _ (by omega)
  refine ⟨?_, ⟨wu_self _ _ _ _, kp _ _ _ h2 (by omega), kp _ _ _ h3 (by omega), kp _ _ _ h4 (by omega), kp _ _ _ h5 (by omega), kp _ _ _ h6 (by omega), kp _ _ _ h7 (by omega), kp _ _ _ h8 (by omega)⟩, ?_, ?_, ?_, ?_⟩
  · rw [e 0 (by omega)]; exact kp _ _ _ h0 (by omega)
  · intro i hi
    by_cases q : i = c
    · rw [q, s_up_self]; exact pk_us
    · rw [s_up_ne _ (Or.inr q)]; exact (pk_un q).trans (a1 i hi)
  · rw [e 0 (by omega), e 2 (by omega), e 3 (by omega), e 5 (by omega), e 7 (by omega)]; exact a2
  · rw [e 0 (by omega), e 9 (by omega)]; exact a3
  · rw [e 0 (by omega), e 10 (by omega), e 11 (by omega)]; exact a4
theorem RMx_less {φ : Nat → Nat} {w7 : Nat → Int32} {f1 : Wd} {k : Nat} (h : RMx G f st y A V VL thr) (hm : md (fun t => t = 1000 ∨ t = 1007) f f1) (hy : f1 y = some (1000, eMo A (nI (st 0 0)) (nI (st 0 4)) (nI (st 0 1 + 1)) (nI (st 0 2)) (nI (st 0 3)) thr)) (h7 : f1 (A 7) = some (1007, eI G 200 w7)) (hkn : k = st 0 0) (hd : ∀ j, j < k → w7 j = nI (st 7 j - lessC st φ j)) : RMx G f1 (lessSt st φ) y A (vset V 7 w7) VL thr := by
  obtain ⟨h0, ⟨h1, h2, h3, h4, h5, h6, h7b, h8⟩, a1, a2, a3, a4⟩ := h
  have e0 : ∀ i, i ≠ 1 → lessSt st φ 0 i = st 0 i := fun i hi => less_e _ _ (by omega)
  refine ⟨?_, ⟨hm _ _ _ h1 (by omega), hm _ _ _ h2 (by omega), hm _ _ _ h3 (by omega), hm _ _ _ h4 (by omega), h7, hm _ _ _ h6 (by omega), hm _ _ _ h7b (by omega), hm _ _ _ h8 (by omega)⟩, ?_, ?_, ?_, ?_⟩
  · rw [e0 0 (by omega), e0 4 (by omega), e0 2 (by omega), e0 3 (by omega), less_t]; exact hy
  · intro i hi
    rw [less_e (A := 1) _ _ (by omega)]; exact a1 i hi
  · intro j hj
    rw [e0 0 (by omega)] at hj
    rw [less_e (A := 2) _ _ (by omega), less_e (A := 3) _ _ (by omega), less_e (A := 5) _ _ (by omega), less_d _ _ hj]
    exact ⟨(a2 j hj).1, (a2 j hj).2.1, (a2 j hj).2.2.1, hd j (by omega)⟩
  · intro i hi
    rw [e0 2 (by omega)] at hi
    rw [less_e (A := 9) _ _ (by omega)]; exact a3 i hi
  · intro i hi
    rw [e0 3 (by omega)] at hi
    rw [less_e (A := 10) _ _ (by omega), less_e (A := 11) _ _ (by omega)]; exact a4 i hi
theorem RMx_less2 {φ : Nat → Nat} {w7 : Nat → Int32} {f1 : Wd} {k : Nat} {t2 : Int32} (h : RMx G f st y A V VL thr) (hm : md (fun t => t = 1000 ∨ t = 1007) f f1) (hy : f1 y = some (1000, eMo A (nI (st 0 0)) (nI (st 0 4)) (nI (st 0 1 + 1)) (nI (st 0 2)) (nI (st 0 3)) t2)) (h7 : f1 (A 7) = some (1007, eI G 200 w7)) (hkn : k = st 0 0) (hd : ∀ j, j < k → w7 j = nI (st 7 j - lessC st φ j)) : RMx G f1 (lessSt st φ) y A (vset V 7 w7) VL t2 := by
  have h2 := RMx_thr (t2 := t2) h
  refine RMx_less h2 (fun b t e hb ht => ?_) hy h7 hkn hd
  by_cases q : b = y
  · subst q
    rw [wu_self] at hb
    cases hb
    exact absurd (Or.inl rfl) ht
  · rw [wu_ne _ _ _ q] at hb
    exact hm b t e hb ht
theorem RMx_eye {k : Nat} (h : RMx G f st y A V VL thr) : RMx G (wu (wu f (A 9) 1009 (eI G 6 (upd (V 9) (st 0 2) (nI k)))) y 1000 (eMo A (nI (st 0 0)) (nI (st 0 4)) (nI (st 0 1)) (nI (st 0 2 + 1)) (nI (st 0 3)) thr)) (eyeSt st k) y A (vset V 9 (upd (V 9) (st 0 2) (nI k))) VL thr := by
  obtain ⟨h0, ⟨h1, h2, h3, h4, h5, h6, h7, h8⟩, a1, a2, a3, a4⟩ := h
  have hm : md (fun t => t = 1000 ∨ t = 1009) f (wu (wu f (A 9) 1009 (eI G 6 (upd (V 9) (st 0 2) (nI k)))) y 1000 (eMo A (nI (st 0 0)) (nI (st 0 4)) (nI (st 0 1)) (nI (st 0 2 + 1)) (nI (st 0 3)) thr)) := md_tr (md_put h6) (md_put (md_put h6 _ _ _ h0 (by decide))) (fun t q => Or.inr q) (fun t q => Or.inl q)
  have e : ∀ B, B ≠ 0 → B ≠ 9 → eyeSt st k B = st B := fun B h h9 => funext fun i => eye_e _ _ (by omega)
  have z : ∀ i, i ≠ 2 → eyeSt st k 0 i = st 0 i := fun i hi => eye_e _ _ (by omega)
  refine ⟨?_, ⟨hm _ _ _ h1 (by omega), hm _ _ _ h2 (by omega), hm _ _ _ h3 (by omega), hm _ _ _ h4 (by omega), hm _ _ _ h5 (by omega), md_put (md_put h6 _ _ _ h0 (by decide)) _ _ _ (wu_self _ _ _ _) (by decide), hm _ _ _ h7 (by omega), hm _ _ _ h8 (by omega)⟩, ?_, ?_, ?_, ?_⟩
  · rw [z 0 (by omega), z 4 (by omega), z 1 (by omega), z 3 (by omega), eye_n]; exact wu_self _ _ _ _
  · rw [e 1 (by omega) (by omega)]; exact a1
  · rw [z 0 (by omega), e 2 (by omega) (by omega), e 3 (by omega) (by omega), e 5 (by omega) (by omega), e 7 (by omega) (by omega)]; exact a2
  · intro i hi
    rw [eye_n] at hi
    by_cases q : i = st 0 2
    · subst q; rw [eye_9]; exact pk_us
    · rw [eye_e _ _ (by omega)]; exact (pk_un q).trans (a3 i (by omega))
  · rw [z 3 (by omega), e 10 (by omega) (by omega), e 11 (by omega) (by omega)]; exact a4
def vlset (V : Nat → Nat → Int64) (W10 W11 : Nat → Int64) : Nat → Nat → Int64 := fun b => if b = 10 then W10 else if b = 11 then W11 else V b
theorem RMx_anch {u v : Nat} (h : RMx G f st y A V VL thr) : RMx G (wu (wu (wu f (A 10) 1010 (eJ G 8 (vp_updL (VL 10) (st 0 3) (lN u)))) (A 11) 1011 (eJ G 8 (vp_updL (VL 11) (st 0 3) (lN v)))) y 1000 (eMo A (nI (st 0 0)) (nI (st 0 4)) (nI (st 0 1)) (nI (st 0 2)) (nI (st 0 3 + 1)) thr)) (anchSt st u v) y A V (vlset VL (vp_updL (VL 10) (st 0 3) (lN u)) (vp_updL (VL 11) (st 0 3) (lN v))) thr := by
  obtain ⟨h0, ⟨h1, h2, h3, h4, h5, h6, h7, h8⟩, a1, a2, a3, a4⟩ := h
  have m1 := md_put (e1 := eJ G 8 (vp_updL (VL 10) (st 0 3) (lN u))) h7
  have h8b := m1 _ _ _ h8 (by decide)
  have m2 := md_put (e1 := eJ G 8 (vp_updL (VL 11) (st 0 3) (lN v))) h8b
  have h0b := m2 _ _ _ (m1 _ _ _ h0 (by decide)) (by decide)
  have m3 := md_put (e1 := eMo A (nI (st 0 0)) (nI (st 0 4)) (nI (st 0 1)) (nI (st 0 2)) (nI (st 0 3 + 1)) thr) h0b
  have hm := (md_tr (md_tr m1 m2 (fun t q => Or.inl q) (fun t q => Or.inr q) : md (fun t => t = 1010 ∨ t = 1011) _ _) m3 (fun t q => Or.inl q) (fun t q => Or.inr q) : md (fun t => (t = 1010 ∨ t = 1011) ∨ t = 1000) _ _)
  have e : ∀ B, B ≠ 0 → B ≠ 10 → B ≠ 11 → anchSt st u v B = st B := fun B h h9 h10 => funext fun i => anch_e _ _ _ (by omega)
  have z : ∀ i, i ≠ 3 → anchSt st u v 0 i = st 0 i := fun i hi => anch_e _ _ _ (by omega)
  refine ⟨?_, ⟨hm _ _ _ h1 (by omega), hm _ _ _ h2 (by omega), hm _ _ _ h3 (by omega), hm _ _ _ h4 (by omega), hm _ _ _ h5 (by omega), hm _ _ _ h6 (by omega), m3 _ _ _ (m2 _ _ _ (wu_self _ _ _ _) (by decide)) (by decide), m3 _ _ _ (wu_self _ _ _ _) (by decide)⟩, ?_, ?_, ?_, ?_⟩
  · rw [z 0 (by omega), z 4 (by omega), z 1 (by omega), z 2 (by omega), anch_n]; exact wu_self _ _ _ _
  · rw [e 1 (by omega) (by omega) (by omega)]; exact a1
  · rw [z 0 (by omega), e 2 (by omega) (by omega) (by omega), e 3 (by omega) (by omega) (by omega), e 5 (by omega) (by omega) (by omega), e 7 (by omega) (by omega) (by omega)]; exact a2
  · rw [z 2 (by omega), e 9 (by omega) (by omega) (by omega)]; exact a3
  · intro i hi
    rw [anch_n] at hi
    by_cases q : i = st 0 3
    · subst q; rw [anch_10, anch_11]; exact ⟨pk_uLs, pk_uLs⟩
    · rw [anch_e (A := 10) _ _ _ (by omega), anch_e (A := 11) _ _ _ (by omega)]; exact ⟨(pk_uLn q).trans (a4 i (by omega)).1, (pk_uLn q).trans (a4 i (by omega)).2⟩
end RME
set_option maxRecDepth 100000 in
set_option maxHeartbeats 4000000 in
/-- ground -/
theorem n_ground (l : Launch) (G : cx_G) (f : Wd) (st : St) (y : Nat) (A : Nat → Nat) (V : Nat → Nat → Int32) (VL : Nat → Nat → Int64) (thr : Int32) (hI : sInv st) (hM : RMx G f st y A V VL thr) (a b k : Int32) : MI l G yX10_ground wsX10_ground 2 43 0 0 [.ref y, .int a, .int b, .int k] f (fun r f' => RM G f' (stp (k2 (cellP a b) (inI k 0 2)) (s_up st 1 (16 * nN b + nN a) (nN k)) st) y (nI (k2 (cellP a b) (inI k 0 2))) ∧ md tM f f' ∧ ((k2 (cellP a b) (inI k 0 2)) = 0 → r = nI (st 1 (16 * nN b + nN a)))) := by
  refine cx_body (cc := cX10_ground) (n := 5) (ret := (some .int)) (by decide +kernel) rfl (Nat.le_of_ble_eq_true rfl) ?_
  intro p0 e0 s0 m0 b0 meth0 c0 ls X hr hnm S hl
  have X : cxC G p0 l _ c0 cX10_ground 5 m0 meth0 s0 _ RX10 wsX10_ground := X
  have hl : lv_has ls 5 [(0, .ref y), (1, .int a), (2, .int b), (3, .int k)] := hl
  have in_RX10 : ∀ w ∈ u_ws RX10 TX10 14, w ∈ wsX10_ground := by decide +kernel
  obtain ⟨hi0, hi1, hi2, hi3, hi4, hi5, hi6, hi7⟩ := id hI
  obtain ⟨hy, ⟨hA1, hA2, hA3, hA5, hA7, hA9, hA10, hA11⟩, hv1, hvk, hv9, hvL⟩ := id hM
  have mm0 : md tM f f := md_rf _ _
  refine lv_aload_n X.1 X.2.1 dX10_ground_0 rfl (lv_at hl 0 rfl) ?_
  refine lv_iload_n X.1 X.2.1 dX10_ground_1 rfl (lv_at hl 1 rfl) ?_
  refine lv_iload_n X.1 X.2.1 dX10_ground_2 rfl (lv_at hl 2 rfl) ?_
  refine call_ip (run_S X S (n_isCell l G f a b) 2 gX10_ground_X10_isCell rfl rfl rfl (by decide +kernel) ⟨(by exact Nat.le_of_ble_eq_true rfl), (by exact Nat.le_of_ble_eq_true rfl)⟩ rfl hl.1 rfl (by exact Nat.le_of_ble_eq_true rfl) dX10_ground_3 ⟨(Nat.zero_le _), (Nat.zero_le _)⟩) S (fun r_3 H locs hr_3 S => ?_)
  subst hr_3
  refine r_neB (tgt := 13) X dX10_ground_6 (by decide) (fun c_6 => ?_) (fun c_6 => ?_)
  · refine lv_iload_n X.1 X.2.1 dX10_ground_13 rfl (lv_at hl 3 rfl) ?_
    refine lv_iconst (v := 0) X.1 X.2.1 dX10_ground_14 (by decide) ?_
    refine lv_iconst (v := 2) X.1 X.2.1 dX10_ground_15 (by decide) ?_
    refine call_ip (run_S X S (n_isIn l G f k 0 2 0 2 (by decide) (by decide)) 3 gX10_ground_X10_isIn rfl rfl rfl (by decide +kernel) ⟨(by exact Nat.le_of_ble_eq_true rfl), (by exact Nat.le_of_ble_eq_true rfl)⟩ rfl hl.1 rfl (by exact Nat.le_of_ble_eq_true rfl) dX10_ground_16 ⟨(Nat.zero_le _), (Nat.zero_le _)⟩) S (fun r_16 H locs hr_16 S => ?_)
    subst hr_16
    refine r_eqB (tgt := 26) X dX10_ground_19 (by decide) (fun c_19 => ?_) (fun c_19 => ?_)
    · refine lv_iconst (v := 2) X.1 X.2.1 dX10_ground_26 (by decide) ?_
      refine call_i (run_V X S (n_can l G f y A (nI (st 0 0)) (nI (st 0 4)) (nI (st 0 1)) (nI (st 0 2)) (nI (st 0 3)) thr hy 2 (by omega)) 1 gX10_ground_X10_can rfl rfl rfl (by decide +kernel) ⟨(by exact Nat.le_of_ble_eq_true rfl), (by exact Nat.le_of_ble_eq_true rfl)⟩ ⟨_, _, hy⟩ rfl rfl rfl hl.1 rfl (by exact Nat.le_of_ble_eq_true rfl) dX10_ground_27 ⟨(by exact Nat.le_of_ble_eq_true rfl), (by exact Nat.le_of_ble_eq_true rfl)⟩) S (fun r_27 f_27 H locs hr_27 S => ?_)
      obtain ⟨rfl, e_can⟩ := hr_27
      have hy_27 : f_27 y = some (1000, .inr (10, [.ref (A 1), .int (nI (st 0 0)), .ref (A 2), .ref (A 3), .ref (A 5), .ref (A 7), .int (nI (st 0 4)), .int (nI (st 0 1)), .int (nI (st 0 2)), .ref (A 9), .int (nI (st 0 3)), .ref (A 10), .ref (A 11), .int (nI 2)])) := by rw [e_can]; exact wu_self _ _ _ _
      have hA1_27 : f_27 (A 1) = some (1001, eI G 256 (V 1)) := by rw [e_can]; exact wu_get hy hA1 (by decide)
      have mm_27 : md tM f f_27 := by rw [e_can]; exact md_tr mm0 (md_put hy) (fun _ q => q) (fun t q => by subst q; unfold tM; omega)
      have hM0 : RMx G f_27 st y A V VL (nI 2) := by rw [e_can]; exact RMx_thr hM
      refine r_toi (y := 0) (by rfl) ?_
      have hKC : (k2 (cellP a b) (inI k 0 2)) = 2 := k2_2 (dT c_6) (dF c_19)
      refine lv_if_ne (x := 0) (tgt := 35) X.1 X.2.1 dX10_ground_30 (by decide) (fun c_30 => by first | exact absurd c_30 (by decide) | exact absurd (by decide) c_30) (fun c_30 => ?_)
      refine lv_iconst (v := 0) X.1 X.2.1 dX10_ground_33 (by decide) ?_
      refine e_i X hr S (Nat.le_of_ble_eq_true rfl) (Nat.le_of_ble_eq_true rfl) dX10_ground_34 ?_
      rw [hKC]
      exact ⟨⟨A, V, VL, hM0⟩, mm_27, fun z => absurd z (by decide)⟩
    · refine lv_iconst (v := 0) X.1 X.2.1 dX10_ground_22 (by decide) ?_
      refine lv_goto (tgt := 27) X.1 X.2.1 dX10_ground_23 (by decide) ?_
      refine call_i (run_V X S (n_can l G f y A (nI (st 0 0)) (nI (st 0 4)) (nI (st 0 1)) (nI (st 0 2)) (nI (st 0 3)) thr hy 0 (by omega)) 1 gX10_ground_X10_can rfl rfl rfl (by decide +kernel) ⟨(by exact Nat.le_of_ble_eq_true rfl), (by exact Nat.le_of_ble_eq_true rfl)⟩ ⟨_, _, hy⟩ rfl rfl rfl hl.1 rfl (by exact Nat.le_of_ble_eq_true rfl) dX10_ground_27 ⟨(by exact Nat.le_of_ble_eq_true rfl), (by exact Nat.le_of_ble_eq_true rfl)⟩) S (fun r_27 f_27 H locs hr_27 S => ?_)
      obtain ⟨rfl, e_can⟩ := hr_27
      have hy_27 : f_27 y = some (1000, .inr (10, [.ref (A 1), .int (nI (st 0 0)), .ref (A 2), .ref (A 3), .ref (A 5), .ref (A 7), .int (nI (st 0 4)), .int (nI (st 0 1)), .int (nI (st 0 2)), .ref (A 9), .int (nI (st 0 3)), .ref (A 10), .ref (A 11), .int (nI 0)])) := by rw [e_can]; exact wu_self _ _ _ _
      have hA1_27 : f_27 (A 1) = some (1001, eI G 256 (V 1)) := by rw [e_can]; exact wu_get hy hA1 (by decide)
      have mm_27 : md tM f f_27 := by rw [e_can]; exact md_tr mm0 (md_put hy) (fun _ q => q) (fun t q => by subst q; unfold tM; omega)
      have hM0 : RMx G f_27 st y A V VL (nI 0) := by rw [e_can]; exact RMx_thr hM
      refine r_toi (y := 1) (by rfl) ?_
      have hP1 : cellP a b := dT c_6
      have hP2 : inI k 0 2 := dT c_19
      have hKC : (k2 (cellP a b) (inI k 0 2)) = 0 := k2_0 hP1 hP2
      obtain ⟨a1, rfl, alo, aup, abd⟩ := inI_sub hP1.1 (by omega)
      have na : nN (nI a1) = a1 := nN_nI abd
      obtain ⟨b1, rfl, blo, bup, bbd⟩ := inI_sub hP1.2 (by omega)
      have nb : nN (nI b1) = b1 := nN_nI bbd
      obtain ⟨k1, rfl, klo, kup, kbd⟩ := inI_sub hP2 (by omega)
      have nk : nN (nI k1) = k1 := nN_nI kbd
      refine lv_if_ne (x := 1) (tgt := 35) X.1 X.2.1 dX10_ground_30 (by decide) (fun c_30 => ?_) (fun c_30 => by first | exact absurd c_30 (by decide) | exact absurd (by decide) c_30)
      refine lv_aload_n X.1 X.2.1 dX10_ground_35 rfl (lv_at hl 0 rfl) ?_
      refine r_get (C := RX10) (T := TX10) (N := 14) (ref := "CraterclockModel") X S in_RX10 hy_27 rfl 0 (by decide) (by decide +kernel) (fun _ h => h) rfl dX10_ground_36 ?_
      refine lv_bipush (v := 16) X.1 X.2.1 dX10_ground_39 (by decide) ?_
      refine lv_iload_n X.1 X.2.1 dX10_ground_41 rfl (lv_at hl 2 rfl) ?_
      refine lv_imul X.1 X.2.1 dX10_ground_42 ?_
      refine lv_iload_n X.1 X.2.1 dX10_ground_43 rfl (lv_at hl 1 rfl) ?_
      refine lv_iadd X.1 X.2.1 dX10_ground_44 ?_
      refine r_toi (y := nI (16 * b1 + a1)) (by rw [show (16 : Int32) = nI 16 from rfl, pk_mul, nI_add]) ?_
      refine r_iald (v := (nI (st 1 (16 * b1 + a1)))) X S hA1_27 (vp_in_nI (by omega) (by omega)) (by rw [nI_clamp (by omega)]; exact hv1 _ (by omega)) dX10_ground_45 ?_
      refine lv_istore (lv' := [(4, .int (nI (st 1 (16 * b1 + a1)))), (0, .ref y), (1, .int (nI a1)), (2, .int (nI b1)), (3, .int (nI k1))]) X.1 X.2.1 dX10_ground_46 hl (by decide) rfl (fun ls hl => ?_)
      refine lv_aload_n X.1 X.2.1 dX10_ground_48 rfl (lv_at hl 1 rfl) ?_
      refine r_get (C := RX10) (T := TX10) (N := 14) (ref := "CraterclockModel") X S in_RX10 hy_27 rfl 0 (by decide) (by decide +kernel) (fun _ h => h) rfl dX10_ground_49 ?_
      refine lv_bipush (v := 16) X.1 X.2.1 dX10_ground_52 (by decide) ?_
      refine lv_iload_n X.1 X.2.1 dX10_ground_54 rfl (lv_at hl 3 rfl) ?_
      refine lv_imul X.1 X.2.1 dX10_ground_55 ?_
      refine lv_iload_n X.1 X.2.1 dX10_ground_56 rfl (lv_at hl 2 rfl) ?_
      refine lv_iadd X.1 X.2.1 dX10_ground_57 ?_
      refine r_toi (y := nI (16 * b1 + a1)) (by rw [show (16 : Int32) = nI 16 from rfl, pk_mul, nI_add]) ?_
      refine lv_iload_n X.1 X.2.1 dX10_ground_58 rfl (lv_at hl 4 rfl) ?_
      refine r_iast X S hA1_27 (by decide) (vp_in_nI (show (16 * b1 + a1) < 256 by omega) (by omega)) dX10_ground_59 (fun H locs S => ?_)
      rw [nI_clamp (by omega)] at S
      obtain ⟨f_59, ef_59⟩ : ∃ z9 : Wd, z9 = wu f_27 (A 1) 1001 (eI G 256 (upd (V 1) (16 * b1 + a1) (nI k1))) := ⟨_, rfl⟩
      rw [← ef_59] at S
      have hy_59 : f_59 y = some (1000, .inr (10, [.ref (A 1), .int (nI (st 0 0)), .ref (A 2), .ref (A 3), .ref (A 5), .ref (A 7), .int (nI (st 0 4)), .int (nI (st 0 1)), .int (nI (st 0 2)), .ref (A 9), .int (nI (st 0 3)), .ref (A 10), .ref (A 11), .int (nI 0)])) := by rw [ef_59]; exact wu_get hA1_27 hy_27 (by decide)
      have hA1_59 : f_59 (A 1) = some (1001, eI G 256 (upd (V 1) (16 * b1 + a1) (nI k1))) := by rw [ef_59]; exact wu_self _ _ _ _
      have mm_59 : md tM f f_59 := by rw [ef_59]; exact md_tr mm_27 (md_put hA1_27) (fun _ q => q) (fun t q => by subst q; unfold tM; omega)
      refine lv_iload X.1 X.2.1 dX10_ground_60 (lv_at hl 0 rfl) ?_
      refine e_i X hr S (Nat.le_of_ble_eq_true rfl) (Nat.le_of_ble_eq_true rfl) dX10_ground_62 ?_
      rw [hKC]
      refine ⟨?_, mm_59, fun _ => ?_⟩
      · rw [na, nb, nk]; exact ⟨A, _, VL, by rw [ef_59]; exact RMx_ground hM0⟩
      · rw [na, nb]
  · refine lv_iconst (v := 1) X.1 X.2.1 dX10_ground_9 (by decide) ?_
    refine lv_goto (tgt := 27) X.1 X.2.1 dX10_ground_10 (by decide) ?_
    refine call_i (run_V X S (n_can l G f y A (nI (st 0 0)) (nI (st 0 4)) (nI (st 0 1)) (nI (st 0 2)) (nI (st 0 3)) thr hy 1 (by omega)) 1 gX10_ground_X10_can rfl rfl rfl (by decide +kernel) ⟨(by exact Nat.le_of_ble_eq_true rfl), (by exact Nat.le_of_ble_eq_true rfl)⟩ ⟨_, _, hy⟩ rfl rfl rfl hl.1 rfl (by exact Nat.le_of_ble_eq_true rfl) dX10_ground_27 ⟨(by exact Nat.le_of_ble_eq_true rfl), (by exact Nat.le_of_ble_eq_true rfl)⟩) S (fun r_27 f_27 H locs hr_27 S => ?_)
    obtain ⟨rfl, e_can⟩ := hr_27
    have hy_27 : f_27 y = some (1000, .inr (10, [.ref (A 1), .int (nI (st 0 0)), .ref (A 2), .ref (A 3), .ref (A 5), .ref (A 7), .int (nI (st 0 4)), .int (nI (st 0 1)), .int (nI (st 0 2)), .ref (A 9), .int (nI (st 0 3)), .ref (A 10), .ref (A 11), .int (nI 1)])) := by rw [e_can]; exact wu_self _ _ _ _
    have hA1_27 : f_27 (A 1) = some (1001, eI G 256 (V 1)) := by rw [e_can]; exact wu_get hy hA1 (by decide)
    have mm_27 : md tM f f_27 := by rw [e_can]; exact md_tr mm0 (md_put hy) (fun _ q => q) (fun t q => by subst q; unfold tM; omega)
    have hM0 : RMx G f_27 st y A V VL (nI 1) := by rw [e_can]; exact RMx_thr hM
    refine r_toi (y := 0) (by rfl) ?_
    have hKC : (k2 (cellP a b) (inI k 0 2)) = 1 := k2_1 (dF c_6)
    refine lv_if_ne (x := 0) (tgt := 35) X.1 X.2.1 dX10_ground_30 (by decide) (fun c_30 => by first | exact absurd c_30 (by decide) | exact absurd (by decide) c_30) (fun c_30 => ?_)
    refine lv_iconst (v := 0) X.1 X.2.1 dX10_ground_33 (by decide) ?_
    refine e_i X hr S (Nat.le_of_ble_eq_true rfl) (Nat.le_of_ble_eq_true rfl) dX10_ground_34 ?_
    rw [hKC]
    exact ⟨⟨A, V, VL, hM0⟩, mm_27, fun z => absurd z (by decide)⟩

set_option maxRecDepth 100000 in
set_option maxHeartbeats 4000000 in
/-- stone -/
theorem n_stone (l : Launch) (G : cx_G) (f : Wd) (st : St) (y : Nat) (A : Nat → Nat) (V : Nat → Nat → Int32) (VL : Nat → Nat → Int64) (thr : Int32) (hI : sInv st) (hM : RMx G f st y A V VL thr) (a b z : Int32) : MI l G yX10_stone wsX10_stone 2 53 0 0 [.ref y, .int a, .int b, .int z] f (fun r f' => RM G f' (stp (k3 (cellP a b) (inI z 1 6) (st 0 0 + 1 ≤ 200)) (fallSt st (nN a) (nN b) (nN z)) st) y (nI (k3 (cellP a b) (inI z 1 6) (st 0 0 + 1 ≤ 200))) ∧ md tM f f' ∧ ((k3 (cellP a b) (inI z 1 6) (st 0 0 + 1 ≤ 200)) = 0 → r = nI (cn (goneB st (nN a) (nN b) (nN z)) (st 0 0)))) := by
  refine cx_body (cc := cX10_stone) (n := 6) (ret := (some .int)) (by decide +kernel) rfl (Nat.le_of_ble_eq_true rfl) ?_
  intro p0 e0 s0 m0 b0 meth0 c0 ls X hr hnm S hl
  have X : cxC G p0 l _ c0 cX10_stone 6 m0 meth0 s0 _ RX10 wsX10_stone := X
  have hl : lv_has ls 6 [(0, .ref y), (1, .int a), (2, .int b), (3, .int z)] := hl
  have in_RX10 : ∀ w ∈ u_ws RX10 TX10 14, w ∈ wsX10_stone := by decide +kernel
  obtain ⟨hi0, hi1, hi2, hi3, hi4, hi5, hi6, hi7⟩ := id hI
  obtain ⟨hy, ⟨hA1, hA2, hA3, hA5, hA7, hA9, hA10, hA11⟩, hv1, hvk, hv9, hvL⟩ := id hM
  have mm0 : md tM f f := md_rf _ _
  refine lv_iload_n X.1 X.2.1 dX10_stone_0 rfl (lv_at hl 1 rfl) ?_
  refine lv_iload_n X.1 X.2.1 dX10_stone_1 rfl (lv_at hl 2 rfl) ?_
  refine call_ip (run_S X S (n_isCell l G f a b) 2 gX10_stone_X10_isCell rfl rfl rfl (by decide +kernel) ⟨(by exact Nat.le_of_ble_eq_true rfl), (by exact Nat.le_of_ble_eq_true rfl)⟩ rfl hl.1 rfl (by exact Nat.le_of_ble_eq_true rfl) dX10_stone_2 ⟨(Nat.zero_le _), (Nat.zero_le _)⟩) S (fun r_2 H locs hr_2 S => ?_)
  subst hr_2
  refine lv_istore (lv' := [(4, .int (b2i (decide ((0 ≤ a.toInt ∧ a.toInt ≤ 15) ∧ (0 ≤ b.toInt ∧ b.toInt ≤ 15))))), (0, .ref y), (1, .int a), (2, .int b), (3, .int z)]) X.1 X.2.1 dX10_stone_5 hl (by decide) rfl (fun ls hl => ?_)
  refine lv_iload_n X.1 X.2.1 dX10_stone_7 rfl (lv_at hl 4 rfl) ?_
  refine lv_iconst (v := 1) X.1 X.2.1 dX10_stone_8 (by decide) ?_
  refine lv_bipush (v := 6) X.1 X.2.1 dX10_stone_9 (by decide) ?_
  refine call_ip (run_S X S (n_isIn l G f z 1 6 1 6 (by decide) (by decide)) 3 gX10_stone_X10_isIn rfl rfl rfl (by decide +kernel) ⟨(by exact Nat.le_of_ble_eq_true rfl), (by exact Nat.le_of_ble_eq_true rfl)⟩ rfl hl.1 rfl (by exact Nat.le_of_ble_eq_true rfl) dX10_stone_11 ⟨(Nat.zero_le _), (Nat.zero_le _)⟩) S (fun r_11 H locs hr_11 S => ?_)
  subst hr_11
  refine lv_istore (lv' := [(5, .int (b2i (decide (1 ≤ (z).toInt ∧ (z).toInt ≤ 6)))), (4, .int (b2i (decide ((0 ≤ a.toInt ∧ a.toInt ≤ 15) ∧ (0 ≤ b.toInt ∧ b.toInt ≤ 15))))), (0, .ref y), (1, .int a), (2, .int b), (3, .int z)]) X.1 X.2.1 dX10_stone_14 hl (by decide) rfl (fun ls hl => ?_)
  refine lv_aload_n X.1 X.2.1 dX10_stone_16 rfl (lv_at hl 2 rfl) ?_
  refine lv_iload X.1 X.2.1 dX10_stone_17 (lv_at hl 1 rfl) ?_
  refine r_neB (tgt := 26) X dX10_stone_19 (by decide) (fun c_19 => ?_) (fun c_19 => ?_)
  · refine lv_iload X.1 X.2.1 dX10_stone_26 (lv_at hl 0 rfl) ?_
    refine r_neB (tgt := 35) X dX10_stone_28 (by decide) (fun c_28 => ?_) (fun c_28 => ?_)
    · refine lv_aload_n X.1 X.2.1 dX10_stone_35 rfl (lv_at hl 2 rfl) ?_
      refine r_get (C := RX10) (T := TX10) (N := 14) (ref := "CraterclockModel") X S in_RX10 hy rfl 1 (by decide) (by decide +kernel) (fun _ h => h) rfl dX10_stone_36 ?_
      refine lv_sipush (v := 200) X.1 X.2.1 dX10_stone_39 (by decide) ?_
      refine lv_icmp_ne (tgt := 49) X.1 X.2.1 dX10_stone_42 (by decide) (fun c_42 => ?_) (fun c_42 => ?_)
      · refine lv_iconst (v := 0) X.1 X.2.1 dX10_stone_49 (by decide) ?_
        refine call_i (run_V X S (n_can l G f y A (nI (st 0 0)) (nI (st 0 4)) (nI (st 0 1)) (nI (st 0 2)) (nI (st 0 3)) thr hy 0 (by omega)) 1 gX10_stone_X10_can rfl rfl rfl (by decide +kernel) ⟨(by exact Nat.le_of_ble_eq_true rfl), (by exact Nat.le_of_ble_eq_true rfl)⟩ ⟨_, _, hy⟩ rfl rfl rfl hl.1 rfl (by exact Nat.le_of_ble_eq_true rfl) dX10_stone_50 ⟨(by exact Nat.le_of_ble_eq_true rfl), (by exact Nat.le_of_ble_eq_true rfl)⟩) S (fun r_50 f_50 H locs hr_50 S => ?_)
        obtain ⟨rfl, e_can⟩ := hr_50
        have hy_50 : f_50 y = some (1000, .inr (10, [.ref (A 1), .int (nI (st 0 0)), .ref (A 2), .ref (A 3), .ref (A 5), .ref (A 7), .int (nI (st 0 4)), .int (nI (st 0 1)), .int (nI (st 0 2)), .ref (A 9), .int (nI (st 0 3)), .ref (A 10), .ref (A 11), .int (nI 0)])) := by rw [e_can]; exact wu_self _ _ _ _
        have mm_50 : md tM f f_50 := by rw [e_can]; exact md_tr mm0 (md_put hy) (fun _ q => q) (fun t q => by subst q; unfold tM; omega)
        have hM0 : RMx G f_50 st y A V VL (nI 0) := by rw [e_can]; exact RMx_thr hM
        refine r_toi (y := 1) (by rfl) ?_
        have hP1 : cellP a b := dT c_19
        have hP2 : inI z 1 6 := dT c_28
        have hP3 : st 0 0 + 1 ≤ 200 := by have h9 : st 0 0 ≠ 200 := (fun z => c_42 (by rw [z]; rfl)); omega
        have hKC : (k3 (cellP a b) (inI z 1 6) (st 0 0 + 1 ≤ 200)) = 0 := k3_0 hP1 hP2 hP3
        obtain ⟨a1, rfl, alo, aup, abd⟩ := inI_sub hP1.1 (by omega)
        have na : nN (nI a1) = a1 := nN_nI abd
        obtain ⟨b1, rfl, blo, bup, bbd⟩ := inI_sub hP1.2 (by omega)
        have nb : nN (nI b1) = b1 := nN_nI bbd
        obtain ⟨z1, rfl, zlo, zup, zbd⟩ := inI_sub hP2 (by omega)
        have nz : nN (nI z1) = z1 := nN_nI zbd
        refine lv_if_eq (x := 1) (tgt := 66) X.1 X.2.1 dX10_stone_53 (by decide) (fun c_53 => by first | exact absurd c_53 (by decide) | exact absurd (by decide) c_53) (fun c_53 => ?_)
        refine lv_aload_n X.1 X.2.1 dX10_stone_56 rfl (lv_at hl 2 rfl) ?_
        refine lv_iload_n X.1 X.2.1 dX10_stone_57 rfl (lv_at hl 3 rfl) ?_
        refine lv_iload_n X.1 X.2.1 dX10_stone_58 rfl (lv_at hl 4 rfl) ?_
        refine lv_iload_n X.1 X.2.1 dX10_stone_59 rfl (lv_at hl 5 rfl) ?_
        refine call_i (run_V X S (n_falls l G f_50 st y A V VL (nI 0) hI hM0 a1 b1 z1 (by omega) (by omega) (by omega) (by omega) (by omega)) 3 gX10_stone_X10_falls rfl rfl rfl (by decide +kernel) ⟨(by exact Nat.le_of_ble_eq_true rfl), (by exact Nat.le_of_ble_eq_true rfl)⟩ ⟨_, _, hy_50⟩ rfl rfl rfl hl.1 rfl (by exact Nat.le_of_ble_eq_true rfl) dX10_stone_60 ⟨(by exact Nat.le_of_ble_eq_true rfl), (by exact Nat.le_of_ble_eq_true rfl)⟩) S (fun r_60 f_60 H locs hr_60 S => ?_)
        have mm_60 : md tM f f_60 := md_tr mm_50 hr_60.2.2 (fun _ q => q) (fun _ q => q)
        refine lv_goto (tgt := 67) X.1 X.2.1 dX10_stone_63 (by decide) ?_
        refine e_i X hr S (Nat.le_of_ble_eq_true rfl) (Nat.le_of_ble_eq_true rfl) dX10_stone_67 ?_
        rw [hKC]
        refine ⟨?_, mm_60, fun _ => ?_⟩
        · rw [na, nb, nz]; exact hr_60.2.1
        · rw [na, nb, nz]; exact hr_60.1
      · refine lv_iconst (v := 3) X.1 X.2.1 dX10_stone_45 (by decide) ?_
        refine lv_goto (tgt := 50) X.1 X.2.1 dX10_stone_46 (by decide) ?_
        refine call_i (run_V X S (n_can l G f y A (nI (st 0 0)) (nI (st 0 4)) (nI (st 0 1)) (nI (st 0 2)) (nI (st 0 3)) thr hy 3 (by omega)) 1 gX10_stone_X10_can rfl rfl rfl (by decide +kernel) ⟨(by exact Nat.le_of_ble_eq_true rfl), (by exact Nat.le_of_ble_eq_true rfl)⟩ ⟨_, _, hy⟩ rfl rfl rfl hl.1 rfl (by exact Nat.le_of_ble_eq_true rfl) dX10_stone_50 ⟨(by exact Nat.le_of_ble_eq_true rfl), (by exact Nat.le_of_ble_eq_true rfl)⟩) S (fun r_50 f_50 H locs hr_50 S => ?_)
        obtain ⟨rfl, e_can⟩ := hr_50
        have hy_50 : f_50 y = some (1000, .inr (10, [.ref (A 1), .int (nI (st 0 0)), .ref (A 2), .ref (A 3), .ref (A 5), .ref (A 7), .int (nI (st 0 4)), .int (nI (st 0 1)), .int (nI (st 0 2)), .ref (A 9), .int (nI (st 0 3)), .ref (A 10), .ref (A 11), .int (nI 3)])) := by rw [e_can]; exact wu_self _ _ _ _
        have mm_50 : md tM f f_50 := by rw [e_can]; exact md_tr mm0 (md_put hy) (fun _ q => q) (fun t q => by subst q; unfold tM; omega)
        have hM0 : RMx G f_50 st y A V VL (nI 3) := by rw [e_can]; exact RMx_thr hM
        refine r_toi (y := 0) (by rfl) ?_
        have hKC : (k3 (cellP a b) (inI z 1 6) (st 0 0 + 1 ≤ 200)) = 3 := k3_3 (dT c_19) (dT c_28) (fun z => by have := (nI_eq (b := 200) (by omega) (by omega)).mp c_42; omega)
        refine lv_if_eq (x := 0) (tgt := 66) X.1 X.2.1 dX10_stone_53 (by decide) (fun c_53 => ?_) (fun c_53 => by first | exact absurd c_53 (by decide) | exact absurd (by decide) c_53)
        refine lv_iconst (v := 0) X.1 X.2.1 dX10_stone_66 (by decide) ?_
        refine e_i X hr S (Nat.le_of_ble_eq_true rfl) (Nat.le_of_ble_eq_true rfl) dX10_stone_67 ?_
        rw [hKC]
        exact ⟨⟨A, V, VL, hM0⟩, mm_50, fun z => absurd z (by decide)⟩
    · refine lv_iconst (v := 2) X.1 X.2.1 dX10_stone_31 (by decide) ?_
      refine lv_goto (tgt := 50) X.1 X.2.1 dX10_stone_32 (by decide) ?_
      refine call_i (run_V X S (n_can l G f y A (nI (st 0 0)) (nI (st 0 4)) (nI (st 0 1)) (nI (st 0 2)) (nI (st 0 3)) thr hy 2 (by omega)) 1 gX10_stone_X10_can rfl rfl rfl (by decide +kernel) ⟨(by exact Nat.le_of_ble_eq_true rfl), (by exact Nat.le_of_ble_eq_true rfl)⟩ ⟨_, _, hy⟩ rfl rfl rfl hl.1 rfl (by exact Nat.le_of_ble_eq_true rfl) dX10_stone_50 ⟨(by exact Nat.le_of_ble_eq_true rfl), (by exact Nat.le_of_ble_eq_true rfl)⟩) S (fun r_50 f_50 H locs hr_50 S => ?_)
      obtain ⟨rfl, e_can⟩ := hr_50
      have hy_50 : f_50 y = some (1000, .inr (10, [.ref (A 1), .int (nI (st 0 0)), .ref (A 2), .ref (A 3), .ref (A 5), .ref (A 7), .int (nI (st 0 4)), .int (nI (st 0 1)), .int (nI (st 0 2)), .ref (A 9), .int (nI (st 0 3)), .ref (A 10), .ref (A 11), .int (nI 2)])) := by rw [e_can]; exact wu_self _ _ _ _
      have mm_50 : md tM f f_50 := by rw [e_can]; exact md_tr mm0 (md_put hy) (fun _ q => q) (fun t q => by subst q; unfold tM; omega)
      have hM0 : RMx G f_50 st y A V VL (nI 2) := by rw [e_can]; exact RMx_thr hM
      refine r_toi (y := 0) (by rfl) ?_
      have hKC : (k3 (cellP a b) (inI z 1 6) (st 0 0 + 1 ≤ 200)) = 2 := k3_2 (dT c_19) (dF c_28)
      refine lv_if_eq (x := 0) (tgt := 66) X.1 X.2.1 dX10_stone_53 (by decide) (fun c_53 => ?_) (fun c_53 => by first | exact absurd c_53 (by decide) | exact absurd (by decide) c_53)
      refine lv_iconst (v := 0) X.1 X.2.1 dX10_stone_66 (by decide) ?_
      refine e_i X hr S (Nat.le_of_ble_eq_true rfl) (Nat.le_of_ble_eq_true rfl) dX10_stone_67 ?_
      rw [hKC]
      exact ⟨⟨A, V, VL, hM0⟩, mm_50, fun z => absurd z (by decide)⟩
  · refine lv_iconst (v := 1) X.1 X.2.1 dX10_stone_22 (by decide) ?_
    refine lv_goto (tgt := 50) X.1 X.2.1 dX10_stone_23 (by decide) ?_
    refine call_i (run_V X S (n_can l G f y A (nI (st 0 0)) (nI (st 0 4)) (nI (st 0 1)) (nI (st 0 2)) (nI (st 0 3)) thr hy 1 (by omega)) 1 gX10_stone_X10_can rfl rfl rfl (by decide +kernel) ⟨(by exact Nat.le_of_ble_eq_true rfl), (by exact Nat.le_of_ble_eq_true rfl)⟩ ⟨_, _, hy⟩ rfl rfl rfl hl.1 rfl (by exact Nat.le_of_ble_eq_true rfl) dX10_stone_50 ⟨(by exact Nat.le_of_ble_eq_true rfl), (by exact Nat.le_of_ble_eq_true rfl)⟩) S (fun r_50 f_50 H locs hr_50 S => ?_)
    obtain ⟨rfl, e_can⟩ := hr_50
    have hy_50 : f_50 y = some (1000, .inr (10, [.ref (A 1), .int (nI (st 0 0)), .ref (A 2), .ref (A 3), .ref (A 5), .ref (A 7), .int (nI (st 0 4)), .int (nI (st 0 1)), .int (nI (st 0 2)), .ref (A 9), .int (nI (st 0 3)), .ref (A 10), .ref (A 11), .int (nI 1)])) := by rw [e_can]; exact wu_self _ _ _ _
    have mm_50 : md tM f f_50 := by rw [e_can]; exact md_tr mm0 (md_put hy) (fun _ q => q) (fun t q => by subst q; unfold tM; omega)
    have hM0 : RMx G f_50 st y A V VL (nI 1) := by rw [e_can]; exact RMx_thr hM
    refine r_toi (y := 0) (by rfl) ?_
    have hKC : (k3 (cellP a b) (inI z 1 6) (st 0 0 + 1 ≤ 200)) = 1 := k3_1 (dF c_19)
    refine lv_if_eq (x := 0) (tgt := 66) X.1 X.2.1 dX10_stone_53 (by decide) (fun c_53 => ?_) (fun c_53 => by first | exact absurd c_53 (by decide) | exact absurd (by decide) c_53)
    refine lv_iconst (v := 0) X.1 X.2.1 dX10_stone_66 (by decide) ?_
    refine e_i X hr S (Nat.le_of_ble_eq_true rfl) (Nat.le_of_ble_eq_true rfl) dX10_stone_67 ?_
    rw [hKC]
    exact ⟨⟨A, V, VL, hM0⟩, mm_50, fun z => absurd z (by decide)⟩

set_option maxRecDepth 100000 in
set_option maxHeartbeats 4000000 in
/-- draw -/
theorem n_draw (l : Launch) (G : cx_G) (f : Wd) (st : St) (y : Nat) (A : Nat → Nat) (V : Nat → Nat → Int32) (VL : Nat → Nat → Int64) (thr : Int32) (hI : sInv st) (hM : RMx G f st y A V VL thr) (a : Int32) : MI l G yX10_draw wsX10_draw 1 22 0 0 [.ref y, .int a] f (fun r f' => RM G f' (stp (k1 (inI a 1 65536)) (s_up st 0 4 (nN a)) st) y (nI (k1 (inI a 1 65536))) ∧ md tM f f' ∧ ((k1 (inI a 1 65536)) = 0 → r = nI (st 0 4))) := by
  refine cx_body (cc := cX10_draw) (n := 3) (ret := (some .int)) (by decide +kernel) rfl (Nat.le_of_ble_eq_true rfl) ?_
  intro p0 e0 s0 m0 b0 meth0 c0 ls X hr hnm S hl
  have X : cxC G p0 l _ c0 cX10_draw 3 m0 meth0 s0 _ RX10 wsX10_draw := X
  have hl : lv_has ls 3 [(0, .ref y), (1, .int a)] := hl
  have in_RX10 : ∀ w ∈ u_ws RX10 TX10 14, w ∈ wsX10_draw := by decide +kernel
  obtain ⟨hi0, hi1, hi2, hi3, hi4, hi5, hi6, hi7⟩ := id hI
  obtain ⟨hy, ⟨hA1, hA2, hA3, hA5, hA7, hA9, hA10, hA11⟩, hv1, hvk, hv9, hvL⟩ := id hM
  have mm0 : md tM f f := md_rf _ _
  refine lv_aload_n X.1 X.2.1 dX10_draw_0 rfl (lv_at hl 0 rfl) ?_
  refine lv_iload_n X.1 X.2.1 dX10_draw_1 rfl (lv_at hl 1 rfl) ?_
  refine lv_iconst (v := 1) X.1 X.2.1 dX10_draw_2 (by decide) ?_
  refine r_ldc (v := 65536) X (by decide +kernel) dX10_draw_3 ?_
  refine call_ip (run_S X S (n_isIn l G f a 1 65536 1 65536 (by decide +kernel) (by decide +kernel)) 3 gX10_draw_X10_isIn rfl rfl rfl (by decide +kernel) ⟨(by exact Nat.le_of_ble_eq_true rfl), (by exact Nat.le_of_ble_eq_true rfl)⟩ rfl hl.1 rfl (by exact Nat.le_of_ble_eq_true rfl) dX10_draw_5 ⟨(Nat.zero_le _), (Nat.zero_le _)⟩) S (fun r_5 H locs hr_5 S => ?_)
  subst hr_5
  refine r_eqB (tgt := 15) X dX10_draw_8 (by decide) (fun c_8 => ?_) (fun c_8 => ?_)
  · refine lv_iconst (v := 1) X.1 X.2.1 dX10_draw_15 (by decide) ?_
    refine call_i (run_V X S (n_can l G f y A (nI (st 0 0)) (nI (st 0 4)) (nI (st 0 1)) (nI (st 0 2)) (nI (st 0 3)) thr hy 1 (by omega)) 1 gX10_draw_X10_can rfl rfl rfl (by decide +kernel) ⟨(by exact Nat.le_of_ble_eq_true rfl), (by exact Nat.le_of_ble_eq_true rfl)⟩ ⟨_, _, hy⟩ rfl rfl rfl hl.1 rfl (by exact Nat.le_of_ble_eq_true rfl) dX10_draw_16 ⟨(by exact Nat.le_of_ble_eq_true rfl), (by exact Nat.le_of_ble_eq_true rfl)⟩) S (fun r_16 f_16 H locs hr_16 S => ?_)
    obtain ⟨rfl, e_can⟩ := hr_16
    have hy_16 : f_16 y = some (1000, .inr (10, [.ref (A 1), .int (nI (st 0 0)), .ref (A 2), .ref (A 3), .ref (A 5), .ref (A 7), .int (nI (st 0 4)), .int (nI (st 0 1)), .int (nI (st 0 2)), .ref (A 9), .int (nI (st 0 3)), .ref (A 10), .ref (A 11), .int (nI 1)])) := by rw [e_can]; exact wu_self _ _ _ _
    have mm_16 : md tM f f_16 := by rw [e_can]; exact md_tr mm0 (md_put hy) (fun _ q => q) (fun t q => by subst q; unfold tM; omega)
    have hM0 : RMx G f_16 st y A V VL (nI 1) := by rw [e_can]; exact RMx_thr hM
    refine r_toi (y := 0) (by rfl) ?_
    have hKC : (k1 (inI a 1 65536)) = 1 := k1_1 (dF c_8)
    refine lv_if_ne (x := 0) (tgt := 24) X.1 X.2.1 dX10_draw_19 (by decide) (fun c_19 => by first | exact absurd c_19 (by decide) | exact absurd (by decide) c_19) (fun c_19 => ?_)
    refine lv_iconst (v := 0) X.1 X.2.1 dX10_draw_22 (by decide) ?_
    refine e_i X hr S (Nat.le_of_ble_eq_true rfl) (Nat.le_of_ble_eq_true rfl) dX10_draw_23 ?_
    rw [hKC]
    exact ⟨⟨A, V, VL, hM0⟩, mm_16, fun z => absurd z (by decide)⟩
  · refine lv_iconst (v := 0) X.1 X.2.1 dX10_draw_11 (by decide) ?_
    refine lv_goto (tgt := 16) X.1 X.2.1 dX10_draw_12 (by decide) ?_
    refine call_i (run_V X S (n_can l G f y A (nI (st 0 0)) (nI (st 0 4)) (nI (st 0 1)) (nI (st 0 2)) (nI (st 0 3)) thr hy 0 (by omega)) 1 gX10_draw_X10_can rfl rfl rfl (by decide +kernel) ⟨(by exact Nat.le_of_ble_eq_true rfl), (by exact Nat.le_of_ble_eq_true rfl)⟩ ⟨_, _, hy⟩ rfl rfl rfl hl.1 rfl (by exact Nat.le_of_ble_eq_true rfl) dX10_draw_16 ⟨(by exact Nat.le_of_ble_eq_true rfl), (by exact Nat.le_of_ble_eq_true rfl)⟩) S (fun r_16 f_16 H locs hr_16 S => ?_)
    obtain ⟨rfl, e_can⟩ := hr_16
    have hy_16 : f_16 y = some (1000, .inr (10, [.ref (A 1), .int (nI (st 0 0)), .ref (A 2), .ref (A 3), .ref (A 5), .ref (A 7), .int (nI (st 0 4)), .int (nI (st 0 1)), .int (nI (st 0 2)), .ref (A 9), .int (nI (st 0 3)), .ref (A 10), .ref (A 11), .int (nI 0)])) := by rw [e_can]; exact wu_self _ _ _ _
    have mm_16 : md tM f f_16 := by rw [e_can]; exact md_tr mm0 (md_put hy) (fun _ q => q) (fun t q => by subst q; unfold tM; omega)
    have hM0 : RMx G f_16 st y A V VL (nI 0) := by rw [e_can]; exact RMx_thr hM
    refine r_toi (y := 1) (by rfl) ?_
    have hP1 : inI a 1 65536 := dT c_8
    have hKC : (k1 (inI a 1 65536)) = 0 := k1_0 hP1
    obtain ⟨a1, rfl, alo, aup, abd⟩ := inI_sub hP1 (by omega)
    have na : nN (nI a1) = a1 := nN_nI abd
    refine lv_if_ne (x := 1) (tgt := 24) X.1 X.2.1 dX10_draw_19 (by decide) (fun c_19 => ?_) (fun c_19 => by first | exact absurd c_19 (by decide) | exact absurd (by decide) c_19)
    refine lv_aload_n X.1 X.2.1 dX10_draw_24 rfl (lv_at hl 0 rfl) ?_
    refine r_get (C := RX10) (T := TX10) (N := 14) (ref := "CraterclockModel") X S in_RX10 hy_16 rfl 6 (by decide) (by decide +kernel) (fun _ h => h) rfl dX10_draw_25 ?_
    refine lv_istore_n (lv' := [(2, .int (nI (st 0 4))), (0, .ref y), (1, .int (nI a1))]) X.1 X.2.1 dX10_draw_28 rfl hl (by decide) rfl (fun ls hl => ?_)
    refine lv_aload_n X.1 X.2.1 dX10_draw_29 rfl (lv_at hl 1 rfl) ?_
    refine lv_iload_n X.1 X.2.1 dX10_draw_30 rfl (lv_at hl 2 rfl) ?_
    refine r_put (C := RX10) (T := TX10) (N := 14) (ref := "CraterclockModel") (fs' := [.ref (A 1), .int (nI (st 0 0)), .ref (A 2), .ref (A 3), .ref (A 5), .ref (A 7), .int (nI a1), .int (nI (st 0 1)), .int (nI (st 0 2)), .ref (A 9), .int (nI (st 0 3)), .ref (A 10), .ref (A 11), .int (nI 0)]) (ty := .int) X S in_RX10 tyX10 tyX10_ok nmX10 hy_16 (by decide) rfl 6 (by decide) (by decide +kernel) (fun _ h => h) rfl (by decide +kernel) rfl rfl (Nat.le_of_ble_eq_true rfl) rfl dX10_draw_31 (fun H locs S => ?_)
    obtain ⟨f_31, ef_31⟩ : ∃ z9 : Wd, z9 = wu f_16 y 1000 (.inr (10, [.ref (A 1), .int (nI (st 0 0)), .ref (A 2), .ref (A 3), .ref (A 5), .ref (A 7), .int (nI a1), .int (nI (st 0 1)), .int (nI (st 0 2)), .ref (A 9), .int (nI (st 0 3)), .ref (A 10), .ref (A 11), .int (nI 0)])) := ⟨_, rfl⟩
    rw [← ef_31] at S
    have hy_31 : f_31 y = some (1000, .inr (10, [.ref (A 1), .int (nI (st 0 0)), .ref (A 2), .ref (A 3), .ref (A 5), .ref (A 7), .int (nI a1), .int (nI (st 0 1)), .int (nI (st 0 2)), .ref (A 9), .int (nI (st 0 3)), .ref (A 10), .ref (A 11), .int (nI 0)])) := by rw [ef_31]; exact wu_self _ _ _ _
    have mm_31 : md tM f f_31 := by rw [ef_31]; exact md_tr mm_16 (md_put hy_16) (fun _ q => q) (fun t q => by subst q; unfold tM; omega)
    refine lv_iload_n X.1 X.2.1 dX10_draw_34 rfl (lv_at hl 0 rfl) ?_
    refine e_i X hr S (Nat.le_of_ble_eq_true rfl) (Nat.le_of_ble_eq_true rfl) dX10_draw_35 ?_
    rw [hKC]
    refine ⟨?_, mm_31, fun _ => ?_⟩
    · rw [na]; exact ⟨A, V, VL, by rw [ef_31]; exact RMx_draw hM0⟩
    · rfl

set_option maxRecDepth 100000 in
set_option maxHeartbeats 4000000 in
/-- rain -/
theorem n_rain (l : Launch) (G : cx_G) (f : Wd) (st : St) (y : Nat) (A : Nat → Nat) (V : Nat → Nat → Int32) (VL : Nat → Nat → Int64) (thr : Int32) (hI : sInv st) (hM : RMx G f st y A V VL thr) (n : Int32) : MI l G yX10_rain wsX10_rain 2 53 0 0 [.ref y, .int n] f (fun r f' => RM G f' (stp (k2 (inI n 1 30) (st 0 0 + nN n ≤ 200)) (rainSt st (nN n)) st) y (nI (k2 (inI n 1 30) (st 0 0 + nN n ≤ 200))) ∧ md tM f f' ∧ ((k2 (inI n 1 30) (st 0 0 + nN n ≤ 200)) = 0 → r = nI (cn (liveP (rainSt st (nN n))) ((rainSt st (nN n)) 0 0)))) := by
  refine cx_body (cc := cX10_rain) (n := 7) (ret := (some .int)) (by decide +kernel) rfl (Nat.le_of_ble_eq_true rfl) ?_
  intro p0 e0 s0 m0 b0 meth0 c0 ls X hr hnm S hl
  have X : cxC G p0 l _ c0 cX10_rain 7 m0 meth0 s0 _ RX10 wsX10_rain := X
  have hl : lv_has ls 7 [(0, .ref y), (1, .int n)] := hl
  have in_RX10 : ∀ w ∈ u_ws RX10 TX10 14, w ∈ wsX10_rain := by decide +kernel
  obtain ⟨hi0, hi1, hi2, hi3, hi4, hi5, hi6, hi7⟩ := id hI
  obtain ⟨hy, ⟨hA1, hA2, hA3, hA5, hA7, hA9, hA10, hA11⟩, hv1, hvk, hv9, hvL⟩ := id hM
  have mm0 : md tM f f := md_rf _ _
  refine lv_aload_n X.1 X.2.1 dX10_rain_0 rfl (lv_at hl 0 rfl) ?_
  refine lv_iload_n X.1 X.2.1 dX10_rain_1 rfl (lv_at hl 1 rfl) ?_
  refine lv_iconst (v := 1) X.1 X.2.1 dX10_rain_2 (by decide) ?_
  refine lv_bipush (v := 30) X.1 X.2.1 dX10_rain_3 (by decide) ?_
  refine call_ip (run_S X S (n_isIn l G f n 1 30 1 30 (by decide) (by decide)) 3 gX10_rain_X10_isIn rfl rfl rfl (by decide +kernel) ⟨(by exact Nat.le_of_ble_eq_true rfl), (by exact Nat.le_of_ble_eq_true rfl)⟩ rfl hl.1 rfl (by exact Nat.le_of_ble_eq_true rfl) dX10_rain_5 ⟨(Nat.zero_le _), (Nat.zero_le _)⟩) S (fun r_5 H locs hr_5 S => ?_)
  subst hr_5
  refine r_neB (tgt := 15) X dX10_rain_8 (by decide) (fun c_8 => ?_) (fun c_8 => ?_)
  · have hP1 : inI n 1 30 := dT c_8
    obtain ⟨n1, rfl, nlo, nup, nbd⟩ := inI_sub hP1 (by omega)
    have nn : nN (nI n1) = n1 := nN_nI nbd
    refine lv_aload_n X.1 X.2.1 dX10_rain_15 rfl (lv_at hl 0 rfl) ?_
    refine r_get (C := RX10) (T := TX10) (N := 14) (ref := "CraterclockModel") X S in_RX10 hy rfl 1 (by decide) (by decide +kernel) (fun _ h => h) rfl dX10_rain_16 ?_
    refine lv_iload_n X.1 X.2.1 dX10_rain_19 rfl (lv_at hl 1 rfl) ?_
    refine lv_iadd X.1 X.2.1 dX10_rain_20 ?_
    refine r_toi (y := nI (st 0 0 + n1)) (nI_add _ _) ?_
    refine lv_sipush (v := 200) X.1 X.2.1 dX10_rain_21 (by decide) ?_
    refine lv_icmp_le (tgt := 31) X.1 X.2.1 dX10_rain_24 (by decide) (fun c_24 => ?_) (fun c_24 => ?_)
    · refine lv_iconst (v := 0) X.1 X.2.1 dX10_rain_31 (by decide) ?_
      refine call_i (run_V X S (n_can l G f y A (nI (st 0 0)) (nI (st 0 4)) (nI (st 0 1)) (nI (st 0 2)) (nI (st 0 3)) thr hy 0 (by omega)) 1 gX10_rain_X10_can rfl rfl rfl (by decide +kernel) ⟨(by exact Nat.le_of_ble_eq_true rfl), (by exact Nat.le_of_ble_eq_true rfl)⟩ ⟨_, _, hy⟩ rfl rfl rfl hl.1 rfl (by exact Nat.le_of_ble_eq_true rfl) dX10_rain_32 ⟨(by exact Nat.le_of_ble_eq_true rfl), (by exact Nat.le_of_ble_eq_true rfl)⟩) S (fun r_32 f_32 H locs hr_32 S => ?_)
      obtain ⟨rfl, e_can⟩ := hr_32
      have hy_32 : f_32 y = some (1000, .inr (10, [.ref (A 1), .int (nI (st 0 0)), .ref (A 2), .ref (A 3), .ref (A 5), .ref (A 7), .int (nI (st 0 4)), .int (nI (st 0 1)), .int (nI (st 0 2)), .ref (A 9), .int (nI (st 0 3)), .ref (A 10), .ref (A 11), .int (nI 0)])) := by rw [e_can]; exact wu_self _ _ _ _
      have mm_32 : md tM f f_32 := by rw [e_can]; exact md_tr mm0 (md_put hy) (fun _ q => q) (fun t q => by subst q; unfold tM; omega)
      have hM0 : RMx G f_32 st y A V VL (nI 0) := by rw [e_can]; exact RMx_thr hM
      refine r_toi (y := 1) (by rfl) ?_
      have hP2 : st 0 0 + nN (nI n1) ≤ 200 := by rw [nn]; exact nI_le_lit (b := 200) (by omega) (by omega) c_24
      have hKC : (k2 (inI (nI n1) 1 30) (st 0 0 + nN (nI n1) ≤ 200)) = 0 := k2_0 hP1 hP2
      rw [nn] at hP2
      refine lv_if_ne (x := 1) (tgt := 40) X.1 X.2.1 dX10_rain_35 (by decide) (fun c_35 => ?_) (fun c_35 => by first | exact absurd c_35 (by decide) | exact absurd (by decide) c_35)
      refine lv_iconst (v := 0) X.1 X.2.1 dX10_rain_40 (by decide) ?_
      refine lv_istore_n (lv' := [(2, .int 0), (0, .ref y), (1, .int (nI n1))]) X.1 X.2.1 dX10_rain_41 rfl hl (by decide) rfl (fun ls hl => ?_)
      refine W_genQ (fun Q9 hQ9 => ?_)
      have loop : ∀ (N : Nat) (k : Nat) (fk : Wd) (H : Heap) (locs : List Loc) (ls : Array Slot), k ≤ n1 → n1 < k + N → RM G fk (rainSt st k) y (nI 0) → md tM f fk → cxS G s0 fk H locs → lv_has ls 7 [(0, .ref y), (1, .int (nI n1)), (2, .int (nI k))] → W p0 l e0 ({ frames := 2, cells := 0, slots := 0, locals := 53 } : Room) s0 m0 ([.ref y, .int (nI n1)] : List Value).toArray b0 meth0 c0 H locs 0 0 Q9 (F0 m0 42 ls []) := by
        intro N
        induction N with
        | zero =>
          intro k fk  H locs ls hk hN hRk0 hmk S hl
          exfalso
          omega
        | succ N ih =>
          intro k fk  H locs ls hk hN hRk0 hmk S hl
          have hIk := sInv_rain hI k (by omega)
          have hIk4 := hIk.1.2.2.2.2
          have hnk := rainSt_n st k
          obtain ⟨A2, V2, VL2, hMk⟩ := id hRk0
          have hyk := hMk.1
          refine lv_iload_n X.1 X.2.1 dX10_rain_42 rfl (lv_at hl 2 rfl) ?_
          refine lv_iload_n X.1 X.2.1 dX10_rain_43 rfl (lv_at hl 1 rfl) ?_
          refine lv_icmp_ge (tgt := 90) X.1 X.2.1 dX10_rain_44 (by decide) (fun c_44 => ?_) (fun c_44 => ?_)
          · have hkn : k = n1 := by
              have := (nI_leI (by omega) (by omega)).mp c_44
              omega
            subst hQ9
            refine lv_aload_n X.1 X.2.1 dX10_rain_90 rfl (lv_at hl 0 rfl) ?_
            refine call_ip (run_V X S (n_left l G fk (rainSt st k) y A2 V2 VL2 (nI 0) hIk hMk) 0 gX10_rain_X10_left rfl rfl rfl (by decide +kernel) ⟨(by exact Nat.le_of_ble_eq_true rfl), (by exact Nat.le_of_ble_eq_true rfl)⟩ ⟨_, _, hyk⟩ rfl rfl rfl hl.1 rfl (by exact Nat.le_of_ble_eq_true rfl) dX10_rain_91 ⟨(Nat.zero_le _), (Nat.zero_le _)⟩) S (fun r_91 H locs hr_91 S => ?_)
            subst hr_91
            refine e_i X hr S (Nat.le_of_ble_eq_true rfl) (Nat.le_of_ble_eq_true rfl) dX10_rain_94 ?_
            rw [hKC]
            refine ⟨?_, hmk, fun _ => ?_⟩
            · rw [nn]; rw [← hkn]; exact hRk0
            · rw [nn, ← hkn]
          · have hlt_k : k < n1 := Nat.lt_of_not_le (fun z => c_44 (nI_le z (by omega)))
            refine lv_aload_n X.1 X.2.1 dX10_rain_47 rfl (lv_at hl 0 rfl) ?_
            refine lv_bipush (v := 16) X.1 X.2.1 dX10_rain_48 (by decide) ?_
            refine call_i (run_V X S (n_draws l G fk (rainSt st k) y A2 V2 VL2 (nI 0) hIk hMk 16 (by omega) (by omega)) 1 gX10_rain_X10_draws rfl rfl rfl (by decide +kernel) ⟨(by exact Nat.le_of_ble_eq_true rfl), (by exact Nat.le_of_ble_eq_true rfl)⟩ ⟨_, _, hyk⟩ rfl rfl rfl hl.1 rfl (by exact Nat.le_of_ble_eq_true rfl) dX10_rain_50 ⟨(by exact Nat.le_of_ble_eq_true rfl), (by exact Nat.le_of_ble_eq_true rfl)⟩) S (fun r_50 f_50 H locs hr_50 S => ?_)
            obtain ⟨hd1, hMd1, hmd1⟩ := hr_50
            subst hd1
            have hyk1 := hMd1.1
            refine lv_istore_n (lv' := [(3, .int (nI ((nxt ((rainSt st k) 0 4)) % 16))), (0, .ref y), (1, .int (nI n1)), (2, .int (nI k))]) X.1 X.2.1 dX10_rain_53 rfl hl (by decide) rfl (fun ls hl => ?_)
            refine lv_aload_n X.1 X.2.1 dX10_rain_54 rfl (lv_at hl 1 rfl) ?_
            refine lv_bipush (v := 16) X.1 X.2.1 dX10_rain_55 (by decide) ?_
            refine call_i (run_V X S (n_draws l G f_50 (s_up (rainSt st k) 0 4 (nxt ((rainSt st k) 0 4))) y A2 V2 VL2 (nI 0) (sInv_draw hIk (nxt_lt _)) hMd1 16 (by omega) (by omega)) 1 gX10_rain_X10_draws rfl rfl rfl (by decide +kernel) ⟨(by exact Nat.le_of_ble_eq_true rfl), (by exact Nat.le_of_ble_eq_true rfl)⟩ ⟨_, _, hyk1⟩ rfl rfl rfl hl.1 rfl (by exact Nat.le_of_ble_eq_true rfl) dX10_rain_57 ⟨(by exact Nat.le_of_ble_eq_true rfl), (by exact Nat.le_of_ble_eq_true rfl)⟩) S (fun r_57 f_57 H locs hr_57 S => ?_)
            obtain ⟨hd2, hMd2, hmd2⟩ := hr_57
            rw [s_up_self, s_up_2] at hMd2
            rw [s_up_self] at hd2
            subst hd2
            have hyk2 := hMd2.1
            refine lv_istore (lv' := [(4, .int (nI ((nxt (nxt ((rainSt st k) 0 4))) % 16))), (3, .int (nI ((nxt ((rainSt st k) 0 4)) % 16))), (0, .ref y), (1, .int (nI n1)), (2, .int (nI k))]) X.1 X.2.1 dX10_rain_60 hl (by decide) rfl (fun ls hl => ?_)
            refine lv_aload_n X.1 X.2.1 dX10_rain_62 rfl (lv_at hl 2 rfl) ?_
            refine lv_bipush (v := 64) X.1 X.2.1 dX10_rain_63 (by decide) ?_
            refine call_i (run_V X S (n_draws l G f_57 (s_up (rainSt st k) 0 4 (nxt (nxt ((rainSt st k) 0 4)))) y A2 V2 VL2 (nI 0) (sInv_draw hIk (nxt_lt _)) hMd2 64 (by omega) (by omega)) 1 gX10_rain_X10_draws rfl rfl rfl (by decide +kernel) ⟨(by exact Nat.le_of_ble_eq_true rfl), (by exact Nat.le_of_ble_eq_true rfl)⟩ ⟨_, _, hyk2⟩ rfl rfl rfl hl.1 rfl (by exact Nat.le_of_ble_eq_true rfl) dX10_rain_65 ⟨(by exact Nat.le_of_ble_eq_true rfl), (by exact Nat.le_of_ble_eq_true rfl)⟩) S (fun r_65 f_65 H locs hr_65 S => ?_)
            obtain ⟨hd3, hMd3, hmd3⟩ := hr_65
            rw [s_up_self, s_up_2] at hMd3
            rw [s_up_self] at hd3
            subst hd3
            have hyk3 := hMd3.1
            refine lv_istore (lv' := [(5, .int (nI ((nxt (nxt (nxt ((rainSt st k) 0 4)))) % 64))), (4, .int (nI ((nxt (nxt ((rainSt st k) 0 4))) % 16))), (3, .int (nI ((nxt ((rainSt st k) 0 4)) % 16))), (0, .ref y), (1, .int (nI n1)), (2, .int (nI k))]) X.1 X.2.1 dX10_rain_68 hl (by decide) rfl (fun ls hl => ?_)
            refine lv_aload_n X.1 X.2.1 dX10_rain_70 rfl (lv_at hl 3 rfl) ?_
            refine lv_iload_n X.1 X.2.1 dX10_rain_71 rfl (lv_at hl 2 rfl) ?_
            refine lv_iload X.1 X.2.1 dX10_rain_72 (lv_at hl 1 rfl) ?_
            refine lv_iload X.1 X.2.1 dX10_rain_74 (lv_at hl 0 rfl) ?_
            refine call_ip (run_S X S (n_sizeBy l G f_65 ((nxt (nxt (nxt ((rainSt st k) 0 4)))) % 64) (Nat.mod_lt _ (by omega))) 1 gX10_rain_X10_sizeBy rfl rfl rfl (by decide +kernel) ⟨(by exact Nat.le_of_ble_eq_true rfl), (by exact Nat.le_of_ble_eq_true rfl)⟩ rfl hl.1 rfl (by exact Nat.le_of_ble_eq_true rfl) dX10_rain_76 ⟨(Nat.zero_le _), (Nat.zero_le _)⟩) S (fun r_76 H locs hr_76 S => ?_)
            subst hr_76
            refine call_i (run_V X S (n_falls l G f_65 (s_up (rainSt st k) 0 4 (nxt (nxt (nxt ((rainSt st k) 0 4))))) y A2 V2 VL2 (nI 0) (sInv_draw hIk (nxt_lt _)) hMd3 ((nxt ((rainSt st k) 0 4)) % 16) ((nxt (nxt ((rainSt st k) 0 4))) % 16) (sizeOf ((nxt (nxt (nxt ((rainSt st k) 0 4)))) % 64)) (by rw [s_up_ne _ (by omega)]; omega) (Nat.mod_lt _ (by omega)) (Nat.mod_lt _ (by omega)) (sizeOf_in _).1 (sizeOf_in _).2) 3 gX10_rain_X10_falls rfl rfl rfl (by decide +kernel) ⟨(by exact Nat.le_of_ble_eq_true rfl), (by exact Nat.le_of_ble_eq_true rfl)⟩ ⟨_, _, hyk3⟩ rfl rfl rfl hl.1 rfl (by exact Nat.le_of_ble_eq_true rfl) dX10_rain_79 ⟨(by exact Nat.le_of_ble_eq_true rfl), (by exact Nat.le_of_ble_eq_true rfl)⟩) S (fun r_79 f_79 H locs hr_79 S => ?_)
            obtain ⟨hr79, hR79, hmf⟩ := hr_79
            have hR79 : RM G f_79 (rainSt st (k + 1)) y (nI 0) := hR79
            have hm79 : md tM f f_79 := md_tr hmk (md_tr hmd1 (md_tr hmd2 (md_tr hmd3 hmf (fun _ q => q) (fun _ q => q) : md tM _ _) (fun _ q => q) (fun _ q => q) : md tM _ _) (fun _ q => q) (fun _ q => q) : md tM _ _) (fun _ q => q) (fun _ q => q)
            refine lv_istore (lv' := [(6, .int r_79), (5, .int (nI ((nxt (nxt (nxt ((rainSt st k) 0 4)))) % 64))), (4, .int (nI ((nxt (nxt ((rainSt st k) 0 4))) % 16))), (3, .int (nI ((nxt ((rainSt st k) 0 4)) % 16))), (0, .ref y), (1, .int (nI n1)), (2, .int (nI k))]) X.1 X.2.1 dX10_rain_82 hl (by decide) rfl (fun ls hl => ?_)
            refine lv_iinc (v := (nI (k + 1))) (lv' := [(2, .int (nI (k + 1))), (6, .int r_79), (5, .int (nI ((nxt (nxt (nxt ((rainSt st k) 0 4)))) % 64))), (4, .int (nI ((nxt (nxt ((rainSt st k) 0 4))) % 16))), (3, .int (nI ((nxt ((rainSt st k) 0 4)) % 16))), (0, .ref y), (1, .int (nI n1))]) X.1 X.2.1 dX10_rain_84 hl (k := 6) rfl (nI_1 _) (by decide) rfl (fun ls hl => ?_)
            refine lv_goto (tgt := 42) X.1 X.2.1 dX10_rain_87 (by decide) ?_
            exact ih (k + 1) f_79 H locs ls (by omega) (by omega) hR79 hm79 S (lv_sub hl [5, 6, 0] rfl)
      exact loop (n1 + 1) 0 _ _ _ _ (by omega) (by omega) ⟨A, V, VL, hM0⟩ mm_32 S (lv_sub hl [1, 2, 0] rfl)
    · refine lv_iconst (v := 2) X.1 X.2.1 dX10_rain_27 (by decide) ?_
      refine lv_goto (tgt := 32) X.1 X.2.1 dX10_rain_28 (by decide) ?_
      refine call_i (run_V X S (n_can l G f y A (nI (st 0 0)) (nI (st 0 4)) (nI (st 0 1)) (nI (st 0 2)) (nI (st 0 3)) thr hy 2 (by omega)) 1 gX10_rain_X10_can rfl rfl rfl (by decide +kernel) ⟨(by exact Nat.le_of_ble_eq_true rfl), (by exact Nat.le_of_ble_eq_true rfl)⟩ ⟨_, _, hy⟩ rfl rfl rfl hl.1 rfl (by exact Nat.le_of_ble_eq_true rfl) dX10_rain_32 ⟨(by exact Nat.le_of_ble_eq_true rfl), (by exact Nat.le_of_ble_eq_true rfl)⟩) S (fun r_32 f_32 H locs hr_32 S => ?_)
      obtain ⟨rfl, e_can⟩ := hr_32
      have hy_32 : f_32 y = some (1000, .inr (10, [.ref (A 1), .int (nI (st 0 0)), .ref (A 2), .ref (A 3), .ref (A 5), .ref (A 7), .int (nI (st 0 4)), .int (nI (st 0 1)), .int (nI (st 0 2)), .ref (A 9), .int (nI (st 0 3)), .ref (A 10), .ref (A 11), .int (nI 2)])) := by rw [e_can]; exact wu_self _ _ _ _
      have mm_32 : md tM f f_32 := by rw [e_can]; exact md_tr mm0 (md_put hy) (fun _ q => q) (fun t q => by subst q; unfold tM; omega)
      have hM0 : RMx G f_32 st y A V VL (nI 2) := by rw [e_can]; exact RMx_thr hM
      refine r_toi (y := 0) (by rfl) ?_
      have hKC : (k2 (inI (nI n1) 1 30) (st 0 0 + nN (nI n1) ≤ 200)) = 2 := k2_2 hP1 (fun z => c_24 (nI_le (b := 200) (by rw [nn] at z; exact z) (by omega)))
      refine lv_if_ne (x := 0) (tgt := 40) X.1 X.2.1 dX10_rain_35 (by decide) (fun c_35 => by first | exact absurd c_35 (by decide) | exact absurd (by decide) c_35) (fun c_35 => ?_)
      refine lv_iconst (v := 0) X.1 X.2.1 dX10_rain_38 (by decide) ?_
      refine e_i X hr S (Nat.le_of_ble_eq_true rfl) (Nat.le_of_ble_eq_true rfl) dX10_rain_39 ?_
      rw [hKC]
      exact ⟨⟨A, V, VL, hM0⟩, mm_32, fun z => absurd z (by decide)⟩
  · refine lv_iconst (v := 1) X.1 X.2.1 dX10_rain_11 (by decide) ?_
    refine lv_goto (tgt := 32) X.1 X.2.1 dX10_rain_12 (by decide) ?_
    refine call_i (run_V X S (n_can l G f y A (nI (st 0 0)) (nI (st 0 4)) (nI (st 0 1)) (nI (st 0 2)) (nI (st 0 3)) thr hy 1 (by omega)) 1 gX10_rain_X10_can rfl rfl rfl (by decide +kernel) ⟨(by exact Nat.le_of_ble_eq_true rfl), (by exact Nat.le_of_ble_eq_true rfl)⟩ ⟨_, _, hy⟩ rfl rfl rfl hl.1 rfl (by exact Nat.le_of_ble_eq_true rfl) dX10_rain_32 ⟨(by exact Nat.le_of_ble_eq_true rfl), (by exact Nat.le_of_ble_eq_true rfl)⟩) S (fun r_32 f_32 H locs hr_32 S => ?_)
    obtain ⟨rfl, e_can⟩ := hr_32
    have hy_32 : f_32 y = some (1000, .inr (10, [.ref (A 1), .int (nI (st 0 0)), .ref (A 2), .ref (A 3), .ref (A 5), .ref (A 7), .int (nI (st 0 4)), .int (nI (st 0 1)), .int (nI (st 0 2)), .ref (A 9), .int (nI (st 0 3)), .ref (A 10), .ref (A 11), .int (nI 1)])) := by rw [e_can]; exact wu_self _ _ _ _
    have mm_32 : md tM f f_32 := by rw [e_can]; exact md_tr mm0 (md_put hy) (fun _ q => q) (fun t q => by subst q; unfold tM; omega)
    have hM0 : RMx G f_32 st y A V VL (nI 1) := by rw [e_can]; exact RMx_thr hM
    refine r_toi (y := 0) (by rfl) ?_
    have hKC : (k2 (inI n 1 30) (st 0 0 + nN n ≤ 200)) = 1 := k2_1 (dF c_8)
    refine lv_if_ne (x := 0) (tgt := 40) X.1 X.2.1 dX10_rain_35 (by decide) (fun c_35 => by first | exact absurd c_35 (by decide) | exact absurd (by decide) c_35) (fun c_35 => ?_)
    refine lv_iconst (v := 0) X.1 X.2.1 dX10_rain_38 (by decide) ?_
    refine e_i X hr S (Nat.le_of_ble_eq_true rfl) (Nat.le_of_ble_eq_true rfl) dX10_rain_39 ?_
    rw [hKC]
    exact ⟨⟨A, V, VL, hM0⟩, mm_32, fun z => absurd z (by decide)⟩

set_option maxRecDepth 100000 in
set_option maxHeartbeats 4000000 in
/-- flood -/
theorem n_flood (l : Launch) (G : cx_G) (f : Wd) (st : St) (y : Nat) (A : Nat → Nat) (V : Nat → Nat → Int32) (VL : Nat → Nat → Int64) (thr : Int32) (hI : sInv st) (hM : RMx G f st y A V VL thr) (a b p q v : Int32) : MI l G yX10_flood wsX10_flood 3 66 0 0 [.ref y, .int a, .int b, .int p, .int q, .int v] f (fun r f' => RM G f' (stp (k3 (cellP a b ∧ cellP p q) (inI v 1 40 ∧ ordP a b p q) (st 0 1 < 100)) (lessSt st (floodφ (nN a) (nN b) (nN p) (nN q) (nN v))) st) y (nI (k3 (cellP a b ∧ cellP p q) (inI v 1 40 ∧ ordP a b p q) (st 0 1 < 100))) ∧ md tM f f' ∧ ((k3 (cellP a b ∧ cellP p q) (inI v 1 40 ∧ ordP a b p q) (st 0 1 < 100)) = 0 → r = nI (cn (goneL st (floodφ (nN a) (nN b) (nN p) (nN q) (nN v))) (st 0 0)))) := by
  refine cx_body (cc := cX10_flood) (n := 10) (ret := (some .int)) (by decide +kernel) rfl (Nat.le_of_ble_eq_true rfl) ?_
  intro p0 e0 s0 m0 b0 meth0 c0 ls X hr hnm S hl
  have X : cxC G p0 l _ c0 cX10_flood 10 m0 meth0 s0 _ RX10 wsX10_flood := X
  have hl : lv_has ls 10 [(0, .ref y), (1, .int a), (2, .int b), (3, .int p), (4, .int q), (5, .int v)] := hl
  have in_RX10 : ∀ w ∈ u_ws RX10 TX10 14, w ∈ wsX10_flood := by decide +kernel
  obtain ⟨hi0, hi1, hi2, hi3, hi4, hi5, hi6, hi7⟩ := id hI
  obtain ⟨hy, ⟨hA1, hA2, hA3, hA5, hA7, hA9, hA10, hA11⟩, hv1, hvk, hv9, hvL⟩ := id hM
  have mm0 : md tM f f := md_rf _ _
  refine lv_iload_n X.1 X.2.1 dX10_flood_0 rfl (lv_at hl 1 rfl) ?_
  refine lv_iload_n X.1 X.2.1 dX10_flood_1 rfl (lv_at hl 2 rfl) ?_
  refine lv_iload_n X.1 X.2.1 dX10_flood_2 rfl (lv_at hl 3 rfl) ?_
  refine lv_iload X.1 X.2.1 dX10_flood_3 (lv_at hl 4 rfl) ?_
  refine call_ip (run_S X S (n_areCells l G f a b p q) 4 gX10_flood_X10_areCells rfl rfl rfl (by decide +kernel) ⟨(by exact Nat.le_of_ble_eq_true rfl), (by exact Nat.le_of_ble_eq_true rfl)⟩ rfl hl.1 rfl (by exact Nat.le_of_ble_eq_true rfl) dX10_flood_5 ⟨(Nat.zero_le _), (Nat.zero_le _)⟩) S (fun r_5 H locs hr_5 S => ?_)
  subst hr_5
  refine lv_istore (lv' := [(6, .int (b2i (decide (((0 ≤ a.toInt ∧ a.toInt ≤ 15) ∧ (0 ≤ b.toInt ∧ b.toInt ≤ 15)) ∧ ((0 ≤ p.toInt ∧ p.toInt ≤ 15) ∧ (0 ≤ q.toInt ∧ q.toInt ≤ 15)))))), (0, .ref y), (1, .int a), (2, .int b), (3, .int p), (4, .int q), (5, .int v)]) X.1 X.2.1 dX10_flood_8 hl (by decide) rfl (fun ls hl => ?_)
  refine lv_iload_n X.1 X.2.1 dX10_flood_10 rfl (lv_at hl 4 rfl) ?_
  refine lv_iload_n X.1 X.2.1 dX10_flood_11 rfl (lv_at hl 2 rfl) ?_
  refine lv_icmp_lt (tgt := 36) X.1 X.2.1 dX10_flood_12 (by decide) (fun c_12 => ?_) (fun c_12 => ?_)
  · refine lv_iconst (v := 0) X.1 X.2.1 dX10_flood_36 (by decide) ?_
    refine lv_istore (lv' := [(7, .int 0), (6, .int (b2i (decide (((0 ≤ a.toInt ∧ a.toInt ≤ 15) ∧ (0 ≤ b.toInt ∧ b.toInt ≤ 15)) ∧ ((0 ≤ p.toInt ∧ p.toInt ≤ 15) ∧ (0 ≤ q.toInt ∧ q.toInt ≤ 15)))))), (0, .ref y), (1, .int a), (2, .int b), (3, .int p), (4, .int q), (5, .int v)]) X.1 X.2.1 dX10_flood_37 hl (by decide) rfl (fun ls hl => ?_)
    refine lv_aload_n X.1 X.2.1 dX10_flood_39 rfl (lv_at hl 2 rfl) ?_
    refine lv_iload X.1 X.2.1 dX10_flood_40 (lv_at hl 1 rfl) ?_
    refine r_neB (tgt := 49) X dX10_flood_42 (by decide) (fun c_42 => ?_) (fun c_42 => ?_)
    · refine lv_iload X.1 X.2.1 dX10_flood_49 (lv_at hl 0 rfl) ?_
      refine lv_if_ne (x := 0) (tgt := 58) X.1 X.2.1 dX10_flood_51 (by decide) (fun c_51 => by first | exact absurd c_51 (by decide) | exact absurd (by decide) c_51) (fun c_51 => ?_)
      refine lv_iconst (v := 2) X.1 X.2.1 dX10_flood_54 (by decide) ?_
      refine lv_goto (tgt := 72) X.1 X.2.1 dX10_flood_55 (by decide) ?_
      refine call_i (run_V X S (n_can l G f y A (nI (st 0 0)) (nI (st 0 4)) (nI (st 0 1)) (nI (st 0 2)) (nI (st 0 3)) thr hy 2 (by omega)) 1 gX10_flood_X10_can rfl rfl rfl (by decide +kernel) ⟨(by exact Nat.le_of_ble_eq_true rfl), (by exact Nat.le_of_ble_eq_true rfl)⟩ ⟨_, _, hy⟩ rfl rfl rfl hl.1 rfl (by exact Nat.le_of_ble_eq_true rfl) dX10_flood_72 ⟨(by exact Nat.le_of_ble_eq_true rfl), (by exact Nat.le_of_ble_eq_true rfl)⟩) S (fun r_72 f_72 H locs hr_72 S => ?_)
      obtain ⟨rfl, e_can⟩ := hr_72
      have hy_72 : f_72 y = some (1000, .inr (10, [.ref (A 1), .int (nI (st 0 0)), .ref (A 2), .ref (A 3), .ref (A 5), .ref (A 7), .int (nI (st 0 4)), .int (nI (st 0 1)), .int (nI (st 0 2)), .ref (A 9), .int (nI (st 0 3)), .ref (A 10), .ref (A 11), .int (nI 2)])) := by rw [e_can]; exact wu_self _ _ _ _
      have hA2_72 : f_72 (A 2) = some (1002, eI G 200 (V 2)) := by rw [e_can]; exact wu_get hy hA2 (by decide)
      have hA3_72 : f_72 (A 3) = some (1003, eI G 200 (V 3)) := by rw [e_can]; exact wu_get hy hA3 (by decide)
      have hA7_72 : f_72 (A 7) = some (1007, eI G 200 (V 7)) := by rw [e_can]; exact wu_get hy hA7 (by decide)
      have mm_72 : md tM f f_72 := by rw [e_can]; exact md_tr mm0 (md_put hy) (fun _ q => q) (fun t q => by subst q; unfold tM; omega)
      have hM0 : RMx G f_72 st y A V VL (nI 2) := by rw [e_can]; exact RMx_thr hM
      refine r_toi (y := 0) (by rfl) ?_
      have hKC : (k3 (cellP a b ∧ cellP p q) (inI v 1 40 ∧ ordP a b p q) (st 0 1 < 100)) = 2 := k3_2 (dT c_42) (fun z => by first | exact dF c_29 z.1 | (rw [i_lt] at c_12; have := z.2.1; omega) | (rw [i_lt] at c_18; have := z.2.2; omega))
      refine lv_if_ne (x := 0) (tgt := 80) X.1 X.2.1 dX10_flood_75 (by decide) (fun c_75 => by first | exact absurd c_75 (by decide) | exact absurd (by decide) c_75) (fun c_75 => ?_)
      refine lv_iconst (v := 0) X.1 X.2.1 dX10_flood_78 (by decide) ?_
      refine e_i X hr S (Nat.le_of_ble_eq_true rfl) (Nat.le_of_ble_eq_true rfl) dX10_flood_79 ?_
      rw [hKC]
      exact ⟨⟨A, V, VL, hM0⟩, mm_72, fun z => absurd z (by decide)⟩
    · refine lv_iconst (v := 1) X.1 X.2.1 dX10_flood_45 (by decide) ?_
      refine lv_goto (tgt := 72) X.1 X.2.1 dX10_flood_46 (by decide) ?_
      refine call_i (run_V X S (n_can l G f y A (nI (st 0 0)) (nI (st 0 4)) (nI (st 0 1)) (nI (st 0 2)) (nI (st 0 3)) thr hy 1 (by omega)) 1 gX10_flood_X10_can rfl rfl rfl (by decide +kernel) ⟨(by exact Nat.le_of_ble_eq_true rfl), (by exact Nat.le_of_ble_eq_true rfl)⟩ ⟨_, _, hy⟩ rfl rfl rfl hl.1 rfl (by exact Nat.le_of_ble_eq_true rfl) dX10_flood_72 ⟨(by exact Nat.le_of_ble_eq_true rfl), (by exact Nat.le_of_ble_eq_true rfl)⟩) S (fun r_72 f_72 H locs hr_72 S => ?_)
      obtain ⟨rfl, e_can⟩ := hr_72
      have hy_72 : f_72 y = some (1000, .inr (10, [.ref (A 1), .int (nI (st 0 0)), .ref (A 2), .ref (A 3), .ref (A 5), .ref (A 7), .int (nI (st 0 4)), .int (nI (st 0 1)), .int (nI (st 0 2)), .ref (A 9), .int (nI (st 0 3)), .ref (A 10), .ref (A 11), .int (nI 1)])) := by rw [e_can]; exact wu_self _ _ _ _
      have hA2_72 : f_72 (A 2) = some (1002, eI G 200 (V 2)) := by rw [e_can]; exact wu_get hy hA2 (by decide)
      have hA3_72 : f_72 (A 3) = some (1003, eI G 200 (V 3)) := by rw [e_can]; exact wu_get hy hA3 (by decide)
      have hA7_72 : f_72 (A 7) = some (1007, eI G 200 (V 7)) := by rw [e_can]; exact wu_get hy hA7 (by decide)
      have mm_72 : md tM f f_72 := by rw [e_can]; exact md_tr mm0 (md_put hy) (fun _ q => q) (fun t q => by subst q; unfold tM; omega)
      have hM0 : RMx G f_72 st y A V VL (nI 1) := by rw [e_can]; exact RMx_thr hM
      refine r_toi (y := 0) (by rfl) ?_
      have hKC : (k3 (cellP a b ∧ cellP p q) (inI v 1 40 ∧ ordP a b p q) (st 0 1 < 100)) = 1 := k3_1 (dF c_42)
      refine lv_if_ne (x := 0) (tgt := 80) X.1 X.2.1 dX10_flood_75 (by decide) (fun c_75 => by first | exact absurd c_75 (by decide) | exact absurd (by decide) c_75) (fun c_75 => ?_)
      refine lv_iconst (v := 0) X.1 X.2.1 dX10_flood_78 (by decide) ?_
      refine e_i X hr S (Nat.le_of_ble_eq_true rfl) (Nat.le_of_ble_eq_true rfl) dX10_flood_79 ?_
      rw [hKC]
      exact ⟨⟨A, V, VL, hM0⟩, mm_72, fun z => absurd z (by decide)⟩
  · refine lv_iload X.1 X.2.1 dX10_flood_15 (lv_at hl 5 rfl) ?_
    refine lv_iload_n X.1 X.2.1 dX10_flood_17 rfl (lv_at hl 3 rfl) ?_
    refine lv_icmp_lt (tgt := 36) X.1 X.2.1 dX10_flood_18 (by decide) (fun c_18 => ?_) (fun c_18 => ?_)
    · refine lv_iconst (v := 0) X.1 X.2.1 dX10_flood_36 (by decide) ?_
      refine lv_istore (lv' := [(7, .int 0), (6, .int (b2i (decide (((0 ≤ a.toInt ∧ a.toInt ≤ 15) ∧ (0 ≤ b.toInt ∧ b.toInt ≤ 15)) ∧ ((0 ≤ p.toInt ∧ p.toInt ≤ 15) ∧ (0 ≤ q.toInt ∧ q.toInt ≤ 15)))))), (0, .ref y), (1, .int a), (2, .int b), (3, .int p), (4, .int q), (5, .int v)]) X.1 X.2.1 dX10_flood_37 hl (by decide) rfl (fun ls hl => ?_)
      refine lv_aload_n X.1 X.2.1 dX10_flood_39 rfl (lv_at hl 2 rfl) ?_
      refine lv_iload X.1 X.2.1 dX10_flood_40 (lv_at hl 1 rfl) ?_
      refine r_neB (tgt := 49) X dX10_flood_42 (by decide) (fun c_42 => ?_) (fun c_42 => ?_)
      · refine lv_iload X.1 X.2.1 dX10_flood_49 (lv_at hl 0 rfl) ?_
        refine lv_if_ne (x := 0) (tgt := 58) X.1 X.2.1 dX10_flood_51 (by decide) (fun c_51 => by first | exact absurd c_51 (by decide) | exact absurd (by decide) c_51) (fun c_51 => ?_)
        refine lv_iconst (v := 2) X.1 X.2.1 dX10_flood_54 (by decide) ?_
        refine lv_goto (tgt := 72) X.1 X.2.1 dX10_flood_55 (by decide) ?_
        refine call_i (run_V X S (n_can l G f y A (nI (st 0 0)) (nI (st 0 4)) (nI (st 0 1)) (nI (st 0 2)) (nI (st 0 3)) thr hy 2 (by omega)) 1 gX10_flood_X10_can rfl rfl rfl (by decide +kernel) ⟨(by exact Nat.le_of_ble_eq_true rfl), (by exact Nat.le_of_ble_eq_true rfl)⟩ ⟨_, _, hy⟩ rfl rfl rfl hl.1 rfl (by exact Nat.le_of_ble_eq_true rfl) dX10_flood_72 ⟨(by exact Nat.le_of_ble_eq_true rfl), (by exact Nat.le_of_ble_eq_true rfl)⟩) S (fun r_72 f_72 H locs hr_72 S => ?_)
        obtain ⟨rfl, e_can⟩ := hr_72
        have hy_72 : f_72 y = some (1000, .inr (10, [.ref (A 1), .int (nI (st 0 0)), .ref (A 2), .ref (A 3), .ref (A 5), .ref (A 7), .int (nI (st 0 4)), .int (nI (st 0 1)), .int (nI (st 0 2)), .ref (A 9), .int (nI (st 0 3)), .ref (A 10), .ref (A 11), .int (nI 2)])) := by rw [e_can]; exact wu_self _ _ _ _
        have hA2_72 : f_72 (A 2) = some (1002, eI G 200 (V 2)) := by rw [e_can]; exact wu_get hy hA2 (by decide)
        have hA3_72 : f_72 (A 3) = some (1003, eI G 200 (V 3)) := by rw [e_can]; exact wu_get hy hA3 (by decide)
        have hA7_72 : f_72 (A 7) = some (1007, eI G 200 (V 7)) := by rw [e_can]; exact wu_get hy hA7 (by decide)
        have mm_72 : md tM f f_72 := by rw [e_can]; exact md_tr mm0 (md_put hy) (fun _ q => q) (fun t q => by subst q; unfold tM; omega)
        have hM0 : RMx G f_72 st y A V VL (nI 2) := by rw [e_can]; exact RMx_thr hM
        refine r_toi (y := 0) (by rfl) ?_
        have hKC : (k3 (cellP a b ∧ cellP p q) (inI v 1 40 ∧ ordP a b p q) (st 0 1 < 100)) = 2 := k3_2 (dT c_42) (fun z => by first | exact dF c_29 z.1 | (rw [i_lt] at c_12; have := z.2.1; omega) | (rw [i_lt] at c_18; have := z.2.2; omega))
        refine lv_if_ne (x := 0) (tgt := 80) X.1 X.2.1 dX10_flood_75 (by decide) (fun c_75 => by first | exact absurd c_75 (by decide) | exact absurd (by decide) c_75) (fun c_75 => ?_)
        refine lv_iconst (v := 0) X.1 X.2.1 dX10_flood_78 (by decide) ?_
        refine e_i X hr S (Nat.le_of_ble_eq_true rfl) (Nat.le_of_ble_eq_true rfl) dX10_flood_79 ?_
        rw [hKC]
        exact ⟨⟨A, V, VL, hM0⟩, mm_72, fun z => absurd z (by decide)⟩
      · refine lv_iconst (v := 1) X.1 X.2.1 dX10_flood_45 (by decide) ?_
        refine lv_goto (tgt := 72) X.1 X.2.1 dX10_flood_46 (by decide) ?_
        refine call_i (run_V X S (n_can l G f y A (nI (st 0 0)) (nI (st 0 4)) (nI (st 0 1)) (nI (st 0 2)) (nI (st 0 3)) thr hy 1 (by omega)) 1 gX10_flood_X10_can rfl rfl rfl (by decide +kernel) ⟨(by exact Nat.le_of_ble_eq_true rfl), (by exact Nat.le_of_ble_eq_true rfl)⟩ ⟨_, _, hy⟩ rfl rfl rfl hl.1 rfl (by exact Nat.le_of_ble_eq_true rfl) dX10_flood_72 ⟨(by exact Nat.le_of_ble_eq_true rfl), (by exact Nat.le_of_ble_eq_true rfl)⟩) S (fun r_72 f_72 H locs hr_72 S => ?_)
        obtain ⟨rfl, e_can⟩ := hr_72
        have hy_72 : f_72 y = some (1000, .inr (10, [.ref (A 1), .int (nI (st 0 0)), .ref (A 2), .ref (A 3), .ref (A 5), .ref (A 7), .int (nI (st 0 4)), .int (nI (st 0 1)), .int (nI (st 0 2)), .ref (A 9), .int (nI (st 0 3)), .ref (A 10), .ref (A 11), .int (nI 1)])) := by rw [e_can]; exact wu_self _ _ _ _
        have hA2_72 : f_72 (A 2) = some (1002, eI G 200 (V 2)) := by rw [e_can]; exact wu_get hy hA2 (by decide)
        have hA3_72 : f_72 (A 3) = some (1003, eI G 200 (V 3)) := by rw [e_can]; exact wu_get hy hA3 (by decide)
        have hA7_72 : f_72 (A 7) = some (1007, eI G 200 (V 7)) := by rw [e_can]; exact wu_get hy hA7 (by decide)
        have mm_72 : md tM f f_72 := by rw [e_can]; exact md_tr mm0 (md_put hy) (fun _ q => q) (fun t q => by subst q; unfold tM; omega)
        have hM0 : RMx G f_72 st y A V VL (nI 1) := by rw [e_can]; exact RMx_thr hM
        refine r_toi (y := 0) (by rfl) ?_
        have hKC : (k3 (cellP a b ∧ cellP p q) (inI v 1 40 ∧ ordP a b p q) (st 0 1 < 100)) = 1 := k3_1 (dF c_42)
        refine lv_if_ne (x := 0) (tgt := 80) X.1 X.2.1 dX10_flood_75 (by decide) (fun c_75 => by first | exact absurd c_75 (by decide) | exact absurd (by decide) c_75) (fun c_75 => ?_)
        refine lv_iconst (v := 0) X.1 X.2.1 dX10_flood_78 (by decide) ?_
        refine e_i X hr S (Nat.le_of_ble_eq_true rfl) (Nat.le_of_ble_eq_true rfl) dX10_flood_79 ?_
        rw [hKC]
        exact ⟨⟨A, V, VL, hM0⟩, mm_72, fun z => absurd z (by decide)⟩
    · refine lv_iload X.1 X.2.1 dX10_flood_21 (lv_at hl 6 rfl) ?_
      refine lv_iconst (v := 1) X.1 X.2.1 dX10_flood_23 (by decide) ?_
      refine lv_bipush (v := 40) X.1 X.2.1 dX10_flood_24 (by decide) ?_
      refine call_ip (run_S X S (n_isIn l G f v 1 40 1 40 (by decide) (by decide)) 3 gX10_flood_X10_isIn rfl rfl rfl (by decide +kernel) ⟨(by exact Nat.le_of_ble_eq_true rfl), (by exact Nat.le_of_ble_eq_true rfl)⟩ rfl hl.1 rfl (by exact Nat.le_of_ble_eq_true rfl) dX10_flood_26 ⟨(Nat.zero_le _), (Nat.zero_le _)⟩) S (fun r_26 H locs hr_26 S => ?_)
      subst hr_26
      refine r_eqB (tgt := 36) X dX10_flood_29 (by decide) (fun c_29 => ?_) (fun c_29 => ?_)
      · refine lv_iconst (v := 0) X.1 X.2.1 dX10_flood_36 (by decide) ?_
        refine lv_istore (lv' := [(7, .int 0), (6, .int (b2i (decide (((0 ≤ a.toInt ∧ a.toInt ≤ 15) ∧ (0 ≤ b.toInt ∧ b.toInt ≤ 15)) ∧ ((0 ≤ p.toInt ∧ p.toInt ≤ 15) ∧ (0 ≤ q.toInt ∧ q.toInt ≤ 15)))))), (0, .ref y), (1, .int a), (2, .int b), (3, .int p), (4, .int q), (5, .int v)]) X.1 X.2.1 dX10_flood_37 hl (by decide) rfl (fun ls hl => ?_)
        refine lv_aload_n X.1 X.2.1 dX10_flood_39 rfl (lv_at hl 2 rfl) ?_
        refine lv_iload X.1 X.2.1 dX10_flood_40 (lv_at hl 1 rfl) ?_
        refine r_neB (tgt := 49) X dX10_flood_42 (by decide) (fun c_42 => ?_) (fun c_42 => ?_)
        · refine lv_iload X.1 X.2.1 dX10_flood_49 (lv_at hl 0 rfl) ?_
          refine lv_if_ne (x := 0) (tgt := 58) X.1 X.2.1 dX10_flood_51 (by decide) (fun c_51 => by first | exact absurd c_51 (by decide) | exact absurd (by decide) c_51) (fun c_51 => ?_)
          refine lv_iconst (v := 2) X.1 X.2.1 dX10_flood_54 (by decide) ?_
          refine lv_goto (tgt := 72) X.1 X.2.1 dX10_flood_55 (by decide) ?_
          refine call_i (run_V X S (n_can l G f y A (nI (st 0 0)) (nI (st 0 4)) (nI (st 0 1)) (nI (st 0 2)) (nI (st 0 3)) thr hy 2 (by omega)) 1 gX10_flood_X10_can rfl rfl rfl (by decide +kernel) ⟨(by exact Nat.le_of_ble_eq_true rfl), (by exact Nat.le_of_ble_eq_true rfl)⟩ ⟨_, _, hy⟩ rfl rfl rfl hl.1 rfl (by exact Nat.le_of_ble_eq_true rfl) dX10_flood_72 ⟨(by exact Nat.le_of_ble_eq_true rfl), (by exact Nat.le_of_ble_eq_true rfl)⟩) S (fun r_72 f_72 H locs hr_72 S => ?_)
          obtain ⟨rfl, e_can⟩ := hr_72
          have hy_72 : f_72 y = some (1000, .inr (10, [.ref (A 1), .int (nI (st 0 0)), .ref (A 2), .ref (A 3), .ref (A 5), .ref (A 7), .int (nI (st 0 4)), .int (nI (st 0 1)), .int (nI (st 0 2)), .ref (A 9), .int (nI (st 0 3)), .ref (A 10), .ref (A 11), .int (nI 2)])) := by rw [e_can]; exact wu_self _ _ _ _
          have hA2_72 : f_72 (A 2) = some (1002, eI G 200 (V 2)) := by rw [e_can]; exact wu_get hy hA2 (by decide)
          have hA3_72 : f_72 (A 3) = some (1003, eI G 200 (V 3)) := by rw [e_can]; exact wu_get hy hA3 (by decide)
          have hA7_72 : f_72 (A 7) = some (1007, eI G 200 (V 7)) := by rw [e_can]; exact wu_get hy hA7 (by decide)
          have mm_72 : md tM f f_72 := by rw [e_can]; exact md_tr mm0 (md_put hy) (fun _ q => q) (fun t q => by subst q; unfold tM; omega)
          have hM0 : RMx G f_72 st y A V VL (nI 2) := by rw [e_can]; exact RMx_thr hM
          refine r_toi (y := 0) (by rfl) ?_
          have hKC : (k3 (cellP a b ∧ cellP p q) (inI v 1 40 ∧ ordP a b p q) (st 0 1 < 100)) = 2 := k3_2 (dT c_42) (fun z => by first | exact dF c_29 z.1 | (rw [i_lt] at c_12; have := z.2.1; omega) | (rw [i_lt] at c_18; have := z.2.2; omega))
          refine lv_if_ne (x := 0) (tgt := 80) X.1 X.2.1 dX10_flood_75 (by decide) (fun c_75 => by first | exact absurd c_75 (by decide) | exact absurd (by decide) c_75) (fun c_75 => ?_)
          refine lv_iconst (v := 0) X.1 X.2.1 dX10_flood_78 (by decide) ?_
          refine e_i X hr S (Nat.le_of_ble_eq_true rfl) (Nat.le_of_ble_eq_true rfl) dX10_flood_79 ?_
          rw [hKC]
          exact ⟨⟨A, V, VL, hM0⟩, mm_72, fun z => absurd z (by decide)⟩
        · refine lv_iconst (v := 1) X.1 X.2.1 dX10_flood_45 (by decide) ?_
          refine lv_goto (tgt := 72) X.1 X.2.1 dX10_flood_46 (by decide) ?_
          refine call_i (run_V X S (n_can l G f y A (nI (st 0 0)) (nI (st 0 4)) (nI (st 0 1)) (nI (st 0 2)) (nI (st 0 3)) thr hy 1 (by omega)) 1 gX10_flood_X10_can rfl rfl rfl (by decide +kernel) ⟨(by exact Nat.le_of_ble_eq_true rfl), (by exact Nat.le_of_ble_eq_true rfl)⟩ ⟨_, _, hy⟩ rfl rfl rfl hl.1 rfl (by exact Nat.le_of_ble_eq_true rfl) dX10_flood_72 ⟨(by exact Nat.le_of_ble_eq_true rfl), (by exact Nat.le_of_ble_eq_true rfl)⟩) S (fun r_72 f_72 H locs hr_72 S => ?_)
          obtain ⟨rfl, e_can⟩ := hr_72
          have hy_72 : f_72 y = some (1000, .inr (10, [.ref (A 1), .int (nI (st 0 0)), .ref (A 2), .ref (A 3), .ref (A 5), .ref (A 7), .int (nI (st 0 4)), .int (nI (st 0 1)), .int (nI (st 0 2)), .ref (A 9), .int (nI (st 0 3)), .ref (A 10), .ref (A 11), .int (nI 1)])) := by rw [e_can]; exact wu_self _ _ _ _
          have hA2_72 : f_72 (A 2) = some (1002, eI G 200 (V 2)) := by rw [e_can]; exact wu_get hy hA2 (by decide)
          have hA3_72 : f_72 (A 3) = some (1003, eI G 200 (V 3)) := by rw [e_can]; exact wu_get hy hA3 (by decide)
          have hA7_72 : f_72 (A 7) = some (1007, eI G 200 (V 7)) := by rw [e_can]; exact wu_get hy hA7 (by decide)
          have mm_72 : md tM f f_72 := by rw [e_can]; exact md_tr mm0 (md_put hy) (fun _ q => q) (fun t q => by subst q; unfold tM; omega)
          have hM0 : RMx G f_72 st y A V VL (nI 1) := by rw [e_can]; exact RMx_thr hM
          refine r_toi (y := 0) (by rfl) ?_
          have hKC : (k3 (cellP a b ∧ cellP p q) (inI v 1 40 ∧ ordP a b p q) (st 0 1 < 100)) = 1 := k3_1 (dF c_42)
          refine lv_if_ne (x := 0) (tgt := 80) X.1 X.2.1 dX10_flood_75 (by decide) (fun c_75 => by first | exact absurd c_75 (by decide) | exact absurd (by decide) c_75) (fun c_75 => ?_)
          refine lv_iconst (v := 0) X.1 X.2.1 dX10_flood_78 (by decide) ?_
          refine e_i X hr S (Nat.le_of_ble_eq_true rfl) (Nat.le_of_ble_eq_true rfl) dX10_flood_79 ?_
          rw [hKC]
          exact ⟨⟨A, V, VL, hM0⟩, mm_72, fun z => absurd z (by decide)⟩
      · refine lv_iconst (v := 1) X.1 X.2.1 dX10_flood_32 (by decide) ?_
        refine lv_goto (tgt := 37) X.1 X.2.1 dX10_flood_33 (by decide) ?_
        refine lv_istore (lv' := [(7, .int 1), (6, .int (b2i (decide (((0 ≤ a.toInt ∧ a.toInt ≤ 15) ∧ (0 ≤ b.toInt ∧ b.toInt ≤ 15)) ∧ ((0 ≤ p.toInt ∧ p.toInt ≤ 15) ∧ (0 ≤ q.toInt ∧ q.toInt ≤ 15)))))), (0, .ref y), (1, .int a), (2, .int b), (3, .int p), (4, .int q), (5, .int v)]) X.1 X.2.1 dX10_flood_37 hl (by decide) rfl (fun ls hl => ?_)
        refine lv_aload_n X.1 X.2.1 dX10_flood_39 rfl (lv_at hl 2 rfl) ?_
        refine lv_iload X.1 X.2.1 dX10_flood_40 (lv_at hl 1 rfl) ?_
        refine r_neB (tgt := 49) X dX10_flood_42 (by decide) (fun c_42 => ?_) (fun c_42 => ?_)
        · refine lv_iload X.1 X.2.1 dX10_flood_49 (lv_at hl 0 rfl) ?_
          refine lv_if_ne (x := 1) (tgt := 58) X.1 X.2.1 dX10_flood_51 (by decide) (fun c_51 => ?_) (fun c_51 => by first | exact absurd c_51 (by decide) | exact absurd (by decide) c_51)
          refine lv_aload_n X.1 X.2.1 dX10_flood_58 rfl (lv_at hl 2 rfl) ?_
          refine r_get (C := RX10) (T := TX10) (N := 14) (ref := "CraterclockModel") X S in_RX10 hy rfl 7 (by decide) (by decide +kernel) (fun _ h => h) rfl dX10_flood_59 ?_
          refine lv_bipush (v := 100) X.1 X.2.1 dX10_flood_62 (by decide) ?_
          refine lv_icmp_ne (tgt := 71) X.1 X.2.1 dX10_flood_64 (by decide) (fun c_64 => ?_) (fun c_64 => ?_)
          · refine lv_iconst (v := 0) X.1 X.2.1 dX10_flood_71 (by decide) ?_
            refine call_i (run_V X S (n_can l G f y A (nI (st 0 0)) (nI (st 0 4)) (nI (st 0 1)) (nI (st 0 2)) (nI (st 0 3)) thr hy 0 (by omega)) 1 gX10_flood_X10_can rfl rfl rfl (by decide +kernel) ⟨(by exact Nat.le_of_ble_eq_true rfl), (by exact Nat.le_of_ble_eq_true rfl)⟩ ⟨_, _, hy⟩ rfl rfl rfl hl.1 rfl (by exact Nat.le_of_ble_eq_true rfl) dX10_flood_72 ⟨(by exact Nat.le_of_ble_eq_true rfl), (by exact Nat.le_of_ble_eq_true rfl)⟩) S (fun r_72 f_72 H locs hr_72 S => ?_)
            obtain ⟨rfl, e_can⟩ := hr_72
            have hy_72 : f_72 y = some (1000, .inr (10, [.ref (A 1), .int (nI (st 0 0)), .ref (A 2), .ref (A 3), .ref (A 5), .ref (A 7), .int (nI (st 0 4)), .int (nI (st 0 1)), .int (nI (st 0 2)), .ref (A 9), .int (nI (st 0 3)), .ref (A 10), .ref (A 11), .int (nI 0)])) := by rw [e_can]; exact wu_self _ _ _ _
            have hA2_72 : f_72 (A 2) = some (1002, eI G 200 (V 2)) := by rw [e_can]; exact wu_get hy hA2 (by decide)
            have hA3_72 : f_72 (A 3) = some (1003, eI G 200 (V 3)) := by rw [e_can]; exact wu_get hy hA3 (by decide)
            have hA7_72 : f_72 (A 7) = some (1007, eI G 200 (V 7)) := by rw [e_can]; exact wu_get hy hA7 (by decide)
            have mm_72 : md tM f f_72 := by rw [e_can]; exact md_tr mm0 (md_put hy) (fun _ q => q) (fun t q => by subst q; unfold tM; omega)
            have hM0 : RMx G f_72 st y A V VL (nI 0) := by rw [e_can]; exact RMx_thr hM
            refine r_toi (y := 1) (by rfl) ?_
            have hP1 : cellP a b ∧ cellP p q := dT c_42
            have hP2 : inI v 1 40 ∧ ordP a b p q := ⟨dT c_29, by rw [i_lt] at c_12 c_18; exact ⟨by omega, by omega⟩⟩
            have hP3 : st 0 1 < 100 := by have h9 : st 0 1 ≠ 100 := (fun z => c_64 (by rw [z]; rfl)); omega
            have hKC : (k3 (cellP a b ∧ cellP p q) (inI v 1 40 ∧ ordP a b p q) (st 0 1 < 100)) = 0 := k3_0 hP1 hP2 hP3
            obtain ⟨a1, rfl, alo, aup, abd⟩ := inI_sub hP1.1.1 (by omega)
            have na : nN (nI a1) = a1 := nN_nI abd
            obtain ⟨b1, rfl, blo, bup, bbd⟩ := inI_sub hP1.1.2 (by omega)
            have nb : nN (nI b1) = b1 := nN_nI bbd
            obtain ⟨p1, rfl, plo, pup, pbd⟩ := inI_sub hP1.2.1 (by omega)
            have np : nN (nI p1) = p1 := nN_nI pbd
            obtain ⟨q1, rfl, qlo, qup, qbd⟩ := inI_sub hP1.2.2 (by omega)
            have nq : nN (nI q1) = q1 := nN_nI qbd
            obtain ⟨v1, rfl, vlo, vup, vbd⟩ := inI_sub hP2.1 (by omega)
            have nv : nN (nI v1) = v1 := nN_nI vbd
            refine lv_if_ne (x := 1) (tgt := 80) X.1 X.2.1 dX10_flood_75 (by decide) (fun c_75 => ?_) (fun c_75 => by first | exact absurd c_75 (by decide) | exact absurd (by decide) c_75)
            refine lv_aload_n X.1 X.2.1 dX10_flood_80 rfl (lv_at hl 2 rfl) ?_
            refine lv_dup X.1 X.2.1 dX10_flood_81 rfl ?_
            refine r_get (C := RX10) (T := TX10) (N := 14) (ref := "CraterclockModel") X S in_RX10 hy_72 rfl 7 (by decide) (by decide +kernel) (fun _ h => h) rfl dX10_flood_82 ?_
            refine lv_iconst (v := 1) X.1 X.2.1 dX10_flood_85 (by decide) ?_
            refine lv_iadd X.1 X.2.1 dX10_flood_86 ?_
            refine r_toi (y := nI (st 0 1 + 1)) (nI_1 _) ?_
            refine r_put (C := RX10) (T := TX10) (N := 14) (ref := "CraterclockModel") (fs' := [.ref (A 1), .int (nI (st 0 0)), .ref (A 2), .ref (A 3), .ref (A 5), .ref (A 7), .int (nI (st 0 4)), .int (nI (st 0 1 + 1)), .int (nI (st 0 2)), .ref (A 9), .int (nI (st 0 3)), .ref (A 10), .ref (A 11), .int (nI 0)]) (ty := .int) X S in_RX10 tyX10 tyX10_ok nmX10 hy_72 (by decide) rfl 7 (by decide) (by decide +kernel) (fun _ h => h) rfl (by decide +kernel) rfl rfl (Nat.le_of_ble_eq_true rfl) rfl dX10_flood_87 (fun H locs S => ?_)
            obtain ⟨f_87, ef_87⟩ : ∃ z9 : Wd, z9 = wu f_72 y 1000 (.inr (10, [.ref (A 1), .int (nI (st 0 0)), .ref (A 2), .ref (A 3), .ref (A 5), .ref (A 7), .int (nI (st 0 4)), .int (nI (st 0 1 + 1)), .int (nI (st 0 2)), .ref (A 9), .int (nI (st 0 3)), .ref (A 10), .ref (A 11), .int (nI 0)])) := ⟨_, rfl⟩
            rw [← ef_87] at S
            have hy_87 : f_87 y = some (1000, .inr (10, [.ref (A 1), .int (nI (st 0 0)), .ref (A 2), .ref (A 3), .ref (A 5), .ref (A 7), .int (nI (st 0 4)), .int (nI (st 0 1 + 1)), .int (nI (st 0 2)), .ref (A 9), .int (nI (st 0 3)), .ref (A 10), .ref (A 11), .int (nI 0)])) := by rw [ef_87]; exact wu_self _ _ _ _
            have hA2_87 : f_87 (A 2) = some (1002, eI G 200 (V 2)) := by rw [ef_87]; exact wu_get hy_72 hA2_72 (by decide)
            have hA3_87 : f_87 (A 3) = some (1003, eI G 200 (V 3)) := by rw [ef_87]; exact wu_get hy_72 hA3_72 (by decide)
            have hA7_87 : f_87 (A 7) = some (1007, eI G 200 (V 7)) := by rw [ef_87]; exact wu_get hy_72 hA7_72 (by decide)
            have mm_87 : md tM f f_87 := by rw [ef_87]; exact md_tr mm_72 (md_put hy_72) (fun _ q => q) (fun t q => by subst q; unfold tM; omega)
            refine lv_iconst (v := 0) X.1 X.2.1 dX10_flood_90 (by decide) ?_
            refine lv_istore (lv' := [(8, .int 0), (7, .int 1), (6, .int (b2i (decide (((0 ≤ (nI a1).toInt ∧ (nI a1).toInt ≤ 15) ∧ (0 ≤ (nI b1).toInt ∧ (nI b1).toInt ≤ 15)) ∧ ((0 ≤ (nI p1).toInt ∧ (nI p1).toInt ≤ 15) ∧ (0 ≤ (nI q1).toInt ∧ (nI q1).toInt ≤ 15)))))), (0, .ref y), (1, .int (nI a1)), (2, .int (nI b1)), (3, .int (nI p1)), (4, .int (nI q1)), (5, .int (nI v1))]) X.1 X.2.1 dX10_flood_91 hl (by decide) rfl (fun ls hl => ?_)
            refine lv_iconst (v := 0) X.1 X.2.1 dX10_flood_93 (by decide) ?_
            refine lv_istore (lv' := [(9, .int 0), (8, .int 0), (7, .int 1), (6, .int (b2i (decide (((0 ≤ (nI a1).toInt ∧ (nI a1).toInt ≤ 15) ∧ (0 ≤ (nI b1).toInt ∧ (nI b1).toInt ≤ 15)) ∧ ((0 ≤ (nI p1).toInt ∧ (nI p1).toInt ≤ 15) ∧ (0 ≤ (nI q1).toInt ∧ (nI q1).toInt ≤ 15)))))), (0, .ref y), (1, .int (nI a1)), (2, .int (nI b1)), (3, .int (nI p1)), (4, .int (nI q1)), (5, .int (nI v1))]) X.1 X.2.1 dX10_flood_94 hl (by decide) rfl (fun ls hl => ?_)
            have mk0 : md (fun t => t = 1000 ∨ t = 1007) f f_87 := by rw [ef_87, e_can, wu_wu]; exact md_mono (md_put hy) (fun t q => Or.inl q)
            refine W_genQ (fun Q9 hQ9 => ?_)
            have loop : ∀ (N : Nat) (k : Nat) (fk : Wd) (w7 : Nat → Int32) (H : Heap) (locs : List Loc) (ls : Array Slot), k ≤ st 0 0 → st 0 0 < k + N → md (fun t => t = 1007) f_87 fk → fk (A 7) = some (1007, eI G 200 w7) → (∀ j, j < k → w7 j = nI (st 7 j - lessC st (floodφ a1 b1 p1 q1 v1) j)) → (∀ j, k ≤ j → j < st 0 0 → w7 j = nI (st 7 j)) → cxS G s0 fk H locs → lv_has ls 10 [(0, .ref y), (1, .int (nI a1)), (2, .int (nI b1)), (3, .int (nI p1)), (4, .int (nI q1)), (5, .int (nI v1)), (8, .int (nI (cn (goneL st (floodφ a1 b1 p1 q1 v1)) k))), (9, .int (nI k))] → W p0 l e0 ({ frames := 3, cells := 0, slots := 0, locals := 66 } : Room) s0 m0 ([.ref y, .int (nI a1), .int (nI b1), .int (nI p1), .int (nI q1), .int (nI v1)] : List Value).toArray b0 meth0 c0 H locs 0 0 Q9 (F0 m0 96 ls []) := by
              intro N
              induction N with
              | zero =>
                intro k fk w7  H locs ls hk hN hmk h7 hdn htd S hl
                exfalso
                omega
              | succ N ih =>
                intro k fk w7  H locs ls hk hN hmk h7 hdn htd S hl
                have hy_87_k := hmk _ _ _ hy_87 (by omega)
                have hA2_87_k := hmk _ _ _ hA2_87 (by omega)
                have hA3_87_k := hmk _ _ _ hA3_87 (by omega)
                refine lv_iload X.1 X.2.1 dX10_flood_96 (lv_at hl 7 rfl) ?_
                refine lv_aload_n X.1 X.2.1 dX10_flood_98 rfl (lv_at hl 0 rfl) ?_
                refine r_get (C := RX10) (T := TX10) (N := 14) (ref := "CraterclockModel") X S in_RX10 hy_87_k rfl 1 (by decide) (by decide +kernel) (fun _ h => h) rfl dX10_flood_99 ?_
                refine lv_icmp_ge (tgt := 146) X.1 X.2.1 dX10_flood_102 (by decide) (fun c_102 => ?_) (fun c_102 => ?_)
                · have hkn : k = st 0 0 := by
                    have := (nI_leI (by omega) (by omega)).mp c_102
                    omega
                  subst hQ9
                  have mm_k : md tM f fk := md_tr mk0 hmk (fun t q => by unfold tM; omega) (fun t q => by unfold tM; omega)
                  have hyk := hy_87_k
                  refine lv_iload X.1 X.2.1 dX10_flood_146 (lv_at hl 6 rfl) ?_
                  refine e_i X hr S (Nat.le_of_ble_eq_true rfl) (Nat.le_of_ble_eq_true rfl) dX10_flood_148 ?_
                  rw [hKC]
                  refine ⟨?_, mm_k, fun _ => ?_⟩
                  · rw [na, nb, np, nq, nv]; exact ⟨A, _, VL, RMx_less2 hM (md_tr mk0 hmk (fun _ q => q) (fun t q => Or.inr q)) hyk h7 hkn hdn⟩
                  · rw [na, nb, np, nq, nv, hkn]
                · have hlt_k : k < st 0 0 := Nat.lt_of_not_le (fun z => c_102 (nI_le z (by omega)))
                  have hck := hi2 k hlt_k
                  have hr7 := hck.2.2.2.2.2.1
                  have hd7 := hck.2.2.2.2.2.2
                  refine lv_iload X.1 X.2.1 dX10_flood_105 (lv_at hl 6 rfl) ?_
                  refine lv_aload_n X.1 X.2.1 dX10_flood_107 rfl (lv_at hl 0 rfl) ?_
                  refine lv_iload X.1 X.2.1 dX10_flood_108 (lv_at hl 7 rfl) ?_
                  refine lv_iload_n X.1 X.2.1 dX10_flood_110 rfl (lv_at hl 1 rfl) ?_
                  refine lv_iload_n X.1 X.2.1 dX10_flood_111 rfl (lv_at hl 2 rfl) ?_
                  refine lv_iload_n X.1 X.2.1 dX10_flood_112 rfl (lv_at hl 3 rfl) ?_
                  refine lv_iload X.1 X.2.1 dX10_flood_113 (lv_at hl 4 rfl) ?_
                  refine call_ip (run_V X S (n_isWithin l G fk y A (nI (st 0 0)) (nI (st 0 4)) (nI (st 0 1 + 1)) (nI (st 0 2)) (nI (st 0 3)) (nI 0) hy_87_k (V 2) (V 3) hA2_87_k hA3_87_k k (st 2 k) (st 3 k) a1 b1 p1 q1 (by omega) hck.1 hck.2.1 (by omega) (by omega) (by omega) (by omega) (hvk k hlt_k).1 (hvk k hlt_k).2.1) 5 gX10_flood_X10_isWithin rfl rfl rfl (by decide +kernel) ⟨(by exact Nat.le_of_ble_eq_true rfl), (by exact Nat.le_of_ble_eq_true rfl)⟩ ⟨_, _, hy_87_k⟩ rfl rfl rfl hl.1 rfl (by exact Nat.le_of_ble_eq_true rfl) dX10_flood_115 ⟨(Nat.zero_le _), (Nat.zero_le _)⟩) S (fun r_115 H locs hr_115 S => ?_)
                  subst hr_115
                  refine r_eqB (tgt := 136) X dX10_flood_118 (by decide) (fun c_118 => ?_) (fun c_118 => ?_)
                  · refine lv_iconst (v := 0) X.1 X.2.1 dX10_flood_136 (by decide) ?_
                    refine lv_iadd X.1 X.2.1 dX10_flood_137 ?_
                    refine lv_istore (lv' := [(8, .int ((nI (cn (goneL st (floodφ a1 b1 p1 q1 v1)) k)) + 0)), (0, .ref y), (1, .int (nI a1)), (2, .int (nI b1)), (3, .int (nI p1)), (4, .int (nI q1)), (5, .int (nI v1)), (9, .int (nI k))]) X.1 X.2.1 dX10_flood_138 hl (by decide) rfl (fun ls hl => ?_)
                    refine lv_iinc (v := (nI (k + 1))) (lv' := [(9, .int (nI (k + 1))), (8, .int ((nI (cn (goneL st (floodφ a1 b1 p1 q1 v1)) k)) + 0)), (0, .ref y), (1, .int (nI a1)), (2, .int (nI b1)), (3, .int (nI p1)), (4, .int (nI q1)), (5, .int (nI v1))]) X.1 X.2.1 dX10_flood_140 hl (k := 7) rfl (nI_1 _) (by decide) rfl (fun ls hl => ?_)
                    refine lv_goto (tgt := 96) X.1 X.2.1 dX10_flood_143 (by decide) ?_
                    have hC := flood_C (st := st) (k := k) (x := a1) (y := b1) (tx := p1) (ty := q1) (v := v1) hck.1 hck.2.1
                    rw [if_neg (of_decide_eq_false c_118)] at hC
                    have hB := hC
                    have hg : goneL st (floodφ a1 b1 p1 q1 v1) k = false := decide_eq_false (fun q => by rw [hB] at q; omega)
                    have hcn : nI (cn (goneL st (floodφ a1 b1 p1 q1 v1)) (k + 1)) = nI (cn (goneL st (floodφ a1 b1 p1 q1 v1)) k) + 0 := by rw [cn_f hg]; exact (Int32.add_zero _).symm
                    exact ih (k + 1) fk w7 H locs ls (by omega) (by omega) hmk h7 (fun j hj => by rcases (by omega : j < k ∨ j = k) with q | q; exact hdn j q; rw [q, hB, Nat.sub_zero]; exact htd k (Nat.le_refl _) hlt_k) (fun j h1 h2 => htd j (by omega) h2) S (by rw [hcn]; exact lv_sub hl [2, 3, 4, 5, 6, 7, 1, 0] rfl)
                  · refine lv_aload_n X.1 X.2.1 dX10_flood_121 rfl (lv_at hl 0 rfl) ?_
                    refine lv_iload X.1 X.2.1 dX10_flood_122 (lv_at hl 7 rfl) ?_
                    refine lv_iload X.1 X.2.1 dX10_flood_124 (lv_at hl 5 rfl) ?_
                    refine call_i (run_V X S (n_lessens l G fk y A (nI (st 0 0)) (nI (st 0 4)) (nI (st 0 1 + 1)) (nI (st 0 2)) (nI (st 0 3)) (nI 0) hy_87_k w7 h7 k (st 7 k) v1 (by omega) (by omega) (by omega) (htd k (Nat.le_refl _) hlt_k)) 2 gX10_flood_X10_lessens rfl rfl rfl (by decide +kernel) ⟨(by exact Nat.le_of_ble_eq_true rfl), (by exact Nat.le_of_ble_eq_true rfl)⟩ ⟨_, _, hy_87_k⟩ rfl rfl rfl hl.1 rfl (by exact Nat.le_of_ble_eq_true rfl) dX10_flood_126 ⟨(by exact Nat.le_of_ble_eq_true rfl), (by exact Nat.le_of_ble_eq_true rfl)⟩) S (fun r_126 f_126 H locs hr_126 S => ?_)
                    obtain ⟨rfl, eLs⟩ := hr_126
                    refine r_eqB (tgt := 136) X dX10_flood_129 (by decide) (fun c_129 => ?_) (fun c_129 => ?_)
                    · refine lv_iconst (v := 0) X.1 X.2.1 dX10_flood_136 (by decide) ?_
                      refine lv_iadd X.1 X.2.1 dX10_flood_137 ?_
                      refine lv_istore (lv' := [(8, .int ((nI (cn (goneL st (floodφ a1 b1 p1 q1 v1)) k)) + 0)), (0, .ref y), (1, .int (nI a1)), (2, .int (nI b1)), (3, .int (nI p1)), (4, .int (nI q1)), (5, .int (nI v1)), (9, .int (nI k))]) X.1 X.2.1 dX10_flood_138 hl (by decide) rfl (fun ls hl => ?_)
                      refine lv_iinc (v := (nI (k + 1))) (lv' := [(9, .int (nI (k + 1))), (8, .int ((nI (cn (goneL st (floodφ a1 b1 p1 q1 v1)) k)) + 0)), (0, .ref y), (1, .int (nI a1)), (2, .int (nI b1)), (3, .int (nI p1)), (4, .int (nI q1)), (5, .int (nI v1))]) X.1 X.2.1 dX10_flood_140 hl (k := 7) rfl (nI_1 _) (by decide) rfl (fun ls hl => ?_)
                      refine lv_goto (tgt := 96) X.1 X.2.1 dX10_flood_143 (by decide) ?_
                      have hC := flood_C (st := st) (k := k) (x := a1) (y := b1) (tx := p1) (ty := q1) (v := v1) hck.1 hck.2.1
                      rw [if_pos (of_decide_eq_true c_118)] at hC
                      have hB := hC
                      have hE : st 7 k - v1 = st 7 k - lessC st (floodφ a1 b1 p1 q1 v1) k := by rw [hB]
                      have hg : goneL st (floodφ a1 b1 p1 q1 v1) k = false := decide_eq_false (fun q => by rw [hB] at q; exact of_decide_eq_false c_129 (by omega))
                      have hcn : nI (cn (goneL st (floodφ a1 b1 p1 q1 v1)) (k + 1)) = nI (cn (goneL st (floodφ a1 b1 p1 q1 v1)) k) + 0 := by rw [cn_f hg]; exact (Int32.add_zero _).symm
                      rw [hE] at eLs
                      exact ih (k + 1) f_126 (upd w7 k (nI (st 7 k - lessC st (floodφ a1 b1 p1 q1 v1) k))) H locs ls (by omega) (by omega) (by rw [eLs]; exact md_tr hmk (md_put h7) (fun _ q => q) (fun _ q => q)) (by rw [eLs]; exact wu_self _ _ _ _) (fun j hj => by rcases (by omega : j < k ∨ j = k) with q | q; rw [pk_un (by omega)]; exact hdn j q; rw [q]; exact pk_us) (fun j h1 h2 => by rw [pk_un (by omega)]; exact htd j (by omega) h2) S (by rw [hcn]; exact lv_sub hl [2, 3, 4, 5, 6, 7, 1, 0] rfl)
                    · refine lv_iconst (v := 1) X.1 X.2.1 dX10_flood_132 (by decide) ?_
                      refine lv_goto (tgt := 137) X.1 X.2.1 dX10_flood_133 (by decide) ?_
                      refine lv_iadd X.1 X.2.1 dX10_flood_137 ?_
                      refine lv_istore (lv' := [(8, .int ((nI (cn (goneL st (floodφ a1 b1 p1 q1 v1)) k)) + 1)), (0, .ref y), (1, .int (nI a1)), (2, .int (nI b1)), (3, .int (nI p1)), (4, .int (nI q1)), (5, .int (nI v1)), (9, .int (nI k))]) X.1 X.2.1 dX10_flood_138 hl (by decide) rfl (fun ls hl => ?_)
                      refine lv_iinc (v := (nI (k + 1))) (lv' := [(9, .int (nI (k + 1))), (8, .int ((nI (cn (goneL st (floodφ a1 b1 p1 q1 v1)) k)) + 1)), (0, .ref y), (1, .int (nI a1)), (2, .int (nI b1)), (3, .int (nI p1)), (4, .int (nI q1)), (5, .int (nI v1))]) X.1 X.2.1 dX10_flood_140 hl (k := 7) rfl (nI_1 _) (by decide) rfl (fun ls hl => ?_)
                      refine lv_goto (tgt := 96) X.1 X.2.1 dX10_flood_143 (by decide) ?_
                      have hC := flood_C (st := st) (k := k) (x := a1) (y := b1) (tx := p1) (ty := q1) (v := v1) hck.1 hck.2.1
                      rw [if_pos (of_decide_eq_true c_118)] at hC
                      have hB := hC
                      have hE : st 7 k - v1 = st 7 k - lessC st (floodφ a1 b1 p1 q1 v1) k := by rw [hB]
                      have hg : goneL st (floodφ a1 b1 p1 q1 v1) k = true := decide_eq_true (by have := of_decide_eq_true c_129; rw [hB]; omega)
                      have hcn : nI (cn (goneL st (floodφ a1 b1 p1 q1 v1)) (k + 1)) = nI (cn (goneL st (floodφ a1 b1 p1 q1 v1)) k) + 1 := by rw [cn_t hg]; exact nI_succ _
                      rw [hE] at eLs
                      exact ih (k + 1) f_126 (upd w7 k (nI (st 7 k - lessC st (floodφ a1 b1 p1 q1 v1) k))) H locs ls (by omega) (by omega) (by rw [eLs]; exact md_tr hmk (md_put h7) (fun _ q => q) (fun _ q => q)) (by rw [eLs]; exact wu_self _ _ _ _) (fun j hj => by rcases (by omega : j < k ∨ j = k) with q | q; rw [pk_un (by omega)]; exact hdn j q; rw [q]; exact pk_us) (fun j h1 h2 => by rw [pk_un (by omega)]; exact htd j (by omega) h2) S (by rw [hcn]; exact lv_sub hl [2, 3, 4, 5, 6, 7, 1, 0] rfl)
            exact loop (st 0 0 + 1) 0 f_87 (V 7) _ _ _ (by omega) (by omega) (md_rf _ _) hA7_87 (fun j hj => absurd hj (Nat.not_lt_zero j)) (fun j _ hj => (hvk j hj).2.2.2) S (lv_sub hl [4, 5, 6, 7, 8, 9, 1, 0] rfl)
          · refine lv_iconst (v := 3) X.1 X.2.1 dX10_flood_67 (by decide) ?_
            refine lv_goto (tgt := 72) X.1 X.2.1 dX10_flood_68 (by decide) ?_
            refine call_i (run_V X S (n_can l G f y A (nI (st 0 0)) (nI (st 0 4)) (nI (st 0 1)) (nI (st 0 2)) (nI (st 0 3)) thr hy 3 (by omega)) 1 gX10_flood_X10_can rfl rfl rfl (by decide +kernel) ⟨(by exact Nat.le_of_ble_eq_true rfl), (by exact Nat.le_of_ble_eq_true rfl)⟩ ⟨_, _, hy⟩ rfl rfl rfl hl.1 rfl (by exact Nat.le_of_ble_eq_true rfl) dX10_flood_72 ⟨(by exact Nat.le_of_ble_eq_true rfl), (by exact Nat.le_of_ble_eq_true rfl)⟩) S (fun r_72 f_72 H locs hr_72 S => ?_)
            obtain ⟨rfl, e_can⟩ := hr_72
            have hy_72 : f_72 y = some (1000, .inr (10, [.ref (A 1), .int (nI (st 0 0)), .ref (A 2), .ref (A 3), .ref (A 5), .ref (A 7), .int (nI (st 0 4)), .int (nI (st 0 1)), .int (nI (st 0 2)), .ref (A 9), .int (nI (st 0 3)), .ref (A 10), .ref (A 11), .int (nI 3)])) := by rw [e_can]; exact wu_self _ _ _ _
            have hA2_72 : f_72 (A 2) = some (1002, eI G 200 (V 2)) := by rw [e_can]; exact wu_get hy hA2 (by decide)
            have hA3_72 : f_72 (A 3) = some (1003, eI G 200 (V 3)) := by rw [e_can]; exact wu_get hy hA3 (by decide)
            have hA7_72 : f_72 (A 7) = some (1007, eI G 200 (V 7)) := by rw [e_can]; exact wu_get hy hA7 (by decide)
            have mm_72 : md tM f f_72 := by rw [e_can]; exact md_tr mm0 (md_put hy) (fun _ q => q) (fun t q => by subst q; unfold tM; omega)
            have hM0 : RMx G f_72 st y A V VL (nI 3) := by rw [e_can]; exact RMx_thr hM
            refine r_toi (y := 0) (by rfl) ?_
            have hKC : (k3 (cellP a b ∧ cellP p q) (inI v 1 40 ∧ ordP a b p q) (st 0 1 < 100)) = 3 := k3_3 (dT c_42) ⟨dT c_29, by rw [i_lt] at c_12 c_18; exact ⟨by omega, by omega⟩⟩ (fun z => by have := (nI_eq (b := 100) (by omega) (by omega)).mp c_64; omega)
            refine lv_if_ne (x := 0) (tgt := 80) X.1 X.2.1 dX10_flood_75 (by decide) (fun c_75 => by first | exact absurd c_75 (by decide) | exact absurd (by decide) c_75) (fun c_75 => ?_)
            refine lv_iconst (v := 0) X.1 X.2.1 dX10_flood_78 (by decide) ?_
            refine e_i X hr S (Nat.le_of_ble_eq_true rfl) (Nat.le_of_ble_eq_true rfl) dX10_flood_79 ?_
            rw [hKC]
            exact ⟨⟨A, V, VL, hM0⟩, mm_72, fun z => absurd z (by decide)⟩
        · refine lv_iconst (v := 1) X.1 X.2.1 dX10_flood_45 (by decide) ?_
          refine lv_goto (tgt := 72) X.1 X.2.1 dX10_flood_46 (by decide) ?_
          refine call_i (run_V X S (n_can l G f y A (nI (st 0 0)) (nI (st 0 4)) (nI (st 0 1)) (nI (st 0 2)) (nI (st 0 3)) thr hy 1 (by omega)) 1 gX10_flood_X10_can rfl rfl rfl (by decide +kernel) ⟨(by exact Nat.le_of_ble_eq_true rfl), (by exact Nat.le_of_ble_eq_true rfl)⟩ ⟨_, _, hy⟩ rfl rfl rfl hl.1 rfl (by exact Nat.le_of_ble_eq_true rfl) dX10_flood_72 ⟨(by exact Nat.le_of_ble_eq_true rfl), (by exact Nat.le_of_ble_eq_true rfl)⟩) S (fun r_72 f_72 H locs hr_72 S => ?_)
          obtain ⟨rfl, e_can⟩ := hr_72
          have hy_72 : f_72 y = some (1000, .inr (10, [.ref (A 1), .int (nI (st 0 0)), .ref (A 2), .ref (A 3), .ref (A 5), .ref (A 7), .int (nI (st 0 4)), .int (nI (st 0 1)), .int (nI (st 0 2)), .ref (A 9), .int (nI (st 0 3)), .ref (A 10), .ref (A 11), .int (nI 1)])) := by rw [e_can]; exact wu_self _ _ _ _
          have hA2_72 : f_72 (A 2) = some (1002, eI G 200 (V 2)) := by rw [e_can]; exact wu_get hy hA2 (by decide)
          have hA3_72 : f_72 (A 3) = some (1003, eI G 200 (V 3)) := by rw [e_can]; exact wu_get hy hA3 (by decide)
          have hA7_72 : f_72 (A 7) = some (1007, eI G 200 (V 7)) := by rw [e_can]; exact wu_get hy hA7 (by decide)
          have mm_72 : md tM f f_72 := by rw [e_can]; exact md_tr mm0 (md_put hy) (fun _ q => q) (fun t q => by subst q; unfold tM; omega)
          have hM0 : RMx G f_72 st y A V VL (nI 1) := by rw [e_can]; exact RMx_thr hM
          refine r_toi (y := 0) (by rfl) ?_
          have hKC : (k3 (cellP a b ∧ cellP p q) (inI v 1 40 ∧ ordP a b p q) (st 0 1 < 100)) = 1 := k3_1 (dF c_42)
          refine lv_if_ne (x := 0) (tgt := 80) X.1 X.2.1 dX10_flood_75 (by decide) (fun c_75 => by first | exact absurd c_75 (by decide) | exact absurd (by decide) c_75) (fun c_75 => ?_)
          refine lv_iconst (v := 0) X.1 X.2.1 dX10_flood_78 (by decide) ?_
          refine e_i X hr S (Nat.le_of_ble_eq_true rfl) (Nat.le_of_ble_eq_true rfl) dX10_flood_79 ?_
          rw [hKC]
          exact ⟨⟨A, V, VL, hM0⟩, mm_72, fun z => absurd z (by decide)⟩

set_option maxRecDepth 100000 in
set_option maxHeartbeats 4000000 in
/-- soften -/
theorem n_soften (l : Launch) (G : cx_G) (f : Wd) (st : St) (y : Nat) (A : Nat → Nat) (V : Nat → Nat → Int32) (VL : Nat → Nat → Int64) (thr : Int32) (hI : sInv st) (hM : RMx G f st y A V VL thr) (v : Int32) : MI l G yX10_soften wsX10_soften 1 23 0 0 [.ref y, .int v] f (fun r f' => RM G f' (stp (k2 (inI v 1 40) (st 0 1 < 100)) (lessSt st (softφ (st 1) (nN v))) st) y (nI (k2 (inI v 1 40) (st 0 1 < 100))) ∧ md tM f f' ∧ ((k2 (inI v 1 40) (st 0 1 < 100)) = 0 → r = nI (cn (goneL st (softφ (st 1) (nN v))) (st 0 0)))) := by
  refine cx_body (cc := cX10_soften) (n := 5) (ret := (some .int)) (by decide +kernel) rfl (Nat.le_of_ble_eq_true rfl) ?_
  intro p0 e0 s0 m0 b0 meth0 c0 ls X hr hnm S hl
  have X : cxC G p0 l _ c0 cX10_soften 5 m0 meth0 s0 _ RX10 wsX10_soften := X
  have hl : lv_has ls 5 [(0, .ref y), (1, .int v)] := hl
  have in_RX10 : ∀ w ∈ u_ws RX10 TX10 14, w ∈ wsX10_soften := by decide +kernel
  obtain ⟨hi0, hi1, hi2, hi3, hi4, hi5, hi6, hi7⟩ := id hI
  obtain ⟨hy, ⟨hA1, hA2, hA3, hA5, hA7, hA9, hA10, hA11⟩, hv1, hvk, hv9, hvL⟩ := id hM
  have mm0 : md tM f f := md_rf _ _
  refine lv_aload_n X.1 X.2.1 dX10_soften_0 rfl (lv_at hl 0 rfl) ?_
  refine lv_iload_n X.1 X.2.1 dX10_soften_1 rfl (lv_at hl 1 rfl) ?_
  refine lv_iconst (v := 1) X.1 X.2.1 dX10_soften_2 (by decide) ?_
  refine lv_bipush (v := 40) X.1 X.2.1 dX10_soften_3 (by decide) ?_
  refine call_ip (run_S X S (n_isIn l G f v 1 40 1 40 (by decide) (by decide)) 3 gX10_soften_X10_isIn rfl rfl rfl (by decide +kernel) ⟨(by exact Nat.le_of_ble_eq_true rfl), (by exact Nat.le_of_ble_eq_true rfl)⟩ rfl hl.1 rfl (by exact Nat.le_of_ble_eq_true rfl) dX10_soften_5 ⟨(Nat.zero_le _), (Nat.zero_le _)⟩) S (fun r_5 H locs hr_5 S => ?_)
  subst hr_5
  refine r_neB (tgt := 15) X dX10_soften_8 (by decide) (fun c_8 => ?_) (fun c_8 => ?_)
  · refine lv_aload_n X.1 X.2.1 dX10_soften_15 rfl (lv_at hl 0 rfl) ?_
    refine r_get (C := RX10) (T := TX10) (N := 14) (ref := "CraterclockModel") X S in_RX10 hy rfl 7 (by decide) (by decide +kernel) (fun _ h => h) rfl dX10_soften_16 ?_
    refine lv_bipush (v := 100) X.1 X.2.1 dX10_soften_19 (by decide) ?_
    refine lv_icmp_ne (tgt := 28) X.1 X.2.1 dX10_soften_21 (by decide) (fun c_21 => ?_) (fun c_21 => ?_)
    · refine lv_iconst (v := 0) X.1 X.2.1 dX10_soften_28 (by decide) ?_
      refine call_i (run_V X S (n_can l G f y A (nI (st 0 0)) (nI (st 0 4)) (nI (st 0 1)) (nI (st 0 2)) (nI (st 0 3)) thr hy 0 (by omega)) 1 gX10_soften_X10_can rfl rfl rfl (by decide +kernel) ⟨(by exact Nat.le_of_ble_eq_true rfl), (by exact Nat.le_of_ble_eq_true rfl)⟩ ⟨_, _, hy⟩ rfl rfl rfl hl.1 rfl (by exact Nat.le_of_ble_eq_true rfl) dX10_soften_29 ⟨(by exact Nat.le_of_ble_eq_true rfl), (by exact Nat.le_of_ble_eq_true rfl)⟩) S (fun r_29 f_29 H locs hr_29 S => ?_)
      obtain ⟨rfl, e_can⟩ := hr_29
      have hy_29 : f_29 y = some (1000, .inr (10, [.ref (A 1), .int (nI (st 0 0)), .ref (A 2), .ref (A 3), .ref (A 5), .ref (A 7), .int (nI (st 0 4)), .int (nI (st 0 1)), .int (nI (st 0 2)), .ref (A 9), .int (nI (st 0 3)), .ref (A 10), .ref (A 11), .int (nI 0)])) := by rw [e_can]; exact wu_self _ _ _ _
      have hA1_29 : f_29 (A 1) = some (1001, eI G 256 (V 1)) := by rw [e_can]; exact wu_get hy hA1 (by decide)
      have hA2_29 : f_29 (A 2) = some (1002, eI G 200 (V 2)) := by rw [e_can]; exact wu_get hy hA2 (by decide)
      have hA3_29 : f_29 (A 3) = some (1003, eI G 200 (V 3)) := by rw [e_can]; exact wu_get hy hA3 (by decide)
      have hA7_29 : f_29 (A 7) = some (1007, eI G 200 (V 7)) := by rw [e_can]; exact wu_get hy hA7 (by decide)
      have mm_29 : md tM f f_29 := by rw [e_can]; exact md_tr mm0 (md_put hy) (fun _ q => q) (fun t q => by subst q; unfold tM; omega)
      have hM0 : RMx G f_29 st y A V VL (nI 0) := by rw [e_can]; exact RMx_thr hM
      refine r_toi (y := 1) (by rfl) ?_
      have hP1 : inI v 1 40 := dT c_8
      have hP3 : st 0 1 < 100 := by have h9 : st 0 1 ≠ 100 := (fun z => c_21 (by rw [z]; rfl)); omega
      have hKC : (k2 (inI v 1 40) (st 0 1 < 100)) = 0 := k2_0 hP1 hP3
      obtain ⟨v1, rfl, vlo, vup, vbd⟩ := inI_sub hP1 (by omega)
      have nv : nN (nI v1) = v1 := nN_nI vbd
      refine lv_if_ne (x := 1) (tgt := 37) X.1 X.2.1 dX10_soften_32 (by decide) (fun c_32 => ?_) (fun c_32 => by first | exact absurd c_32 (by decide) | exact absurd (by decide) c_32)
      refine lv_aload_n X.1 X.2.1 dX10_soften_37 rfl (lv_at hl 0 rfl) ?_
      refine lv_dup X.1 X.2.1 dX10_soften_38 rfl ?_
      refine r_get (C := RX10) (T := TX10) (N := 14) (ref := "CraterclockModel") X S in_RX10 hy_29 rfl 7 (by decide) (by decide +kernel) (fun _ h => h) rfl dX10_soften_39 ?_
      refine lv_iconst (v := 1) X.1 X.2.1 dX10_soften_42 (by decide) ?_
      refine lv_iadd X.1 X.2.1 dX10_soften_43 ?_
      refine r_toi (y := nI (st 0 1 + 1)) (nI_1 _) ?_
      refine r_put (C := RX10) (T := TX10) (N := 14) (ref := "CraterclockModel") (fs' := [.ref (A 1), .int (nI (st 0 0)), .ref (A 2), .ref (A 3), .ref (A 5), .ref (A 7), .int (nI (st 0 4)), .int (nI (st 0 1 + 1)), .int (nI (st 0 2)), .ref (A 9), .int (nI (st 0 3)), .ref (A 10), .ref (A 11), .int (nI 0)]) (ty := .int) X S in_RX10 tyX10 tyX10_ok nmX10 hy_29 (by decide) rfl 7 (by decide) (by decide +kernel) (fun _ h => h) rfl (by decide +kernel) rfl rfl (Nat.le_of_ble_eq_true rfl) rfl dX10_soften_44 (fun H locs S => ?_)
      obtain ⟨f_44, ef_44⟩ : ∃ z9 : Wd, z9 = wu f_29 y 1000 (.inr (10, [.ref (A 1), .int (nI (st 0 0)), .ref (A 2), .ref (A 3), .ref (A 5), .ref (A 7), .int (nI (st 0 4)), .int (nI (st 0 1 + 1)), .int (nI (st 0 2)), .ref (A 9), .int (nI (st 0 3)), .ref (A 10), .ref (A 11), .int (nI 0)])) := ⟨_, rfl⟩
      rw [← ef_44] at S
      have hy_44 : f_44 y = some (1000, .inr (10, [.ref (A 1), .int (nI (st 0 0)), .ref (A 2), .ref (A 3), .ref (A 5), .ref (A 7), .int (nI (st 0 4)), .int (nI (st 0 1 + 1)), .int (nI (st 0 2)), .ref (A 9), .int (nI (st 0 3)), .ref (A 10), .ref (A 11), .int (nI 0)])) := by rw [ef_44]; exact wu_self _ _ _ _
      have hA1_44 : f_44 (A 1) = some (1001, eI G 256 (V 1)) := by rw [ef_44]; exact wu_get hy_29 hA1_29 (by decide)
      have hA2_44 : f_44 (A 2) = some (1002, eI G 200 (V 2)) := by rw [ef_44]; exact wu_get hy_29 hA2_29 (by decide)
      have hA3_44 : f_44 (A 3) = some (1003, eI G 200 (V 3)) := by rw [ef_44]; exact wu_get hy_29 hA3_29 (by decide)
      have hA7_44 : f_44 (A 7) = some (1007, eI G 200 (V 7)) := by rw [ef_44]; exact wu_get hy_29 hA7_29 (by decide)
      have mm_44 : md tM f f_44 := by rw [ef_44]; exact md_tr mm_29 (md_put hy_29) (fun _ q => q) (fun t q => by subst q; unfold tM; omega)
      refine lv_iconst (v := 0) X.1 X.2.1 dX10_soften_47 (by decide) ?_
      refine lv_istore_n (lv' := [(2, .int 0), (0, .ref y), (1, .int (nI v1))]) X.1 X.2.1 dX10_soften_48 rfl hl (by decide) rfl (fun ls hl => ?_)
      refine lv_iconst (v := 0) X.1 X.2.1 dX10_soften_49 (by decide) ?_
      refine lv_istore_n (lv' := [(3, .int 0), (2, .int 0), (0, .ref y), (1, .int (nI v1))]) X.1 X.2.1 dX10_soften_50 rfl hl (by decide) rfl (fun ls hl => ?_)
      have mk0 : md (fun t => t = 1000 ∨ t = 1007) f f_44 := by rw [ef_44, e_can, wu_wu]; exact md_mono (md_put hy) (fun t q => Or.inl q)
      refine W_genQ (fun Q9 hQ9 => ?_)
      have loop : ∀ (N : Nat) (k : Nat) (fk : Wd) (w7 : Nat → Int32) (H : Heap) (locs : List Loc) (ls : Array Slot), k ≤ st 0 0 → st 0 0 < k + N → md (fun t => t = 1007) f_44 fk → fk (A 7) = some (1007, eI G 200 w7) → (∀ j, j < k → w7 j = nI (st 7 j - lessC st (softφ (st 1) v1) j)) → (∀ j, k ≤ j → j < st 0 0 → w7 j = nI (st 7 j)) → cxS G s0 fk H locs → lv_has ls 5 [(0, .ref y), (1, .int (nI v1)), (2, .int (nI (cn (goneL st (softφ (st 1) v1)) k))), (3, .int (nI k))] → W p0 l e0 ({ frames := 1, cells := 0, slots := 0, locals := 23 } : Room) s0 m0 ([.ref y, .int (nI v1)] : List Value).toArray b0 meth0 c0 H locs 0 0 Q9 (F0 m0 51 ls []) := by
        intro N
        induction N with
        | zero =>
          intro k fk w7  H locs ls hk hN hmk h7 hdn htd S hl
          exfalso
          omega
        | succ N ih =>
          intro k fk w7  H locs ls hk hN hmk h7 hdn htd S hl
          have hy_44_k := hmk _ _ _ hy_44 (by omega)
          have hA1_44_k := hmk _ _ _ hA1_44 (by omega)
          have hA2_44_k := hmk _ _ _ hA2_44 (by omega)
          have hA3_44_k := hmk _ _ _ hA3_44 (by omega)
          refine lv_iload_n X.1 X.2.1 dX10_soften_51 rfl (lv_at hl 3 rfl) ?_
          refine lv_aload_n X.1 X.2.1 dX10_soften_52 rfl (lv_at hl 0 rfl) ?_
          refine r_get (C := RX10) (T := TX10) (N := 14) (ref := "CraterclockModel") X S in_RX10 hy_44_k rfl 1 (by decide) (by decide +kernel) (fun _ h => h) rfl dX10_soften_53 ?_
          refine lv_icmp_ge (tgt := 112) X.1 X.2.1 dX10_soften_56 (by decide) (fun c_56 => ?_) (fun c_56 => ?_)
          · have hkn : k = st 0 0 := by
              have := (nI_leI (by omega) (by omega)).mp c_56
              omega
            subst hQ9
            have mm_k : md tM f fk := md_tr mk0 hmk (fun t q => by unfold tM; omega) (fun t q => by unfold tM; omega)
            have hyk := hy_44_k
            refine lv_iload_n X.1 X.2.1 dX10_soften_112 rfl (lv_at hl 2 rfl) ?_
            refine e_i X hr S (Nat.le_of_ble_eq_true rfl) (Nat.le_of_ble_eq_true rfl) dX10_soften_113 ?_
            rw [hKC]
            refine ⟨?_, mm_k, fun _ => ?_⟩
            · rw [nv]; exact ⟨A, _, VL, RMx_less2 hM (md_tr mk0 hmk (fun _ q => q) (fun t q => Or.inr q)) hyk h7 hkn hdn⟩
            · rw [nv, hkn]
          · have hlt_k : k < st 0 0 := Nat.lt_of_not_le (fun z => c_56 (nI_le z (by omega)))
            have hck := hi2 k hlt_k
            have hr7 := hck.2.2.2.2.2.1
            have hd7 := hck.2.2.2.2.2.2
            have hxy := cell_in hck.1 hck.2.1
            have hgk := hi1 _ hxy
            refine lv_aload_n X.1 X.2.1 dX10_soften_59 rfl (lv_at hl 0 rfl) ?_
            refine lv_iload_n X.1 X.2.1 dX10_soften_60 rfl (lv_at hl 3 rfl) ?_
            refine call_ip (run_V X S (n_groundOf l G fk y A (nI (st 0 0)) (nI (st 0 4)) (nI (st 0 1 + 1)) (nI (st 0 2)) (nI (st 0 3)) (nI 0) hy_44_k (V 1) (V 2) (V 3) hA1_44_k hA2_44_k hA3_44_k k (st 2 k) (st 3 k) (st 1 (16 * st 3 k + st 2 k)) (by omega) hck.1 hck.2.1 (hvk k hlt_k).1 (hvk k hlt_k).2.1 (hv1 _ hxy)) 1 gX10_soften_X10_groundOf rfl rfl rfl (by decide +kernel) ⟨(by exact Nat.le_of_ble_eq_true rfl), (by exact Nat.le_of_ble_eq_true rfl)⟩ ⟨_, _, hy_44_k⟩ rfl rfl rfl hl.1 rfl (by exact Nat.le_of_ble_eq_true rfl) dX10_soften_61 ⟨(Nat.zero_le _), (Nat.zero_le _)⟩) S (fun r_61 H locs hr_61 S => ?_)
            subst hr_61
            refine lv_istore (lv' := [(4, .int (nI (st 1 (16 * st 3 k + st 2 k)))), (0, .ref y), (1, .int (nI v1)), (2, .int (nI (cn (goneL st (softφ (st 1) v1)) k))), (3, .int (nI k))]) X.1 X.2.1 dX10_soften_64 hl (by decide) rfl (fun ls hl => ?_)
            refine lv_iload_n X.1 X.2.1 dX10_soften_66 rfl (lv_at hl 3 rfl) ?_
            refine lv_aload_n X.1 X.2.1 dX10_soften_67 rfl (lv_at hl 1 rfl) ?_
            refine lv_iload_n X.1 X.2.1 dX10_soften_68 rfl (lv_at hl 4 rfl) ?_
            refine lv_iload X.1 X.2.1 dX10_soften_69 (lv_at hl 0 rfl) ?_
            refine lv_if_ne (tgt := 80) X.1 X.2.1 dX10_soften_71 (by decide) (fun c_71 => ?_) (fun c_71 => ?_)
            · have hh0 : (st 1 (16 * st 3 k + st 2 k)) ≠ 0 := fun q => c_71 (by rw [q]; rfl)
              refine lv_iload X.1 X.2.1 dX10_soften_80 (lv_at hl 0 rfl) ?_
              refine lv_iconst (v := 1) X.1 X.2.1 dX10_soften_82 (by decide) ?_
              refine lv_icmp_ne (tgt := 90) X.1 X.2.1 dX10_soften_83 (by decide) (fun c_83 => ?_) (fun c_83 => ?_)
              · have hh1 : (st 1 (16 * st 3 k + st 2 k)) ≠ 1 := fun q => c_83 (by rw [q]; rfl)
                refine lv_iconst (v := 2) X.1 X.2.1 dX10_soften_90 (by decide) ?_
                refine lv_iload_n X.1 X.2.1 dX10_soften_91 rfl (lv_at hl 2 rfl) ?_
                refine lv_imul X.1 X.2.1 dX10_soften_92 ?_
                refine r_toi (y := nI (2 * v1)) (pk_mul 2 v1) ?_
                refine call_i (run_V X S (n_lessens l G fk y A (nI (st 0 0)) (nI (st 0 4)) (nI (st 0 1 + 1)) (nI (st 0 2)) (nI (st 0 3)) (nI 0) hy_44_k w7 h7 k (st 7 k) (2 * v1) (by omega) (by omega) (by omega) (htd k (Nat.le_refl _) hlt_k)) 2 gX10_soften_X10_lessens rfl rfl rfl (by decide +kernel) ⟨(by exact Nat.le_of_ble_eq_true rfl), (by exact Nat.le_of_ble_eq_true rfl)⟩ ⟨_, _, hy_44_k⟩ rfl rfl rfl hl.1 rfl (by exact Nat.le_of_ble_eq_true rfl) dX10_soften_93 ⟨(by exact Nat.le_of_ble_eq_true rfl), (by exact Nat.le_of_ble_eq_true rfl)⟩) S (fun r_93 f_93 H locs hr_93 S => ?_)
                obtain ⟨rfl, eLs⟩ := hr_93
                refine r_eqB (tgt := 103) X dX10_soften_96 (by decide) (fun c_96 => ?_) (fun c_96 => ?_)
                · refine lv_iconst (v := 0) X.1 X.2.1 dX10_soften_103 (by decide) ?_
                  refine lv_iadd X.1 X.2.1 dX10_soften_104 ?_
                  refine lv_istore_n (lv' := [(2, .int ((nI (cn (goneL st (softφ (st 1) v1)) k)) + 0)), (4, .int (nI (st 1 (16 * st 3 k + st 2 k)))), (0, .ref y), (1, .int (nI v1)), (3, .int (nI k))]) X.1 X.2.1 dX10_soften_105 rfl hl (by decide) rfl (fun ls hl => ?_)
                  refine lv_iinc (v := (nI (k + 1))) (lv' := [(3, .int (nI (k + 1))), (2, .int ((nI (cn (goneL st (softφ (st 1) v1)) k)) + 0)), (4, .int (nI (st 1 (16 * st 3 k + st 2 k)))), (0, .ref y), (1, .int (nI v1))]) X.1 X.2.1 dX10_soften_106 hl (k := 4) rfl (nI_1 _) (by decide) rfl (fun ls hl => ?_)
                  refine lv_goto (tgt := 51) X.1 X.2.1 dX10_soften_109 (by decide) ?_
                  have hB : lessC st (softφ (st 1) v1) k = (2 * v1) := by unfold lessC softφ; rw [if_neg hh1, if_pos (by omega)]
                  have hE : st 7 k - (2 * v1) = st 7 k - lessC st (softφ (st 1) v1) k := by rw [hB]
                  have hg : goneL st (softφ (st 1) v1) k = false := decide_eq_false (fun q => by rw [hB] at q; exact of_decide_eq_false c_96 (by omega))
                  have hcn : nI (cn (goneL st (softφ (st 1) v1)) (k + 1)) = nI (cn (goneL st (softφ (st 1) v1)) k) + 0 := by rw [cn_f hg]; exact (Int32.add_zero _).symm
                  rw [hE] at eLs
                  exact ih (k + 1) f_93 (upd w7 k (nI (st 7 k - lessC st (softφ (st 1) v1) k))) H locs ls (by omega) (by omega) (by rw [eLs]; exact md_tr hmk (md_put h7) (fun _ q => q) (fun _ q => q)) (by rw [eLs]; exact wu_self _ _ _ _) (fun j hj => by rcases (by omega : j < k ∨ j = k) with q | q; rw [pk_un (by omega)]; exact hdn j q; rw [q]; exact pk_us) (fun j h1 h2 => by rw [pk_un (by omega)]; exact htd j (by omega) h2) S (by rw [hcn]; exact lv_sub hl [3, 4, 1, 0] rfl)
                · refine lv_iconst (v := 1) X.1 X.2.1 dX10_soften_99 (by decide) ?_
                  refine lv_goto (tgt := 104) X.1 X.2.1 dX10_soften_100 (by decide) ?_
                  refine lv_iadd X.1 X.2.1 dX10_soften_104 ?_
                  refine lv_istore_n (lv' := [(2, .int ((nI (cn (goneL st (softφ (st 1) v1)) k)) + 1)), (4, .int (nI (st 1 (16 * st 3 k + st 2 k)))), (0, .ref y), (1, .int (nI v1)), (3, .int (nI k))]) X.1 X.2.1 dX10_soften_105 rfl hl (by decide) rfl (fun ls hl => ?_)
                  refine lv_iinc (v := (nI (k + 1))) (lv' := [(3, .int (nI (k + 1))), (2, .int ((nI (cn (goneL st (softφ (st 1) v1)) k)) + 1)), (4, .int (nI (st 1 (16 * st 3 k + st 2 k)))), (0, .ref y), (1, .int (nI v1))]) X.1 X.2.1 dX10_soften_106 hl (k := 4) rfl (nI_1 _) (by decide) rfl (fun ls hl => ?_)
                  refine lv_goto (tgt := 51) X.1 X.2.1 dX10_soften_109 (by decide) ?_
                  have hB : lessC st (softφ (st 1) v1) k = (2 * v1) := by unfold lessC softφ; rw [if_neg hh1, if_pos (by omega)]
                  have hE : st 7 k - (2 * v1) = st 7 k - lessC st (softφ (st 1) v1) k := by rw [hB]
                  have hg : goneL st (softφ (st 1) v1) k = true := decide_eq_true (by have := of_decide_eq_true c_96; rw [hB]; omega)
                  have hcn : nI (cn (goneL st (softφ (st 1) v1)) (k + 1)) = nI (cn (goneL st (softφ (st 1) v1)) k) + 1 := by rw [cn_t hg]; exact nI_succ _
                  rw [hE] at eLs
                  exact ih (k + 1) f_93 (upd w7 k (nI (st 7 k - lessC st (softφ (st 1) v1) k))) H locs ls (by omega) (by omega) (by rw [eLs]; exact md_tr hmk (md_put h7) (fun _ q => q) (fun _ q => q)) (by rw [eLs]; exact wu_self _ _ _ _) (fun j hj => by rcases (by omega : j < k ∨ j = k) with q | q; rw [pk_un (by omega)]; exact hdn j q; rw [q]; exact pk_us) (fun j h1 h2 => by rw [pk_un (by omega)]; exact htd j (by omega) h2) S (by rw [hcn]; exact lv_sub hl [3, 4, 1, 0] rfl)
              · have hh1 : (st 1 (16 * st 3 k + st 2 k)) = 1 := (nI_eq (b := 1) (by omega) (by omega)).mp c_83
                refine lv_iload_n X.1 X.2.1 dX10_soften_86 rfl (lv_at hl 2 rfl) ?_
                refine lv_goto (tgt := 93) X.1 X.2.1 dX10_soften_87 (by decide) ?_
                refine call_i (run_V X S (n_lessens l G fk y A (nI (st 0 0)) (nI (st 0 4)) (nI (st 0 1 + 1)) (nI (st 0 2)) (nI (st 0 3)) (nI 0) hy_44_k w7 h7 k (st 7 k) v1 (by omega) (by omega) (by omega) (htd k (Nat.le_refl _) hlt_k)) 2 gX10_soften_X10_lessens rfl rfl rfl (by decide +kernel) ⟨(by exact Nat.le_of_ble_eq_true rfl), (by exact Nat.le_of_ble_eq_true rfl)⟩ ⟨_, _, hy_44_k⟩ rfl rfl rfl hl.1 rfl (by exact Nat.le_of_ble_eq_true rfl) dX10_soften_93 ⟨(by exact Nat.le_of_ble_eq_true rfl), (by exact Nat.le_of_ble_eq_true rfl)⟩) S (fun r_93 f_93 H locs hr_93 S => ?_)
                obtain ⟨rfl, eLs⟩ := hr_93
                refine r_eqB (tgt := 103) X dX10_soften_96 (by decide) (fun c_96 => ?_) (fun c_96 => ?_)
                · refine lv_iconst (v := 0) X.1 X.2.1 dX10_soften_103 (by decide) ?_
                  refine lv_iadd X.1 X.2.1 dX10_soften_104 ?_
                  refine lv_istore_n (lv' := [(2, .int ((nI (cn (goneL st (softφ (st 1) v1)) k)) + 0)), (4, .int (nI (st 1 (16 * st 3 k + st 2 k)))), (0, .ref y), (1, .int (nI v1)), (3, .int (nI k))]) X.1 X.2.1 dX10_soften_105 rfl hl (by decide) rfl (fun ls hl => ?_)
                  refine lv_iinc (v := (nI (k + 1))) (lv' := [(3, .int (nI (k + 1))), (2, .int ((nI (cn (goneL st (softφ (st 1) v1)) k)) + 0)), (4, .int (nI (st 1 (16 * st 3 k + st 2 k)))), (0, .ref y), (1, .int (nI v1))]) X.1 X.2.1 dX10_soften_106 hl (k := 4) rfl (nI_1 _) (by decide) rfl (fun ls hl => ?_)
                  refine lv_goto (tgt := 51) X.1 X.2.1 dX10_soften_109 (by decide) ?_
                  have hB : lessC st (softφ (st 1) v1) k = v1 := by unfold lessC softφ; rw [if_pos hh1]
                  have hE : st 7 k - v1 = st 7 k - lessC st (softφ (st 1) v1) k := by rw [hB]
                  have hg : goneL st (softφ (st 1) v1) k = false := decide_eq_false (fun q => by rw [hB] at q; exact of_decide_eq_false c_96 (by omega))
                  have hcn : nI (cn (goneL st (softφ (st 1) v1)) (k + 1)) = nI (cn (goneL st (softφ (st 1) v1)) k) + 0 := by rw [cn_f hg]; exact (Int32.add_zero _).symm
                  rw [hE] at eLs
                  exact ih (k + 1) f_93 (upd w7 k (nI (st 7 k - lessC st (softφ (st 1) v1) k))) H locs ls (by omega) (by omega) (by rw [eLs]; exact md_tr hmk (md_put h7) (fun _ q => q) (fun _ q => q)) (by rw [eLs]; exact wu_self _ _ _ _) (fun j hj => by rcases (by omega : j < k ∨ j = k) with q | q; rw [pk_un (by omega)]; exact hdn j q; rw [q]; exact pk_us) (fun j h1 h2 => by rw [pk_un (by omega)]; exact htd j (by omega) h2) S (by rw [hcn]; exact lv_sub hl [3, 4, 1, 0] rfl)
                · refine lv_iconst (v := 1) X.1 X.2.1 dX10_soften_99 (by decide) ?_
                  refine lv_goto (tgt := 104) X.1 X.2.1 dX10_soften_100 (by decide) ?_
                  refine lv_iadd X.1 X.2.1 dX10_soften_104 ?_
                  refine lv_istore_n (lv' := [(2, .int ((nI (cn (goneL st (softφ (st 1) v1)) k)) + 1)), (4, .int (nI (st 1 (16 * st 3 k + st 2 k)))), (0, .ref y), (1, .int (nI v1)), (3, .int (nI k))]) X.1 X.2.1 dX10_soften_105 rfl hl (by decide) rfl (fun ls hl => ?_)
                  refine lv_iinc (v := (nI (k + 1))) (lv' := [(3, .int (nI (k + 1))), (2, .int ((nI (cn (goneL st (softφ (st 1) v1)) k)) + 1)), (4, .int (nI (st 1 (16 * st 3 k + st 2 k)))), (0, .ref y), (1, .int (nI v1))]) X.1 X.2.1 dX10_soften_106 hl (k := 4) rfl (nI_1 _) (by decide) rfl (fun ls hl => ?_)
                  refine lv_goto (tgt := 51) X.1 X.2.1 dX10_soften_109 (by decide) ?_
                  have hB : lessC st (softφ (st 1) v1) k = v1 := by unfold lessC softφ; rw [if_pos hh1]
                  have hE : st 7 k - v1 = st 7 k - lessC st (softφ (st 1) v1) k := by rw [hB]
                  have hg : goneL st (softφ (st 1) v1) k = true := decide_eq_true (by have := of_decide_eq_true c_96; rw [hB]; omega)
                  have hcn : nI (cn (goneL st (softφ (st 1) v1)) (k + 1)) = nI (cn (goneL st (softφ (st 1) v1)) k) + 1 := by rw [cn_t hg]; exact nI_succ _
                  rw [hE] at eLs
                  exact ih (k + 1) f_93 (upd w7 k (nI (st 7 k - lessC st (softφ (st 1) v1) k))) H locs ls (by omega) (by omega) (by rw [eLs]; exact md_tr hmk (md_put h7) (fun _ q => q) (fun _ q => q)) (by rw [eLs]; exact wu_self _ _ _ _) (fun j hj => by rcases (by omega : j < k ∨ j = k) with q | q; rw [pk_un (by omega)]; exact hdn j q; rw [q]; exact pk_us) (fun j h1 h2 => by rw [pk_un (by omega)]; exact htd j (by omega) h2) S (by rw [hcn]; exact lv_sub hl [3, 4, 1, 0] rfl)
            · have hh0 : (st 1 (16 * st 3 k + st 2 k)) = 0 := (nI_eq (b := 0) (by omega) (by omega)).mp c_71
              refine lv_iload_n X.1 X.2.1 dX10_soften_74 rfl (lv_at hl 2 rfl) ?_
              refine lv_iconst (v := 2) X.1 X.2.1 dX10_soften_75 (by decide) ?_
              refine lv_idiv X.1 X.2.1 dX10_soften_76 (by decide) ?_
              refine lv_goto (tgt := 93) X.1 X.2.1 dX10_soften_77 (by decide) ?_
              refine r_toi (y := nI (v1 / 2)) (pk_div (d := 2) (by omega) (by omega) (by omega)) ?_
              refine call_i (run_V X S (n_lessens l G fk y A (nI (st 0 0)) (nI (st 0 4)) (nI (st 0 1 + 1)) (nI (st 0 2)) (nI (st 0 3)) (nI 0) hy_44_k w7 h7 k (st 7 k) (v1 / 2) (by omega) (by omega) (by omega) (htd k (Nat.le_refl _) hlt_k)) 2 gX10_soften_X10_lessens rfl rfl rfl (by decide +kernel) ⟨(by exact Nat.le_of_ble_eq_true rfl), (by exact Nat.le_of_ble_eq_true rfl)⟩ ⟨_, _, hy_44_k⟩ rfl rfl rfl hl.1 rfl (by exact Nat.le_of_ble_eq_true rfl) dX10_soften_93 ⟨(by exact Nat.le_of_ble_eq_true rfl), (by exact Nat.le_of_ble_eq_true rfl)⟩) S (fun r_93 f_93 H locs hr_93 S => ?_)
              obtain ⟨rfl, eLs⟩ := hr_93
              refine r_eqB (tgt := 103) X dX10_soften_96 (by decide) (fun c_96 => ?_) (fun c_96 => ?_)
              · refine lv_iconst (v := 0) X.1 X.2.1 dX10_soften_103 (by decide) ?_
                refine lv_iadd X.1 X.2.1 dX10_soften_104 ?_
                refine lv_istore_n (lv' := [(2, .int ((nI (cn (goneL st (softφ (st 1) v1)) k)) + 0)), (4, .int (nI (st 1 (16 * st 3 k + st 2 k)))), (0, .ref y), (1, .int (nI v1)), (3, .int (nI k))]) X.1 X.2.1 dX10_soften_105 rfl hl (by decide) rfl (fun ls hl => ?_)
                refine lv_iinc (v := (nI (k + 1))) (lv' := [(3, .int (nI (k + 1))), (2, .int ((nI (cn (goneL st (softφ (st 1) v1)) k)) + 0)), (4, .int (nI (st 1 (16 * st 3 k + st 2 k)))), (0, .ref y), (1, .int (nI v1))]) X.1 X.2.1 dX10_soften_106 hl (k := 4) rfl (nI_1 _) (by decide) rfl (fun ls hl => ?_)
                refine lv_goto (tgt := 51) X.1 X.2.1 dX10_soften_109 (by decide) ?_
                have hB : lessC st (softφ (st 1) v1) k = (v1 / 2) := by unfold lessC softφ; rw [if_neg (by omega), if_neg (by omega)]
                have hE : st 7 k - (v1 / 2) = st 7 k - lessC st (softφ (st 1) v1) k := by rw [hB]
                have hg : goneL st (softφ (st 1) v1) k = false := decide_eq_false (fun q => by rw [hB] at q; exact of_decide_eq_false c_96 (by omega))
                have hcn : nI (cn (goneL st (softφ (st 1) v1)) (k + 1)) = nI (cn (goneL st (softφ (st 1) v1)) k) + 0 := by rw [cn_f hg]; exact (Int32.add_zero _).symm
                rw [hE] at eLs
                exact ih (k + 1) f_93 (upd w7 k (nI (st 7 k - lessC st (softφ (st 1) v1) k))) H locs ls (by omega) (by omega) (by rw [eLs]; exact md_tr hmk (md_put h7) (fun _ q => q) (fun _ q => q)) (by rw [eLs]; exact wu_self _ _ _ _) (fun j hj => by rcases (by omega : j < k ∨ j = k) with q | q; rw [pk_un (by omega)]; exact hdn j q; rw [q]; exact pk_us) (fun j h1 h2 => by rw [pk_un (by omega)]; exact htd j (by omega) h2) S (by rw [hcn]; exact lv_sub hl [3, 4, 1, 0] rfl)
              · refine lv_iconst (v := 1) X.1 X.2.1 dX10_soften_99 (by decide) ?_
                refine lv_goto (tgt := 104) X.1 X.2.1 dX10_soften_100 (by decide) ?_
                refine lv_iadd X.1 X.2.1 dX10_soften_104 ?_
                refine lv_istore_n (lv' := [(2, .int ((nI (cn (goneL st (softφ (st 1) v1)) k)) + 1)), (4, .int (nI (st 1 (16 * st 3 k + st 2 k)))), (0, .ref y), (1, .int (nI v1)), (3, .int (nI k))]) X.1 X.2.1 dX10_soften_105 rfl hl (by decide) rfl (fun ls hl => ?_)
                refine lv_iinc (v := (nI (k + 1))) (lv' := [(3, .int (nI (k + 1))), (2, .int ((nI (cn (goneL st (softφ (st 1) v1)) k)) + 1)), (4, .int (nI (st 1 (16 * st 3 k + st 2 k)))), (0, .ref y), (1, .int (nI v1))]) X.1 X.2.1 dX10_soften_106 hl (k := 4) rfl (nI_1 _) (by decide) rfl (fun ls hl => ?_)
                refine lv_goto (tgt := 51) X.1 X.2.1 dX10_soften_109 (by decide) ?_
                have hB : lessC st (softφ (st 1) v1) k = (v1 / 2) := by unfold lessC softφ; rw [if_neg (by omega), if_neg (by omega)]
                have hE : st 7 k - (v1 / 2) = st 7 k - lessC st (softφ (st 1) v1) k := by rw [hB]
                have hg : goneL st (softφ (st 1) v1) k = true := decide_eq_true (by have := of_decide_eq_true c_96; rw [hB]; omega)
                have hcn : nI (cn (goneL st (softφ (st 1) v1)) (k + 1)) = nI (cn (goneL st (softφ (st 1) v1)) k) + 1 := by rw [cn_t hg]; exact nI_succ _
                rw [hE] at eLs
                exact ih (k + 1) f_93 (upd w7 k (nI (st 7 k - lessC st (softφ (st 1) v1) k))) H locs ls (by omega) (by omega) (by rw [eLs]; exact md_tr hmk (md_put h7) (fun _ q => q) (fun _ q => q)) (by rw [eLs]; exact wu_self _ _ _ _) (fun j hj => by rcases (by omega : j < k ∨ j = k) with q | q; rw [pk_un (by omega)]; exact hdn j q; rw [q]; exact pk_us) (fun j h1 h2 => by rw [pk_un (by omega)]; exact htd j (by omega) h2) S (by rw [hcn]; exact lv_sub hl [3, 4, 1, 0] rfl)
      exact loop (st 0 0 + 1) 0 f_44 (V 7) _ _ _ (by omega) (by omega) (md_rf _ _) hA7_44 (fun j hj => absurd hj (Nat.not_lt_zero j)) (fun j _ hj => (hvk j hj).2.2.2) S (lv_sub hl [2, 3, 1, 0] rfl)
    · refine lv_iconst (v := 2) X.1 X.2.1 dX10_soften_24 (by decide) ?_
      refine lv_goto (tgt := 29) X.1 X.2.1 dX10_soften_25 (by decide) ?_
      refine call_i (run_V X S (n_can l G f y A (nI (st 0 0)) (nI (st 0 4)) (nI (st 0 1)) (nI (st 0 2)) (nI (st 0 3)) thr hy 2 (by omega)) 1 gX10_soften_X10_can rfl rfl rfl (by decide +kernel) ⟨(by exact Nat.le_of_ble_eq_true rfl), (by exact Nat.le_of_ble_eq_true rfl)⟩ ⟨_, _, hy⟩ rfl rfl rfl hl.1 rfl (by exact Nat.le_of_ble_eq_true rfl) dX10_soften_29 ⟨(by exact Nat.le_of_ble_eq_true rfl), (by exact Nat.le_of_ble_eq_true rfl)⟩) S (fun r_29 f_29 H locs hr_29 S => ?_)
      obtain ⟨rfl, e_can⟩ := hr_29
      have hy_29 : f_29 y = some (1000, .inr (10, [.ref (A 1), .int (nI (st 0 0)), .ref (A 2), .ref (A 3), .ref (A 5), .ref (A 7), .int (nI (st 0 4)), .int (nI (st 0 1)), .int (nI (st 0 2)), .ref (A 9), .int (nI (st 0 3)), .ref (A 10), .ref (A 11), .int (nI 2)])) := by rw [e_can]; exact wu_self _ _ _ _
      have hA1_29 : f_29 (A 1) = some (1001, eI G 256 (V 1)) := by rw [e_can]; exact wu_get hy hA1 (by decide)
      have hA2_29 : f_29 (A 2) = some (1002, eI G 200 (V 2)) := by rw [e_can]; exact wu_get hy hA2 (by decide)
      have hA3_29 : f_29 (A 3) = some (1003, eI G 200 (V 3)) := by rw [e_can]; exact wu_get hy hA3 (by decide)
      have hA7_29 : f_29 (A 7) = some (1007, eI G 200 (V 7)) := by rw [e_can]; exact wu_get hy hA7 (by decide)
      have mm_29 : md tM f f_29 := by rw [e_can]; exact md_tr mm0 (md_put hy) (fun _ q => q) (fun t q => by subst q; unfold tM; omega)
      have hM0 : RMx G f_29 st y A V VL (nI 2) := by rw [e_can]; exact RMx_thr hM
      refine r_toi (y := 0) (by rfl) ?_
      have hKC : (k2 (inI v 1 40) (st 0 1 < 100)) = 2 := k2_2 (dT c_8) (fun z => by have := (nI_eq (b := 100) (by omega) (by omega)).mp c_21; omega)
      refine lv_if_ne (x := 0) (tgt := 37) X.1 X.2.1 dX10_soften_32 (by decide) (fun c_32 => by first | exact absurd c_32 (by decide) | exact absurd (by decide) c_32) (fun c_32 => ?_)
      refine lv_iconst (v := 0) X.1 X.2.1 dX10_soften_35 (by decide) ?_
      refine e_i X hr S (Nat.le_of_ble_eq_true rfl) (Nat.le_of_ble_eq_true rfl) dX10_soften_36 ?_
      rw [hKC]
      exact ⟨⟨A, V, VL, hM0⟩, mm_29, fun z => absurd z (by decide)⟩
  · refine lv_iconst (v := 1) X.1 X.2.1 dX10_soften_11 (by decide) ?_
    refine lv_goto (tgt := 29) X.1 X.2.1 dX10_soften_12 (by decide) ?_
    refine call_i (run_V X S (n_can l G f y A (nI (st 0 0)) (nI (st 0 4)) (nI (st 0 1)) (nI (st 0 2)) (nI (st 0 3)) thr hy 1 (by omega)) 1 gX10_soften_X10_can rfl rfl rfl (by decide +kernel) ⟨(by exact Nat.le_of_ble_eq_true rfl), (by exact Nat.le_of_ble_eq_true rfl)⟩ ⟨_, _, hy⟩ rfl rfl rfl hl.1 rfl (by exact Nat.le_of_ble_eq_true rfl) dX10_soften_29 ⟨(by exact Nat.le_of_ble_eq_true rfl), (by exact Nat.le_of_ble_eq_true rfl)⟩) S (fun r_29 f_29 H locs hr_29 S => ?_)
    obtain ⟨rfl, e_can⟩ := hr_29
    have hy_29 : f_29 y = some (1000, .inr (10, [.ref (A 1), .int (nI (st 0 0)), .ref (A 2), .ref (A 3), .ref (A 5), .ref (A 7), .int (nI (st 0 4)), .int (nI (st 0 1)), .int (nI (st 0 2)), .ref (A 9), .int (nI (st 0 3)), .ref (A 10), .ref (A 11), .int (nI 1)])) := by rw [e_can]; exact wu_self _ _ _ _
    have hA1_29 : f_29 (A 1) = some (1001, eI G 256 (V 1)) := by rw [e_can]; exact wu_get hy hA1 (by decide)
    have hA2_29 : f_29 (A 2) = some (1002, eI G 200 (V 2)) := by rw [e_can]; exact wu_get hy hA2 (by decide)
    have hA3_29 : f_29 (A 3) = some (1003, eI G 200 (V 3)) := by rw [e_can]; exact wu_get hy hA3 (by decide)
    have hA7_29 : f_29 (A 7) = some (1007, eI G 200 (V 7)) := by rw [e_can]; exact wu_get hy hA7 (by decide)
    have mm_29 : md tM f f_29 := by rw [e_can]; exact md_tr mm0 (md_put hy) (fun _ q => q) (fun t q => by subst q; unfold tM; omega)
    have hM0 : RMx G f_29 st y A V VL (nI 1) := by rw [e_can]; exact RMx_thr hM
    refine r_toi (y := 0) (by rfl) ?_
    have hKC : (k2 (inI v 1 40) (st 0 1 < 100)) = 1 := k2_1 (dF c_8)
    refine lv_if_ne (x := 0) (tgt := 37) X.1 X.2.1 dX10_soften_32 (by decide) (fun c_32 => by first | exact absurd c_32 (by decide) | exact absurd (by decide) c_32) (fun c_32 => ?_)
    refine lv_iconst (v := 0) X.1 X.2.1 dX10_soften_35 (by decide) ?_
    refine e_i X hr S (Nat.le_of_ble_eq_true rfl) (Nat.le_of_ble_eq_true rfl) dX10_soften_36 ?_
    rw [hKC]
    exact ⟨⟨A, V, VL, hM0⟩, mm_29, fun z => absurd z (by decide)⟩

set_option maxRecDepth 100000 in
set_option maxHeartbeats 4000000 in
/-- eye -/
theorem n_eye (l : Launch) (G : cx_G) (f : Wd) (st : St) (y : Nat) (A : Nat → Nat) (V : Nat → Nat → Int32) (VL : Nat → Nat → Int64) (thr : Int32) (hI : sInv st) (hM : RMx G f st y A V VL thr) (a : Int32) : MI l G yX10_eye wsX10_eye 1 22 0 0 [.ref y, .int a] f (fun r f' => RM G f' (stp (k2 (inI a 1 9) (st 0 2 < 6)) (eyeSt st (nN a)) st) y (nI (k2 (inI a 1 9) (st 0 2 < 6))) ∧ md tM f f' ∧ ((k2 (inI a 1 9) (st 0 2 < 6)) = 0 → r = nI (st 0 2))) := by
  refine cx_body (cc := cX10_eye) (n := 2) (ret := (some .int)) (by decide +kernel) rfl (Nat.le_of_ble_eq_true rfl) ?_
  intro p0 e0 s0 m0 b0 meth0 c0 ls X hr hnm S hl
  have X : cxC G p0 l _ c0 cX10_eye 2 m0 meth0 s0 _ RX10 wsX10_eye := X
  have hl : lv_has ls 2 [(0, .ref y), (1, .int a)] := hl
  have in_RX10 : ∀ w ∈ u_ws RX10 TX10 14, w ∈ wsX10_eye := by decide +kernel
  obtain ⟨hi0, hi1, hi2, hi3, hi4, hi5, hi6, hi7⟩ := id hI
  obtain ⟨hy, ⟨hA1, hA2, hA3, hA5, hA7, hA9, hA10, hA11⟩, hv1, hvk, hv9, hvL⟩ := id hM
  have mm0 : md tM f f := md_rf _ _
  refine lv_aload_n X.1 X.2.1 dX10_eye_0 rfl (lv_at hl 0 rfl) ?_
  refine lv_iload_n X.1 X.2.1 dX10_eye_1 rfl (lv_at hl 1 rfl) ?_
  refine lv_iconst (v := 1) X.1 X.2.1 dX10_eye_2 (by decide) ?_
  refine lv_bipush (v := 9) X.1 X.2.1 dX10_eye_3 (by decide) ?_
  refine call_ip (run_S X S (n_isIn l G f a 1 9 1 9 (by decide) (by decide)) 3 gX10_eye_X10_isIn rfl rfl rfl (by decide +kernel) ⟨(by exact Nat.le_of_ble_eq_true rfl), (by exact Nat.le_of_ble_eq_true rfl)⟩ rfl hl.1 rfl (by exact Nat.le_of_ble_eq_true rfl) dX10_eye_5 ⟨(Nat.zero_le _), (Nat.zero_le _)⟩) S (fun r_5 H locs hr_5 S => ?_)
  subst hr_5
  refine r_neB (tgt := 15) X dX10_eye_8 (by decide) (fun c_8 => ?_) (fun c_8 => ?_)
  · refine lv_aload_n X.1 X.2.1 dX10_eye_15 rfl (lv_at hl 0 rfl) ?_
    refine r_get (C := RX10) (T := TX10) (N := 14) (ref := "CraterclockModel") X S in_RX10 hy rfl 8 (by decide) (by decide +kernel) (fun _ h => h) rfl dX10_eye_16 ?_
    refine lv_bipush (v := 6) X.1 X.2.1 dX10_eye_19 (by decide) ?_
    refine lv_icmp_ne (tgt := 28) X.1 X.2.1 dX10_eye_21 (by decide) (fun c_21 => ?_) (fun c_21 => ?_)
    · refine lv_iconst (v := 0) X.1 X.2.1 dX10_eye_28 (by decide) ?_
      refine call_i (run_V X S (n_can l G f y A (nI (st 0 0)) (nI (st 0 4)) (nI (st 0 1)) (nI (st 0 2)) (nI (st 0 3)) thr hy 0 (by omega)) 1 gX10_eye_X10_can rfl rfl rfl (by decide +kernel) ⟨(by exact Nat.le_of_ble_eq_true rfl), (by exact Nat.le_of_ble_eq_true rfl)⟩ ⟨_, _, hy⟩ rfl rfl rfl hl.1 rfl (by exact Nat.le_of_ble_eq_true rfl) dX10_eye_29 ⟨(by exact Nat.le_of_ble_eq_true rfl), (by exact Nat.le_of_ble_eq_true rfl)⟩) S (fun r_29 f_29 H locs hr_29 S => ?_)
      obtain ⟨rfl, e_can⟩ := hr_29
      have hy_29 : f_29 y = some (1000, .inr (10, [.ref (A 1), .int (nI (st 0 0)), .ref (A 2), .ref (A 3), .ref (A 5), .ref (A 7), .int (nI (st 0 4)), .int (nI (st 0 1)), .int (nI (st 0 2)), .ref (A 9), .int (nI (st 0 3)), .ref (A 10), .ref (A 11), .int (nI 0)])) := by rw [e_can]; exact wu_self _ _ _ _
      have hA9_29 : f_29 (A 9) = some (1009, eI G 6 (V 9)) := by rw [e_can]; exact wu_get hy hA9 (by decide)
      have mm_29 : md tM f f_29 := by rw [e_can]; exact md_tr mm0 (md_put hy) (fun _ q => q) (fun t q => by subst q; unfold tM; omega)
      have hM0 : RMx G f_29 st y A V VL (nI 0) := by rw [e_can]; exact RMx_thr hM
      refine r_toi (y := 1) (by rfl) ?_
      have hP1 : inI a 1 9 := dT c_8
      have hP3 : st 0 2 < 6 := by have h9 : st 0 2 ≠ 6 := (fun z => c_21 (by rw [z]; rfl)); omega
      have hKC : (k2 (inI a 1 9) (st 0 2 < 6)) = 0 := k2_0 hP1 hP3
      obtain ⟨a1, rfl, alo, aup, abd⟩ := inI_sub hP1 (by omega)
      have na : nN (nI a1) = a1 := nN_nI abd
      refine lv_if_ne (x := 1) (tgt := 37) X.1 X.2.1 dX10_eye_32 (by decide) (fun c_32 => ?_) (fun c_32 => by first | exact absurd c_32 (by decide) | exact absurd (by decide) c_32)
      refine lv_aload_n X.1 X.2.1 dX10_eye_37 rfl (lv_at hl 0 rfl) ?_
      refine r_get (C := RX10) (T := TX10) (N := 14) (ref := "CraterclockModel") X S in_RX10 hy_29 rfl 9 (by decide) (by decide +kernel) (fun _ h => h) rfl dX10_eye_38 ?_
      refine lv_aload_n X.1 X.2.1 dX10_eye_41 rfl (lv_at hl 0 rfl) ?_
      refine r_get (C := RX10) (T := TX10) (N := 14) (ref := "CraterclockModel") X S in_RX10 hy_29 rfl 8 (by decide) (by decide +kernel) (fun _ h => h) rfl dX10_eye_42 ?_
      refine lv_iload_n X.1 X.2.1 dX10_eye_45 rfl (lv_at hl 1 rfl) ?_
      refine r_iast X S hA9_29 (by decide) (vp_in_nI (show (st 0 2) < 6 by omega) (by omega)) dX10_eye_46 (fun H locs S => ?_)
      rw [nI_clamp (by omega)] at S
      obtain ⟨f_46, ef_46⟩ : ∃ z9 : Wd, z9 = wu f_29 (A 9) 1009 (eI G 6 (upd (V 9) (st 0 2) (nI a1))) := ⟨_, rfl⟩
      rw [← ef_46] at S
      have hy_46 : f_46 y = some (1000, .inr (10, [.ref (A 1), .int (nI (st 0 0)), .ref (A 2), .ref (A 3), .ref (A 5), .ref (A 7), .int (nI (st 0 4)), .int (nI (st 0 1)), .int (nI (st 0 2)), .ref (A 9), .int (nI (st 0 3)), .ref (A 10), .ref (A 11), .int (nI 0)])) := by rw [ef_46]; exact wu_get hA9_29 hy_29 (by decide)
      have hA9_46 : f_46 (A 9) = some (1009, eI G 6 (upd (V 9) (st 0 2) (nI a1))) := by rw [ef_46]; exact wu_self _ _ _ _
      have mm_46 : md tM f f_46 := by rw [ef_46]; exact md_tr mm_29 (md_put hA9_29) (fun _ q => q) (fun t q => by subst q; unfold tM; omega)
      refine lv_aload_n X.1 X.2.1 dX10_eye_47 rfl (lv_at hl 0 rfl) ?_
      refine lv_dup X.1 X.2.1 dX10_eye_48 rfl ?_
      refine r_get (C := RX10) (T := TX10) (N := 14) (ref := "CraterclockModel") X S in_RX10 hy_46 rfl 8 (by decide) (by decide +kernel) (fun _ h => h) rfl dX10_eye_49 ?_
      refine lv_iconst (v := 1) X.1 X.2.1 dX10_eye_52 (by decide) ?_
      refine lv_iadd X.1 X.2.1 dX10_eye_53 ?_
      refine r_toi (y := nI (st 0 2 + 1)) (nI_1 _) ?_
      refine r_put (C := RX10) (T := TX10) (N := 14) (ref := "CraterclockModel") (fs' := [.ref (A 1), .int (nI (st 0 0)), .ref (A 2), .ref (A 3), .ref (A 5), .ref (A 7), .int (nI (st 0 4)), .int (nI (st 0 1)), .int (nI (st 0 2 + 1)), .ref (A 9), .int (nI (st 0 3)), .ref (A 10), .ref (A 11), .int (nI 0)]) (ty := .int) X S in_RX10 tyX10 tyX10_ok nmX10 hy_46 (by decide) rfl 8 (by decide) (by decide +kernel) (fun _ h => h) rfl (by decide +kernel) rfl rfl (Nat.le_of_ble_eq_true rfl) rfl dX10_eye_54 (fun H locs S => ?_)
      obtain ⟨f_54, ef_54⟩ : ∃ z9 : Wd, z9 = wu f_46 y 1000 (.inr (10, [.ref (A 1), .int (nI (st 0 0)), .ref (A 2), .ref (A 3), .ref (A 5), .ref (A 7), .int (nI (st 0 4)), .int (nI (st 0 1)), .int (nI (st 0 2 + 1)), .ref (A 9), .int (nI (st 0 3)), .ref (A 10), .ref (A 11), .int (nI 0)])) := ⟨_, rfl⟩
      rw [← ef_54] at S
      have hy_54 : f_54 y = some (1000, .inr (10, [.ref (A 1), .int (nI (st 0 0)), .ref (A 2), .ref (A 3), .ref (A 5), .ref (A 7), .int (nI (st 0 4)), .int (nI (st 0 1)), .int (nI (st 0 2 + 1)), .ref (A 9), .int (nI (st 0 3)), .ref (A 10), .ref (A 11), .int (nI 0)])) := by rw [ef_54]; exact wu_self _ _ _ _
      have hA9_54 : f_54 (A 9) = some (1009, eI G 6 (upd (V 9) (st 0 2) (nI a1))) := by rw [ef_54]; exact wu_get hy_46 hA9_46 (by decide)
      have mm_54 : md tM f f_54 := by rw [ef_54]; exact md_tr mm_46 (md_put hy_46) (fun _ q => q) (fun t q => by subst q; unfold tM; omega)
      refine lv_aload_n X.1 X.2.1 dX10_eye_57 rfl (lv_at hl 0 rfl) ?_
      refine r_get (C := RX10) (T := TX10) (N := 14) (ref := "CraterclockModel") X S in_RX10 hy_54 rfl 8 (by decide) (by decide +kernel) (fun _ h => h) rfl dX10_eye_58 ?_
      refine lv_iconst (v := 1) X.1 X.2.1 dX10_eye_61 (by decide) ?_
      refine lv_isub X.1 X.2.1 dX10_eye_62 ?_
      refine e_i X hr S (Nat.le_of_ble_eq_true rfl) (Nat.le_of_ble_eq_true rfl) dX10_eye_63 ?_
      rw [hKC]
      refine ⟨?_, mm_54, fun _ => ?_⟩
      · rw [na]; exact ⟨A, _, VL, by rw [ef_54, ef_46]; exact RMx_eye hM0⟩
      · exact nI_m1 (z := st 0 2 + 1) (by omega)
    · refine lv_iconst (v := 2) X.1 X.2.1 dX10_eye_24 (by decide) ?_
      refine lv_goto (tgt := 29) X.1 X.2.1 dX10_eye_25 (by decide) ?_
      refine call_i (run_V X S (n_can l G f y A (nI (st 0 0)) (nI (st 0 4)) (nI (st 0 1)) (nI (st 0 2)) (nI (st 0 3)) thr hy 2 (by omega)) 1 gX10_eye_X10_can rfl rfl rfl (by decide +kernel) ⟨(by exact Nat.le_of_ble_eq_true rfl), (by exact Nat.le_of_ble_eq_true rfl)⟩ ⟨_, _, hy⟩ rfl rfl rfl hl.1 rfl (by exact Nat.le_of_ble_eq_true rfl) dX10_eye_29 ⟨(by exact Nat.le_of_ble_eq_true rfl), (by exact Nat.le_of_ble_eq_true rfl)⟩) S (fun r_29 f_29 H locs hr_29 S => ?_)
      obtain ⟨rfl, e_can⟩ := hr_29
      have hy_29 : f_29 y = some (1000, .inr (10, [.ref (A 1), .int (nI (st 0 0)), .ref (A 2), .ref (A 3), .ref (A 5), .ref (A 7), .int (nI (st 0 4)), .int (nI (st 0 1)), .int (nI (st 0 2)), .ref (A 9), .int (nI (st 0 3)), .ref (A 10), .ref (A 11), .int (nI 2)])) := by rw [e_can]; exact wu_self _ _ _ _
      have hA9_29 : f_29 (A 9) = some (1009, eI G 6 (V 9)) := by rw [e_can]; exact wu_get hy hA9 (by decide)
      have mm_29 : md tM f f_29 := by rw [e_can]; exact md_tr mm0 (md_put hy) (fun _ q => q) (fun t q => by subst q; unfold tM; omega)
      have hM0 : RMx G f_29 st y A V VL (nI 2) := by rw [e_can]; exact RMx_thr hM
      refine r_toi (y := 0) (by rfl) ?_
      have hKC : (k2 (inI a 1 9) (st 0 2 < 6)) = 2 := k2_2 (dT c_8) (fun z => by have := (nI_eq (b := 6) (by omega) (by omega)).mp c_21; omega)
      refine lv_if_ne (x := 0) (tgt := 37) X.1 X.2.1 dX10_eye_32 (by decide) (fun c_32 => by first | exact absurd c_32 (by decide) | exact absurd (by decide) c_32) (fun c_32 => ?_)
      refine lv_iconst (v := 0) X.1 X.2.1 dX10_eye_35 (by decide) ?_
      refine e_i X hr S (Nat.le_of_ble_eq_true rfl) (Nat.le_of_ble_eq_true rfl) dX10_eye_36 ?_
      rw [hKC]
      exact ⟨⟨A, V, VL, hM0⟩, mm_29, fun z => absurd z (by decide)⟩
  · refine lv_iconst (v := 1) X.1 X.2.1 dX10_eye_11 (by decide) ?_
    refine lv_goto (tgt := 29) X.1 X.2.1 dX10_eye_12 (by decide) ?_
    refine call_i (run_V X S (n_can l G f y A (nI (st 0 0)) (nI (st 0 4)) (nI (st 0 1)) (nI (st 0 2)) (nI (st 0 3)) thr hy 1 (by omega)) 1 gX10_eye_X10_can rfl rfl rfl (by decide +kernel) ⟨(by exact Nat.le_of_ble_eq_true rfl), (by exact Nat.le_of_ble_eq_true rfl)⟩ ⟨_, _, hy⟩ rfl rfl rfl hl.1 rfl (by exact Nat.le_of_ble_eq_true rfl) dX10_eye_29 ⟨(by exact Nat.le_of_ble_eq_true rfl), (by exact Nat.le_of_ble_eq_true rfl)⟩) S (fun r_29 f_29 H locs hr_29 S => ?_)
    obtain ⟨rfl, e_can⟩ := hr_29
    have hy_29 : f_29 y = some (1000, .inr (10, [.ref (A 1), .int (nI (st 0 0)), .ref (A 2), .ref (A 3), .ref (A 5), .ref (A 7), .int (nI (st 0 4)), .int (nI (st 0 1)), .int (nI (st 0 2)), .ref (A 9), .int (nI (st 0 3)), .ref (A 10), .ref (A 11), .int (nI 1)])) := by rw [e_can]; exact wu_self _ _ _ _
    have hA9_29 : f_29 (A 9) = some (1009, eI G 6 (V 9)) := by rw [e_can]; exact wu_get hy hA9 (by decide)
    have mm_29 : md tM f f_29 := by rw [e_can]; exact md_tr mm0 (md_put hy) (fun _ q => q) (fun t q => by subst q; unfold tM; omega)
    have hM0 : RMx G f_29 st y A V VL (nI 1) := by rw [e_can]; exact RMx_thr hM
    refine r_toi (y := 0) (by rfl) ?_
    have hKC : (k2 (inI a 1 9) (st 0 2 < 6)) = 1 := k2_1 (dF c_8)
    refine lv_if_ne (x := 0) (tgt := 37) X.1 X.2.1 dX10_eye_32 (by decide) (fun c_32 => by first | exact absurd c_32 (by decide) | exact absurd (by decide) c_32) (fun c_32 => ?_)
    refine lv_iconst (v := 0) X.1 X.2.1 dX10_eye_35 (by decide) ?_
    refine e_i X hr S (Nat.le_of_ble_eq_true rfl) (Nat.le_of_ble_eq_true rfl) dX10_eye_36 ?_
    rw [hKC]
    exact ⟨⟨A, V, VL, hM0⟩, mm_29, fun z => absurd z (by decide)⟩
