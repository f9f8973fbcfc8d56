/-! the class: its public methods. A call's code: 0, or the number of the first of its conditions that doesn't hold -/
noncomputable def k1 (A : Prop) : Nat := @ite Nat A (Classical.propDecidable A) 0 1
noncomputable def k2 (A B : Prop) : Nat := @ite Nat A (Classical.propDecidable A) (@ite Nat B (Classical.propDecidable B) 0 2) 1
noncomputable def k3 (A B C : Prop) : Nat := @ite Nat A (Classical.propDecidable A) (@ite Nat B (Classical.propDecidable B) (@ite Nat C (Classical.propDecidable C) 0 3) 2) 1
theorem k1_0 {A : Prop} (h : A) : k1 A = 0 := if_pos h
theorem k2_0 {A B : Prop} (h : A) (i : B) : k2 A B = 0 := by unfold k2; rw [if_pos h, if_pos i]
theorem k3_0 {A B C : Prop} (h : A) (i : B) (j : C) : k3 A B C = 0 := by unfold k3; rw [if_pos h, if_pos i, if_pos j]
theorem k1_1 {A : Prop} (h : ¬ A) : k1 A = 1 := if_neg h
theorem k2_1 {A B : Prop} (h : ¬ A) : k2 A B = 1 := if_neg h
theorem k3_1 {A B C : Prop} (h : ¬ A) : k3 A B C = 1 := if_neg h
theorem k2_2 {A B : Prop} (h : A) (i : ¬ B) : k2 A B = 2 := by unfold k2; rw [if_pos h, if_neg i]
theorem k3_2 {A B C : Prop} (h : A) (i : ¬ B) : k3 A B C = 2 := by unfold k3; rw [if_pos h, if_neg i]
theorem k3_3 {A B C : Prop} (h : A) (i : B) (j : ¬ C) : k3 A B C = 3 := by unfold k3; rw [if_pos h, if_pos i, if_neg j]
def psi (ns : List String) (k : Nat) (E : String) : Prop := ∃ i, ns[i]? = some E ∧ k = i + 1
theorem p11 {A : Prop} {E : String} {ns : List String} (h : ¬ A) : psi (E :: ns) (k1 A) E := ⟨0, rfl, k1_1 h⟩
theorem p21 {A B : Prop} {E : String} {ns : List String} (h : ¬ A) : psi (E :: ns) (k2 A B) E := ⟨0, rfl, k2_1 h⟩
theorem p31 {A B C : Prop} {E : String} {ns : List String} (h : ¬ A) : psi (E :: ns) (k3 A B C) E := ⟨0, rfl, k3_1 h⟩
theorem p22 {A B : Prop} {D E : String} {ns : List String} (h : A) (i : ¬ B) : psi (D :: E :: ns) (k2 A B) E := ⟨1, rfl, k2_2 h i⟩
theorem p32 {A B C : Prop} {D E : String} {ns : List String} (h : A) (i : ¬ B) : psi (D :: E :: ns) (k3 A B C) E := ⟨1, rfl, k3_2 h i⟩
theorem p33 {A B C : Prop} {D D2 E : String} {ns : List String} (h : A) (i : B) (j : ¬ C) : psi (D :: D2 :: E :: ns) (k3 A B C) E := ⟨2, rfl, k3_3 h i j⟩
theorem hp.drop {G : cx_G} {f : Wd} {q t : Nat} {e : va_E} {H : Heap} (h : hp G (wu f q t e) H) (hq : f q = none) (ht : t ≠ 9999) : hp G f H := by
  have k : ∀ b y, f b = some y → wu f q t e b = some y := fun b y hb => (wu_ne _ _ _ (fun z => by rw [z, hq] at hb; cases hb)).trans hb
  refine ⟨fun a t1 e1 ha ht1 => h.1 a t1 e1 (k _ _ ha) ht1, fun a t1 e1 ha => h.2.1 a t1 e1 (k _ _ ha), ?_, h.2.2.2⟩
  have h3 := h.2.2.1
  by_cases z : gd G = q
  · rw [z, wu_self] at h3
    exact absurd (congrArg Prod.fst (Option.some.inj h3)) ht
  · rw [wu_ne _ _ _ z] at h3; exact h3
theorem s_up_fn (st : St) (c k : Nat) : s_up st 1 c k 1 = fun i => if i = c then k else st 1 i := by
  funext i
  by_cases q : i = c
  · rw [q, s_up_self, if_pos rfl]
  · rw [s_up_ne _ (Or.inr q), if_neg q]
abbrev ordP (x y tx ty : Int32) : Prop := x.toInt ≤ tx.toInt ∧ y.toInt ≤ ty.toInt
abbrev rgL (u : Int64) (a b : Int) : Prop := a ≤ u.toInt ∧ u.toInt ≤ b
abbrev eyeP (st : St) (c x y tx ty : Int32) : Prop := inI c 0 ((st 0 2 : Int) - 1) ∧ cellP x y ∧ cellP tx ty
def lackN (st : St) (d : Nat) : Nat := if st 0 3 < 2 then 1 else if st 11 (st 0 3 - 1) < d then 2 else 0
def densN (st : St) (c x y tx ty : Nat) : Nat := cn (seenP st 1 c x y tx ty) (st 0 0) * 256000 / ((tx - x + 1) * (ty - y + 1))
def ageR (st : St) (d : Nat) (r : Int64) : Prop := ∃ k, k < st 0 3 ∧ d ≤ st 11 k ∧ (∀ j, j < k → st 11 j < d) ∧ r = lN (ageAt st d k)
def aboutN (st : St) (c w : Nat) : Nat := if w = 0 then st 2 c else if w = 1 then st 3 c else if w = 2 then st 5 c else st 7 c
theorem RX.new {G : cx_G} {f f' : Wd} {st : St} {x : Nat} (h : RX G f st x) (hI : sInv st) (hm : md (fun _ => False) f f') : RX G f' st x := h.kept (md_mono hm (fun _ q => q.elim)) hI.1.1
theorem dens_lt {st : St} (hI : sInv st) (c x y tx ty : Nat) : densN st c x y tx ty < 2 ^ 62 := by
  have h1 := cn_le (seenP st 1 c x y tx ty) (st 0 0)
  have h2 := hI.1.1
  unfold densN
  have h3 : cn (seenP st 1 c x y tx ty) (st 0 0) * 256000 / ((tx - x + 1) * (ty - y + 1)) ≤ cn (seenP st 1 c x y tx ty) (st 0 0) * 256000 := Nat.div_le_self _ _
  omega
theorem nI_dn (j : Nat) : nI (j + 1) + (-1) = nI j := by
  have : nI (j + 1) = nI j + 1 := (nI_1 j).symm
  rw [this, Int32.add_assoc]
  exact Int32.add_zero _
theorem tpI_t {p : Nat → Bool} {n : Nat} (h : p n = true) : tpI p (n + 1) = nI n := if_pos h
theorem tpI_f {p : Nat → Bool} {n : Nat} (h : p n = false) : tpI p (n + 1) = tpI p n := if_neg (by rw [h]; decide)
theorem md_none {f f1 : Wd} {q : Nat} (h : md (fun _ => False) f f1) (hq : f1 q = none) : f q = none := by
  cases hz : f q with
  | none => rfl
  | some y => rw [h q y.1 y.2 hz (fun z => z)] at hq; cases hq
theorem lack_0 {st : St} {d : Nat} (h : lackN st d = 0) : 2 ≤ st 0 3 ∧ d ≤ st 11 (st 0 3 - 1) := by
  unfold lackN at h
  by_cases q : st 0 3 < 2
  · rw [if_pos q] at h; omega
  · rw [if_neg q] at h
    by_cases q2 : st 11 (st 0 3 - 1) < d
    · rw [if_pos q2] at h; omega
    · omega
set_option maxRecDepth 100000 in
set_option maxHeartbeats 4000000 in
/-- ground -/
theorem c_ground (l : Launch) (hst : l.stackTraces = false) (G : cx_G) (f : Wd) (st : St) (x : Nat) (hI : sInv st) (hR0 : RX G f st x) (a b k : Int32) : XI l G yX9_ground wsX9_ground 7 115 2 12 [.ref x, .int a, .int b, .int k] f (fun r f' => (k2 (cellP a b) (inI k 0 2)) = 0 ∧ r = nI (st 1 (16 * nN b + nN a)) ∧ RX G f' (s_up st 1 (16 * nN b + nN a) (nN k)) x ∧ md tX f f') (psi ["java/lang/IndexOutOfBoundsException", "java/lang/IllegalArgumentException"] (k2 (cellP a b) (inI k 0 2))) := by
  refine vx_body (cc := cX9_ground) (n := 5) (ret := (some .int)) (by decide +kernel) rfl (Nat.le_of_ble_eq_true rfl) ?_
  intro p0 e0 s0 m0 b0 meth0 c0 ls X hr hnm hout S hl
  have X : cxC G p0 l _ c0 cX9_ground 5 m0 meth0 s0 _ RX9 wsX9_ground := X
  have hl : lv_has ls 5 [(0, .ref x), (1, .int a), (2, .int b), (3, .int k)] := hl
  have in_RX9 : ∀ w ∈ u_ws RX9 TX9 6, w ∈ wsX9_ground := by decide +kernel
  obtain ⟨gr, rw1, L1, L2, L3, cu, L4, g1, g2, g3, g4, w, hR⟩ := id hR0
  obtain ⟨hi0, hi1, hi2, hi3, hi4, hi5, hi6, hi7⟩ := id hI
  obtain ⟨hx, hgr, hrw, hgd, hL1, hC, hL2, hS2, hL3, hE, hcu, hL4, hA⟩ := id hR
  refine lv_iload_n X.1 X.2.1 dX9_ground_0 rfl (lv_at hl 1 rfl) ?_
  refine lv_iload_n X.1 X.2.1 dX9_ground_1 rfl (lv_at hl 2 rfl) ?_
  refine xcall_v (xrun_S X S (m_rqCell l hst G f a b) 2 gX9_ground_X9_requireCell rfl rfl rfl (by decide +kernel) ⟨(by exact Nat.le_of_ble_eq_true rfl), (by exact Nat.le_of_ble_eq_true rfl)⟩ rfl hl.1 rfl (by exact Nat.le_of_ble_eq_true rfl) dX9_ground_2 ⟨(by exact Nat.le_of_ble_eq_true rfl), (by exact Nat.le_of_ble_eq_true rfl)⟩) S hout X.2.2.2.2.2.2.2 (by exact Nat.le_of_ble_eq_true rfl) (by exact Nat.le_of_ble_eq_true rfl) (fun E hE => by rw [hE.1]; exact p21 hE.2) (fun H locs hr_2 S => ?_)
  refine lv_iload_n X.1 X.2.1 dX9_ground_5 rfl (lv_at hl 3 rfl) ?_
  refine lv_i2l (v := k.toInt64) X.1 X.2.1 dX9_ground_6 rfl ?_
  refine lv_lconst (v := 0) X.1 X.2.1 dX9_ground_7 (by decide) ?_
  refine r_ldc2 (v := 2) X (by decide +kernel) dX9_ground_8 ?_
  refine xcall_v (xrun_S X S (m_rqRange l hst G f k.toInt64 0 2) 3 gX9_ground_X9_requireRange rfl rfl rfl (by decide +kernel) ⟨(by exact Nat.le_of_ble_eq_true rfl), (by exact Nat.le_of_ble_eq_true rfl)⟩ rfl hl.1 rfl (by exact Nat.le_of_ble_eq_true rfl) dX9_ground_11 ⟨(by exact Nat.le_of_ble_eq_true rfl), (by exact Nat.le_of_ble_eq_true rfl)⟩) S hout X.2.2.2.2.2.2.2 (by exact Nat.le_of_ble_eq_true rfl) (by exact Nat.le_of_ble_eq_true rfl) (fun E hE => by rw [hE.1]; exact p22 hr_2 (fun z => hE.2 ((rg_i (p := 0) (q := 2) (by decide +kernel) (by decide +kernel)).mpr z))) (fun H locs hr_11 S => ?_)
  have hP2 := (rg_i (p := 0) (q := 2) (by decide +kernel) (by decide +kernel)).mp hr_11
  obtain ⟨a1, rfl, alo, aup, abd⟩ := inI_sub hr_2.1 (by omega)
  have na : nN (nI a1) = a1 := nN_nI abd
  obtain ⟨b1, rfl, blo, bup, bbd⟩ := inI_sub hr_2.2 (by omega)
  have nb : nN (nI b1) = b1 := nN_nI bbd
  obtain ⟨k1, rfl, klo, kup, kbd⟩ := inI_sub hP2 (by omega)
  have nk : nN (nI k1) = k1 := nN_nI kbd
  refine lv_aload_n X.1 X.2.1 dX9_ground_14 rfl (lv_at hl 0 rfl) ?_
  refine r_get (C := RX9) (T := TX9) (N := 6) (ref := "Craterclock") X S in_RX9 hx rfl 0 (by decide) (by decide +kernel) (fun _ h => h) rfl dX9_ground_15 ?_
  refine lv_iload_n X.1 X.2.1 dX9_ground_18 rfl (lv_at hl 1 rfl) ?_
  refine lv_iload_n X.1 X.2.1 dX9_ground_19 rfl (lv_at hl 2 rfl) ?_
  refine call_ip (run_V X S (m_kindAt l G f gr 1 rw1 2 w (st 1) hgr hrw hgd a1 b1 (by omega) (by omega)) 2 gX9_ground_X6_kindAt rfl rfl rfl (by decide +kernel) ⟨(by exact Nat.le_of_ble_eq_true rfl), (by exact Nat.le_of_ble_eq_true rfl)⟩ ⟨_, _, hgr⟩ rfl rfl rfl hl.1 rfl (by exact Nat.le_of_ble_eq_true rfl) dX9_ground_20 ⟨(by exact Nat.le_of_ble_eq_true rfl), (by exact Nat.le_of_ble_eq_true rfl)⟩) S (fun r_20 H locs hr_20 S => ?_)
  subst hr_20
  refine lv_istore (lv' := [(4, .int (nI (st 1 (16 * b1 + a1)))), (0, .ref x), (1, .int (nI a1)), (2, .int (nI b1)), (3, .int (nI k1))]) X.1 X.2.1 dX9_ground_23 hl (by decide) rfl (fun ls hl => ?_)
  refine lv_aload_n X.1 X.2.1 dX9_ground_25 rfl (lv_at hl 1 rfl) ?_
  refine r_get (C := RX9) (T := TX9) (N := 6) (ref := "Craterclock") X S in_RX9 hx rfl 0 (by decide) (by decide +kernel) (fun _ h => h) rfl dX9_ground_26 ?_
  refine lv_iload_n X.1 X.2.1 dX9_ground_29 rfl (lv_at hl 2 rfl) ?_
  refine lv_iload_n X.1 X.2.1 dX9_ground_30 rfl (lv_at hl 3 rfl) ?_
  refine lv_iload_n X.1 X.2.1 dX9_ground_31 rfl (lv_at hl 4 rfl) ?_
  refine call_v (run_V X S (m_setKind l G f gr 1 rw1 2 w hgr hrw (by decide) a1 b1 k1 (by omega) (by omega)) 3 gX9_ground_X6_setKind rfl rfl rfl (by decide +kernel) ⟨(by exact Nat.le_of_ble_eq_true rfl), (by exact Nat.le_of_ble_eq_true rfl)⟩ ⟨_, _, hgr⟩ rfl rfl rfl hl.1 rfl (by exact Nat.le_of_ble_eq_true rfl) dX9_ground_32 ⟨(by exact Nat.le_of_ble_eq_true rfl), (by exact Nat.le_of_ble_eq_true rfl)⟩) S (fun f_32 H locs hr_32 S => ?_)
  refine lv_iload X.1 X.2.1 dX9_ground_35 (lv_at hl 0 rfl) ?_
  refine vx_ret (e_i X hr S (Nat.le_of_ble_eq_true rfl) (Nat.le_of_ble_eq_true rfl) dX9_ground_37 ?_)
  simp only [na, nb, nk]
  refine ⟨k2_0 hr_2 hP2, by trivial, ?_, ?_⟩
  · rw [hr_32]; exact RX_ground hR (by rw [s_up_fn]; exact grd_put hgd (by omega) (by omega) (by omega))
  · rw [hr_32]; exact md_mono (md_put hrw) (fun t q => by unfold tX; omega)

set_option maxRecDepth 100000 in
set_option maxHeartbeats 4000000 in
/-- stone -/
theorem c_stone (l : Launch) (hst : l.stackTraces = false) (G : cx_G) (f : Wd) (st : St) (x : Nat) (hI : sInv st) (hR0 : RX G f st x) (a b z : Int32) : XI l G yX9_stone wsX9_stone 8 218 5 324 [.ref x, .int a, .int b, .int z] f (fun r f' => (k3 (cellP a b) (inI z 1 6) (st 0 0 + 1 ≤ 200)) = 0 ∧ r = nI (cn (goneB st (nN a) (nN b) (nN z)) (st 0 0)) ∧ RX G f' (fallSt st (nN a) (nN b) (nN z)) x ∧ md tX f f') (psi ["java/lang/IndexOutOfBoundsException", "java/lang/IllegalArgumentException", "java/lang/IllegalStateException"] (k3 (cellP a b) (inI z 1 6) (st 0 0 + 1 ≤ 200))) := by
  refine vx_body (cc := cX9_stone) (n := 4) (ret := (some .int)) (by decide +kernel) rfl (Nat.le_of_ble_eq_true rfl) ?_
  intro p0 e0 s0 m0 b0 meth0 c0 ls X hr hnm hout S hl
  have X : cxC G p0 l _ c0 cX9_stone 4 m0 meth0 s0 _ RX9 wsX9_stone := X
  have hl : lv_has ls 4 [(0, .ref x), (1, .int a), (2, .int b), (3, .int z)] := hl
  obtain ⟨gr, rw1, L1, L2, L3, cu, L4, g1, g2, g3, g4, w, hR⟩ := id hR0
  obtain ⟨hi0, hi1, hi2, hi3, hi4, hi5, hi6, hi7⟩ := id hI
  obtain ⟨hx, hgr, hrw, hgd, hL1, hC, hL2, hS2, hL3, hE, hcu, hL4, hA⟩ := id hR
  refine lv_iload_n X.1 X.2.1 dX9_stone_0 rfl (lv_at hl 1 rfl) ?_
  refine lv_iload_n X.1 X.2.1 dX9_stone_1 rfl (lv_at hl 2 rfl) ?_
  refine xcall_v (xrun_S X S (m_rqCell l hst G f a b) 2 gX9_stone_X9_requireCell rfl rfl rfl (by decide +kernel) ⟨(by exact Nat.le_of_ble_eq_true rfl), (by exact Nat.le_of_ble_eq_true rfl)⟩ rfl hl.1 rfl (by exact Nat.le_of_ble_eq_true rfl) dX9_stone_2 ⟨(by exact Nat.le_of_ble_eq_true rfl), (by exact Nat.le_of_ble_eq_true rfl)⟩) S hout X.2.2.2.2.2.2.2 (by exact Nat.le_of_ble_eq_true rfl) (by exact Nat.le_of_ble_eq_true rfl) (fun E hE => by rw [hE.1]; exact p31 hE.2) (fun H locs hr_2 S => ?_)
  refine lv_iload_n X.1 X.2.1 dX9_stone_5 rfl (lv_at hl 3 rfl) ?_
  refine lv_i2l (v := z.toInt64) X.1 X.2.1 dX9_stone_6 rfl ?_
  refine lv_lconst (v := 1) X.1 X.2.1 dX9_stone_7 (by decide) ?_
  refine r_ldc2 (v := 6) X (by decide +kernel) dX9_stone_8 ?_
  refine xcall_v (xrun_S X S (m_rqRange l hst G f z.toInt64 1 6) 3 gX9_stone_X9_requireRange rfl rfl rfl (by decide +kernel) ⟨(by exact Nat.le_of_ble_eq_true rfl), (by exact Nat.le_of_ble_eq_true rfl)⟩ rfl hl.1 rfl (by exact Nat.le_of_ble_eq_true rfl) dX9_stone_11 ⟨(by exact Nat.le_of_ble_eq_true rfl), (by exact Nat.le_of_ble_eq_true rfl)⟩) S hout X.2.2.2.2.2.2.2 (by exact Nat.le_of_ble_eq_true rfl) (by exact Nat.le_of_ble_eq_true rfl) (fun E hE => by rw [hE.1]; exact p32 hr_2 (fun z => hE.2 ((rg_i (p := 1) (q := 6) (by decide +kernel) (by decide +kernel)).mpr z))) (fun H locs hr_11 S => ?_)
  have hP2 := (rg_i (p := 1) (q := 6) (by decide +kernel) (by decide +kernel)).mp hr_11
  refine lv_aload_n X.1 X.2.1 dX9_stone_14 rfl (lv_at hl 0 rfl) ?_
  refine lv_iconst (v := 1) X.1 X.2.1 dX9_stone_15 (by decide) ?_
  refine r_toi (show (1 : Int32) = nI 1 from rfl) ?_
  refine xcall_v (xrun_V X S (m_rqRoomC l hst G f st x gr rw1 L1 L2 L3 cu L4 g1 g2 g3 g4 w hI hR 1 (by omega)) 1 gX9_stone_X9_requireRoomForCraters rfl rfl rfl (by decide +kernel) ⟨(by exact Nat.le_of_ble_eq_true rfl), (by exact Nat.le_of_ble_eq_true rfl)⟩ ⟨_, _, hx⟩ rfl rfl rfl hl.1 rfl (by exact Nat.le_of_ble_eq_true rfl) dX9_stone_16 ⟨(by exact Nat.le_of_ble_eq_true rfl), (by exact Nat.le_of_ble_eq_true rfl)⟩) S hout X.2.2.2.2.2.2.2 (by exact Nat.le_of_ble_eq_true rfl) (by exact Nat.le_of_ble_eq_true rfl) (fun E hE => by rw [hE.1]; exact p33 hr_2 hP2 hE.2) (fun H locs hr_16 S => ?_)
  obtain ⟨a1, rfl, alo, aup, abd⟩ := inI_sub hr_2.1 (by omega)
  have na : nN (nI a1) = a1 := nN_nI abd
  obtain ⟨b1, rfl, blo, bup, bbd⟩ := inI_sub hr_2.2 (by omega)
  have nb : nN (nI b1) = b1 := nN_nI bbd
  obtain ⟨z1, rfl, zlo, zup, zbd⟩ := inI_sub hP2 (by omega)
  have nz : nN (nI z1) = z1 := nN_nI zbd
  refine lv_aload_n X.1 X.2.1 dX9_stone_19 rfl (lv_at hl 0 rfl) ?_
  refine lv_iload_n X.1 X.2.1 dX9_stone_20 rfl (lv_at hl 1 rfl) ?_
  refine lv_iload_n X.1 X.2.1 dX9_stone_21 rfl (lv_at hl 2 rfl) ?_
  refine lv_iload_n X.1 X.2.1 dX9_stone_22 rfl (lv_at hl 3 rfl) ?_
  refine call_i (run_V X S (m_dropStone l G f st x gr rw1 L1 L2 L3 cu L4 g1 g2 g3 g4 w hI hR a1 b1 z1 (by omega) (by omega) (by omega) (by omega) (by omega)) 3 gX9_stone_X9_dropStone rfl rfl rfl (by decide +kernel) ⟨(by exact Nat.le_of_ble_eq_true rfl), (by exact Nat.le_of_ble_eq_true rfl)⟩ ⟨_, _, hx⟩ rfl rfl rfl hl.1 rfl (by exact Nat.le_of_ble_eq_true rfl) dX9_stone_23 ⟨(by exact Nat.le_of_ble_eq_true rfl), (by exact Nat.le_of_ble_eq_true rfl)⟩) S (fun r_23 f_23 H locs hr_23 S => ?_)
  refine vx_ret (e_i X hr S (Nat.le_of_ble_eq_true rfl) (Nat.le_of_ble_eq_true rfl) dX9_stone_26 ?_)
  simp only [na, nb, nz]
  exact ⟨k3_0 hr_2 hP2 hr_16, hr_23⟩

set_option maxRecDepth 100000 in
set_option maxHeartbeats 4000000 in
/-- draw -/
theorem c_draw (l : Launch) (hst : l.stackTraces = false) (G : cx_G) (f : Wd) (st : St) (x : Nat) (hI : sInv st) (hR0 : RX G f st x) (a : Int32) : XI l G yX9_draw wsX9_draw 7 115 1 6 [.ref x, .int a] f (fun r f' => (k1 (inI a 1 65536)) = 0 ∧ r = nI (st 0 4) ∧ RX G f' (s_up st 0 4 (nN a)) x ∧ md tX f f') (psi ["java/lang/IllegalArgumentException"] (k1 (inI a 1 65536))) := by
  refine vx_body (cc := cX9_draw) (n := 3) (ret := (some .int)) (by decide +kernel) rfl (Nat.le_of_ble_eq_true rfl) ?_
  intro p0 e0 s0 m0 b0 meth0 c0 ls X hr hnm hout S hl
  have X : cxC G p0 l _ c0 cX9_draw 3 m0 meth0 s0 _ RX9 wsX9_draw := X
  have hl : lv_has ls 3 [(0, .ref x), (1, .int a)] := hl
  have in_RX9 : ∀ w ∈ u_ws RX9 TX9 6, w ∈ wsX9_draw := by decide +kernel
  obtain ⟨gr, rw1, L1, L2, L3, cu, L4, g1, g2, g3, g4, w, hR⟩ := id hR0
  obtain ⟨hi0, hi1, hi2, hi3, hi4, hi5, hi6, hi7⟩ := id hI
  obtain ⟨hx, hgr, hrw, hgd, hL1, hC, hL2, hS2, hL3, hE, hcu, hL4, hA⟩ := id hR
  refine lv_iload_n X.1 X.2.1 dX9_draw_0 rfl (lv_at hl 1 rfl) ?_
  refine lv_i2l (v := a.toInt64) X.1 X.2.1 dX9_draw_1 rfl ?_
  refine lv_lconst (v := 1) X.1 X.2.1 dX9_draw_2 (by decide) ?_
  refine r_ldc2 (v := 65536) X (by decide +kernel) dX9_draw_3 ?_
  refine xcall_v (xrun_S X S (m_rqRange l hst G f a.toInt64 1 65536) 3 gX9_draw_X9_requireRange rfl rfl rfl (by decide +kernel) ⟨(by exact Nat.le_of_ble_eq_true rfl), (by exact Nat.le_of_ble_eq_true rfl)⟩ rfl hl.1 rfl (by exact Nat.le_of_ble_eq_true rfl) dX9_draw_6 ⟨(by exact Nat.le_of_ble_eq_true rfl), (by exact Nat.le_of_ble_eq_true rfl)⟩) S hout X.2.2.2.2.2.2.2 (by exact Nat.le_of_ble_eq_true rfl) (by exact Nat.le_of_ble_eq_true rfl) (fun E hE => by rw [hE.1]; exact p11 (fun z => hE.2 ((rg_i (p := 1) (q := 65536) (by decide +kernel) (by decide +kernel)).mpr z))) (fun H locs hr_6 S => ?_)
  have hP1 := (rg_i (p := 1) (q := 65536) (by decide +kernel) (by decide +kernel)).mp hr_6
  obtain ⟨a1, rfl, alo, aup, abd⟩ := inI_sub hP1 (by omega)
  have na : nN (nI a1) = a1 := nN_nI abd
  refine lv_aload_n X.1 X.2.1 dX9_draw_9 rfl (lv_at hl 0 rfl) ?_
  refine r_get (C := RX9) (T := TX9) (N := 6) (ref := "Craterclock") X S in_RX9 hx rfl 5 (by decide) (by decide +kernel) (fun _ h => h) rfl dX9_draw_10 ?_
  refine lv_istore_n (lv' := [(2, .int (nI (st 0 4))), (0, .ref x), (1, .int (nI a1))]) X.1 X.2.1 dX9_draw_13 rfl hl (by decide) rfl (fun ls hl => ?_)
  refine lv_aload_n X.1 X.2.1 dX9_draw_14 rfl (lv_at hl 1 rfl) ?_
  refine lv_iload_n X.1 X.2.1 dX9_draw_15 rfl (lv_at hl 2 rfl) ?_
  refine r_put (C := RX9) (T := TX9) (N := 6) (ref := "Craterclock") (fs' := [.ref gr, .ref L1, .ref L2, .ref L3, .ref cu, .int (nI a1)]) (ty := .int) X S in_RX9 tyX9 tyX9_ok nmX9 hx (by decide) rfl 5 (by decide) (by decide +kernel) (fun _ h => h) rfl (by decide +kernel) rfl rfl (Nat.le_of_ble_eq_true rfl) rfl dX9_draw_16 (fun H locs S => ?_)
  obtain ⟨f_16, ef_16⟩ : ∃ z9 : Wd, z9 = wu f x 0 (.inr (9, [.ref gr, .ref L1, .ref L2, .ref L3, .ref cu, .int (nI a1)])) := ⟨_, rfl⟩
  rw [← ef_16] at S
  have hx_16 : f_16 x = some (0, .inr (9, [.ref gr, .ref L1, .ref L2, .ref L3, .ref cu, .int (nI a1)])) := by rw [ef_16]; exact wu_self _ _ _ _
  refine lv_iload_n X.1 X.2.1 dX9_draw_19 rfl (lv_at hl 0 rfl) ?_
  refine vx_ret (e_i X hr S (Nat.le_of_ble_eq_true rfl) (Nat.le_of_ble_eq_true rfl) dX9_draw_20 ?_)
  simp only [na]
  refine ⟨k1_0 hP1, by trivial, ?_, ?_⟩
  · rw [ef_16]; exact ⟨gr, rw1, L1, L2, L3, cu, L4, g1, g2, g3, g4, w, RXx_draw hR⟩
  · rw [ef_16]; exact md_mono (md_put hx) (fun t q => by unfold tX; omega)

set_option maxRecDepth 100000 in
set_option maxHeartbeats 4000000 in
/-- rain -/
theorem c_rain (l : Launch) (hst : l.stackTraces = false) (G : cx_G) (f : Wd) (st : St) (x : Nat) (hI : sInv st) (hR0 : RX G f st x) (n : Int32) : XI l G yX9_rain wsX9_rain 8 218 62 9192 [.ref x, .int n] f (fun r f' => (k2 (inI n 1 30) (st 0 0 + nN n ≤ 200)) = 0 ∧ r = nI (cn (liveP (rainSt st (nN n))) ((rainSt st (nN n)) 0 0)) ∧ RX G f' (rainSt st (nN n)) x ∧ md tX f f') (psi ["java/lang/IllegalArgumentException", "java/lang/IllegalStateException"] (k2 (inI n 1 30) (st 0 0 + nN n ≤ 200))) := by
  refine vx_body (cc := cX9_rain) (n := 6) (ret := (some .int)) (by decide +kernel) rfl (Nat.le_of_ble_eq_true rfl) ?_
  intro p0 e0 s0 m0 b0 meth0 c0 ls X hr hnm hout S hl
  have X : cxC G p0 l _ c0 cX9_rain 6 m0 meth0 s0 _ RX9 wsX9_rain := X
  have hl : lv_has ls 6 [(0, .ref x), (1, .int n)] := hl
  obtain ⟨gr, rw1, L1, L2, L3, cu, L4, g1, g2, g3, g4, w, hR⟩ := id hR0
  obtain ⟨hi0, hi1, hi2, hi3, hi4, hi5, hi6, hi7⟩ := id hI
  obtain ⟨hx, hgr, hrw, hgd, hL1, hC, hL2, hS2, hL3, hE, hcu, hL4, hA⟩ := id hR
  refine lv_iload_n X.1 X.2.1 dX9_rain_0 rfl (lv_at hl 1 rfl) ?_
  refine lv_i2l (v := n.toInt64) X.1 X.2.1 dX9_rain_1 rfl ?_
  refine lv_lconst (v := 1) X.1 X.2.1 dX9_rain_2 (by decide) ?_
  refine r_ldc2 (v := 30) X (by decide +kernel) dX9_rain_3 ?_
  refine xcall_v (xrun_S X S (m_rqRange l hst G f n.toInt64 1 30) 3 gX9_rain_X9_requireRange rfl rfl rfl (by decide +kernel) ⟨(by exact Nat.le_of_ble_eq_true rfl), (by exact Nat.le_of_ble_eq_true rfl)⟩ rfl hl.1 rfl (by exact Nat.le_of_ble_eq_true rfl) dX9_rain_6 ⟨(by exact Nat.le_of_ble_eq_true rfl), (by exact Nat.le_of_ble_eq_true rfl)⟩) S hout X.2.2.2.2.2.2.2 (by exact Nat.le_of_ble_eq_true rfl) (by exact Nat.le_of_ble_eq_true rfl) (fun E hE => by rw [hE.1]; exact p21 (fun z => hE.2 ((rg_i (p := 1) (q := 30) (by decide +kernel) (by decide +kernel)).mpr z))) (fun H locs hr_6 S => ?_)
  have hP1 := (rg_i (p := 1) (q := 30) (by decide +kernel) (by decide +kernel)).mp hr_6
  obtain ⟨n1, rfl, nlo, nup, nbd⟩ := inI_sub hP1 (by omega)
  have nn : nN (nI n1) = n1 := nN_nI nbd
  refine lv_aload_n X.1 X.2.1 dX9_rain_9 rfl (lv_at hl 0 rfl) ?_
  refine lv_iload_n X.1 X.2.1 dX9_rain_10 rfl (lv_at hl 1 rfl) ?_
  refine xcall_v (xrun_V X S (m_rqRoomC l hst G f st x gr rw1 L1 L2 L3 cu L4 g1 g2 g3 g4 w hI hR n1 (by omega)) 1 gX9_rain_X9_requireRoomForCraters rfl rfl rfl (by decide +kernel) ⟨(by exact Nat.le_of_ble_eq_true rfl), (by exact Nat.le_of_ble_eq_true rfl)⟩ ⟨_, _, hx⟩ rfl rfl rfl hl.1 rfl (by exact Nat.le_of_ble_eq_true rfl) dX9_rain_11 ⟨(by exact Nat.le_of_ble_eq_true rfl), (by exact Nat.le_of_ble_eq_true rfl)⟩) S hout X.2.2.2.2.2.2.2 (by exact Nat.le_of_ble_eq_true rfl) (by exact Nat.le_of_ble_eq_true rfl) (fun E hE => by rw [hE.1]; exact p22 hP1 (fun z => hE.2 (by rw [nn] at z; exact z))) (fun H locs hr_11 S => ?_)
  refine lv_iconst (v := 0) X.1 X.2.1 dX9_rain_14 (by decide) ?_
  refine lv_istore_n (lv' := [(2, .int 0), (0, .ref x), (1, .int (nI n1))]) X.1 X.2.1 dX9_rain_15 rfl hl (by decide) rfl (fun ls hl => ?_)
  refine W_genQ (fun Q9 hQ9 => ?_)
  have loop : ∀ (N : Nat) (k : Nat) (fk : Wd) (ck : Nat) (sk : Nat) (H : Heap) (locs : List Loc) (ls : Array Slot), k ≤ n1 → n1 < k + N → RX G fk (rainSt st k) x → md tX f fk → ck ≤ 2 + 2 * k → sk ≤ 12 + 306 * k → cxS G s0 fk H locs → lv_has ls 6 [(0, .ref x), (1, .int (nI n1)), (2, .int (nI k))] → W p0 l e0 ({ frames := 8, cells := 62, slots := 9192, locals := 218 } : Room) s0 m0 ([.ref x, .int (nI n1)] : List Value).toArray b0 meth0 c0 H locs ck sk Q9 (F0 m0 16 ls []) := by
    intro N
    induction N with
    | zero =>
      intro k fk ck sk  H locs ls hk hN hRk0 hmk hck hsk S hl
      exfalso
      omega
    | succ N ih =>
      intro k fk ck sk  H locs ls hk hN hRk0 hmk hck hsk S hl
      have hIk := sInv_rain hI k (by omega)
      have hIk4 := hIk.1.2.2.2.2
      have hnk := rainSt_n st k
      obtain ⟨gr2, rw2, M1, M2, M3, cu2, M4, h1, h2, h3, h4, w2, hRk⟩ := id hRk0
      have hxk := hRk.1
      refine lv_iload_n X.1 X.2.1 dX9_rain_16 rfl (lv_at hl 2 rfl) ?_
      refine lv_iload_n X.1 X.2.1 dX9_rain_17 rfl (lv_at hl 1 rfl) ?_
      refine lv_icmp_ge (tgt := 66) X.1 X.2.1 dX9_rain_18 (by decide) (fun c_18 => ?_) (fun c_18 => ?_)
      · have hkn : k = n1 := by
          have := (nI_leI (by omega) (by omega)).mp c_18
          omega
        subst hQ9
        refine lv_aload_n X.1 X.2.1 dX9_rain_66 rfl (lv_at hl 0 rfl) ?_
        refine call_ip (run_V X S (m_countLeft l G fk (rainSt st k) x gr2 rw2 M1 M2 M3 cu2 M4 h1 h2 h3 h4 w2 hIk hRk) 0 gX9_rain_X9_countLeft rfl rfl rfl (by decide +kernel) ⟨(by exact Nat.le_of_ble_eq_true rfl), (by exact Nat.le_of_ble_eq_true rfl)⟩ ⟨_, _, hxk⟩ rfl rfl rfl hl.1 rfl (by exact Nat.le_of_ble_eq_true rfl) dX9_rain_67 ⟨(show ck + 0 ≤ 62 by omega), (show sk + 0 ≤ 9192 by omega)⟩) S (fun r_67 H locs hr_67 S => ?_)
        subst hr_67
        refine vx_ret (e_i X hr S (by omega) (by omega) dX9_rain_70 ?_)
        simp only [nn]
        refine ⟨k2_0 hP1 hr_11, ?_, ?_, hmk⟩
        · rw [← hkn]; rfl
        · rw [← hkn]; exact hRk0
      · have hlt_k : k < n1 := Nat.lt_of_not_le (fun z => c_18 (nI_le z (by omega)))
        refine lv_aload_n X.1 X.2.1 dX9_rain_21 rfl (lv_at hl 0 rfl) ?_
        refine call_i (run_V X S (m_drawNext l G fk x gr2 M1 M2 M3 cu2 (rainSt st k 0 4) hxk (by omega)) 0 gX9_rain_X9_drawNext rfl rfl rfl (by decide +kernel) ⟨(by exact Nat.le_of_ble_eq_true rfl), (by exact Nat.le_of_ble_eq_true rfl)⟩ ⟨_, _, hxk⟩ rfl rfl rfl hl.1 rfl (by exact Nat.le_of_ble_eq_true rfl) dX9_rain_22 ⟨(show ck + 0 ≤ 62 by omega), (show sk + 0 ≤ 9192 by omega)⟩) S (fun r_22 f_22 H locs hr_22 S => ?_)
        obtain ⟨rfl, ed1⟩ := hr_22
        have hx_22 : f_22 x = some (0, .inr (9, [.ref gr2, .ref M1, .ref M2, .ref M3, .ref cu2, .int (nI (nxt (rainSt st k 0 4)))])) := by rw [ed1]; exact wu_self _ _ _ _
        refine lv_bipush (v := 16) X.1 X.2.1 dX9_rain_25 (by decide) ?_
        refine lv_irem X.1 X.2.1 dX9_rain_27 (by decide) ?_
        refine r_toi (y := nI ((nxt (rainSt st k 0 4)) % 16)) (pk_rem (a := (nxt (rainSt st k 0 4))) (d := 16) (by have := nxt_lt (rainSt st k 0 4); unfold nxt at *; omega) (by omega) (by omega)) ?_
        refine lv_istore_n (lv' := [(3, .int (nI ((nxt (rainSt st k 0 4)) % 16))), (0, .ref x), (1, .int (nI n1)), (2, .int (nI k))]) X.1 X.2.1 dX9_rain_28 rfl hl (by decide) rfl (fun ls hl => ?_)
        refine lv_aload_n X.1 X.2.1 dX9_rain_29 rfl (lv_at hl 1 rfl) ?_
        refine call_i (run_V X S (m_drawNext l G f_22 x gr2 M1 M2 M3 cu2 (nxt (rainSt st k 0 4)) hx_22 (nxt_lt _)) 0 gX9_rain_X9_drawNext rfl rfl rfl (by decide +kernel) ⟨(by exact Nat.le_of_ble_eq_true rfl), (by exact Nat.le_of_ble_eq_true rfl)⟩ ⟨_, _, hx_22⟩ rfl rfl rfl hl.1 rfl (by exact Nat.le_of_ble_eq_true rfl) dX9_rain_30 ⟨(show ck + 0 ≤ 62 by omega), (show sk + 0 ≤ 9192 by omega)⟩) S (fun r_30 f_30 H locs hr_30 S => ?_)
        obtain ⟨rfl, ed2⟩ := hr_30
        have hx_30 : f_30 x = some (0, .inr (9, [.ref gr2, .ref M1, .ref M2, .ref M3, .ref cu2, .int (nI (nxt (nxt (rainSt st k 0 4))))])) := by rw [ed2]; exact wu_self _ _ _ _
        refine lv_bipush (v := 16) X.1 X.2.1 dX9_rain_33 (by decide) ?_
        refine lv_irem X.1 X.2.1 dX9_rain_35 (by decide) ?_
        refine r_toi (y := nI ((nxt (nxt (rainSt st k 0 4))) % 16)) (pk_rem (a := (nxt (nxt (rainSt st k 0 4)))) (d := 16) (by have := nxt_lt (rainSt st k 0 4); unfold nxt at *; omega) (by omega) (by omega)) ?_
        refine lv_istore (lv' := [(4, .int (nI ((nxt (nxt (rainSt st k 0 4))) % 16))), (3, .int (nI ((nxt (rainSt st k 0 4)) % 16))), (0, .ref x), (1, .int (nI n1)), (2, .int (nI k))]) X.1 X.2.1 dX9_rain_36 hl (by decide) rfl (fun ls hl => ?_)
        refine lv_aload_n X.1 X.2.1 dX9_rain_38 rfl (lv_at hl 2 rfl) ?_
        refine call_i (run_V X S (m_drawNext l G f_30 x gr2 M1 M2 M3 cu2 (nxt (nxt (rainSt st k 0 4))) hx_30 (nxt_lt _)) 0 gX9_rain_X9_drawNext rfl rfl rfl (by decide +kernel) ⟨(by exact Nat.le_of_ble_eq_true rfl), (by exact Nat.le_of_ble_eq_true rfl)⟩ ⟨_, _, hx_30⟩ rfl rfl rfl hl.1 rfl (by exact Nat.le_of_ble_eq_true rfl) dX9_rain_39 ⟨(show ck + 0 ≤ 62 by omega), (show sk + 0 ≤ 9192 by omega)⟩) S (fun r_39 f_39 H locs hr_39 S => ?_)
        obtain ⟨rfl, ed3⟩ := hr_39
        have hx_39 : f_39 x = some (0, .inr (9, [.ref gr2, .ref M1, .ref M2, .ref M3, .ref cu2, .int (nI (nxt (nxt (nxt (rainSt st k 0 4)))))])) := by rw [ed3]; exact wu_self _ _ _ _
        refine lv_bipush (v := 64) X.1 X.2.1 dX9_rain_42 (by decide) ?_
        refine lv_irem X.1 X.2.1 dX9_rain_44 (by decide) ?_
        refine r_toi (y := nI ((nxt (nxt (nxt (rainSt st k 0 4)))) % 64)) (pk_rem (a := (nxt (nxt (nxt (rainSt st k 0 4))))) (d := 64) (by have := nxt_lt (rainSt st k 0 4); unfold nxt at *; omega) (by omega) (by omega)) ?_
        refine call_ip (run_S X S (m_sizeDrawn l G f_39 ((nxt (nxt (nxt (rainSt st k 0 4)))) % 64) (Nat.mod_lt _ (by omega))) 1 gX9_rain_X9_sizeDrawn rfl rfl rfl (by decide +kernel) ⟨(by exact Nat.le_of_ble_eq_true rfl), (by exact Nat.le_of_ble_eq_true rfl)⟩ rfl hl.1 rfl (by exact Nat.le_of_ble_eq_true rfl) dX9_rain_45 ⟨(show ck + 0 + 0 + 0 + 0 ≤ 62 by omega), (show sk + 0 + 0 + 0 + 0 ≤ 9192 by omega)⟩) S (fun r_45 H locs hr_45 S => ?_)
        subst hr_45
        refine lv_istore (lv' := [(5, .int (nI (sizeOf ((nxt (nxt (nxt (rainSt st k 0 4)))) % 64)))), (4, .int (nI ((nxt (nxt (rainSt st k 0 4))) % 16))), (3, .int (nI ((nxt (rainSt st k 0 4)) % 16))), (0, .ref x), (1, .int (nI n1)), (2, .int (nI k))]) X.1 X.2.1 dX9_rain_48 hl (by decide) rfl (fun ls hl => ?_)
        have eD : f_39 = wu fk x 0 (.inr (9, [.ref gr2, .ref M1, .ref M2, .ref M3, .ref cu2, .int (nI (nxt (nxt (nxt (rainSt st k 0 4)))))])) := by rw [ed3, ed2, ed1, wu_wu, wu_wu]; rfl
        have hRD : RXx G f_39 (s_up (rainSt st k) 0 4 (nxt (nxt (nxt (rainSt st k 0 4))))) x gr2 rw2 M1 M2 M3 cu2 M4 h1 h2 h3 h4 w2 := by rw [eD]; exact RXx_draw hRk
        have hID : sInv (s_up (rainSt st k) 0 4 (nxt (nxt (nxt (rainSt st k 0 4))))) := sInv_draw hIk (nxt_lt _)
        have hmD : md (fun t => t = 0) fk f_39 := by rw [eD]; exact md_put hxk
        refine lv_aload_n X.1 X.2.1 dX9_rain_50 rfl (lv_at hl 3 rfl) ?_
        refine lv_iload_n X.1 X.2.1 dX9_rain_51 rfl (lv_at hl 2 rfl) ?_
        refine lv_iload X.1 X.2.1 dX9_rain_52 (lv_at hl 1 rfl) ?_
        refine lv_iload X.1 X.2.1 dX9_rain_54 (lv_at hl 0 rfl) ?_
        refine call_i (run_V X S (m_dropStone l G f_39 (s_up (rainSt st k) 0 4 (nxt (nxt (nxt (rainSt st k 0 4))))) x gr2 rw2 M1 M2 M3 cu2 M4 h1 h2 h3 h4 w2 hID hRD ((nxt (rainSt st k 0 4)) % 16) ((nxt (nxt (rainSt st k 0 4))) % 16) (sizeOf ((nxt (nxt (nxt (rainSt st k 0 4)))) % 64)) (by rw [s_up_ne _ (by omega)]; omega) (Nat.mod_lt _ (by omega)) (Nat.mod_lt _ (by omega)) (sizeOf_in _).1 (sizeOf_in _).2) 3 gX9_rain_X9_dropStone rfl rfl rfl (by decide +kernel) ⟨(by exact Nat.le_of_ble_eq_true rfl), (by exact Nat.le_of_ble_eq_true rfl)⟩ ⟨_, _, hx_39⟩ rfl rfl rfl hl.1 rfl (by exact Nat.le_of_ble_eq_true rfl) dX9_rain_56 ⟨(show _ ≤ 62 by omega), (show _ ≤ 9192 by omega)⟩) S (fun r_56 f_56 H locs hr_56 S => ?_)
        obtain ⟨hr56, hR56, hm56⟩ := hr_56
        have hR56 : RX G f_56 (rainSt st (k + 1)) x := hR56
        have hm56 : md tX fk f_56 := md_tr hmD hm56 (fun t q => by unfold tX; omega) (fun _ q => q)
        refine lv_pop X.1 X.2.1 dX9_rain_59 rfl ?_
        refine lv_iinc (v := (nI (k + 1))) (lv' := [(2, .int (nI (k + 1))), (5, .int (nI (sizeOf ((nxt (nxt (nxt (rainSt st k 0 4)))) % 64)))), (4, .int (nI ((nxt (nxt (rainSt st k 0 4))) % 16))), (3, .int (nI ((nxt (rainSt st k 0 4)) % 16))), (0, .ref x), (1, .int (nI n1))]) X.1 X.2.1 dX9_rain_60 hl (k := 5) rfl (nI_1 _) (by decide) rfl (fun ls hl => ?_)
        refine lv_goto (tgt := 16) X.1 X.2.1 dX9_rain_63 (by decide) ?_
        exact ih (k + 1) f_56 (ck + 2) (sk + 306) H locs ls (by omega) (by omega) hR56 (md_tr hmk hm56 (fun _ q => q) (fun _ q => q)) (by omega) (by omega) S (lv_sub hl [4, 5, 0] rfl)
  exact loop (n1 + 1) 0 f 2 12 _ _ _ (by omega) (by omega) hR0 (md_rf _ _) (by omega) (by omega) S (lv_sub hl [1, 2, 0] rfl)

set_option maxRecDepth 100000 in
set_option maxHeartbeats 4000000 in
/-- flood -/
theorem c_flood (l : Launch) (hst : l.stackTraces = false) (G : cx_G) (f : Wd) (st : St) (x : Nat) (hI : sInv st) (hR0 : RX G f st x) (a b p q v : Int32) : XI l G yX9_flood wsX9_flood 8 215 8 337 [.ref x, .int a, .int b, .int p, .int q, .int v] f (fun r f' => (k3 (cellP a b ∧ cellP p q) (inI v 1 40 ∧ ordP a b p q) (st 0 1 < 100)) = 0 ∧ r = nI (cn (goneL st (floodφ (nN a) (nN b) (nN p) (nN q) (nN v))) (st 0 0)) ∧ RX G f' (lessSt st (floodφ (nN a) (nN b) (nN p) (nN q) (nN v))) x ∧ md tX f f') (psi ["java/lang/IndexOutOfBoundsException", "java/lang/IllegalArgumentException", "java/lang/IllegalStateException"] (k3 (cellP a b ∧ cellP p q) (inI v 1 40 ∧ ordP a b p q) (st 0 1 < 100))) := by
  refine vx_body (cc := cX9_flood) (n := 6) (ret := (some .int)) (by decide +kernel) rfl (Nat.le_of_ble_eq_true rfl) ?_
  intro p0 e0 s0 m0 b0 meth0 c0 ls X hr hnm hout S hl
  have X : cxC G p0 l _ c0 cX9_flood 6 m0 meth0 s0 _ RX9 wsX9_flood := X
  have hl : lv_has ls 6 [(0, .ref x), (1, .int a), (2, .int b), (3, .int p), (4, .int q), (5, .int v)] := hl
  have in_RX4 : ∀ w ∈ u_ws RX4 TX4 4, w ∈ wsX9_flood := by decide +kernel
  have in_RX5 : ∀ w ∈ u_ws RX5 TX5 3, w ∈ wsX9_flood := by decide +kernel
  have in_RX9 : ∀ w ∈ u_ws RX9 TX9 6, w ∈ wsX9_flood := by decide +kernel
  obtain ⟨gr, rw1, L1, L2, L3, cu, L4, g1, g2, g3, g4, w, hR⟩ := id hR0
  obtain ⟨hi0, hi1, hi2, hi3, hi4, hi5, hi6, hi7⟩ := id hI
  obtain ⟨hx, hgr, hrw, hgd, hL1, hC, hL2, hS2, hL3, hE, hcu, hL4, hA⟩ := id hR
  have m00 : md (fun _ => False) f f := md_rf _ f
  refine lv_iload_n X.1 X.2.1 dX9_flood_0 rfl (lv_at hl 1 rfl) ?_
  refine lv_iload_n X.1 X.2.1 dX9_flood_1 rfl (lv_at hl 2 rfl) ?_
  refine xcall_v (xrun_S X S (m_rqCell l hst G f a b) 2 gX9_flood_X9_requireCell rfl rfl rfl (by decide +kernel) ⟨(by exact Nat.le_of_ble_eq_true rfl), (by exact Nat.le_of_ble_eq_true rfl)⟩ rfl hl.1 rfl (by exact Nat.le_of_ble_eq_true rfl) dX9_flood_2 ⟨(by exact Nat.le_of_ble_eq_true rfl), (by exact Nat.le_of_ble_eq_true rfl)⟩) S hout X.2.2.2.2.2.2.2 (by exact Nat.le_of_ble_eq_true rfl) (by exact Nat.le_of_ble_eq_true rfl) (fun E hE => by rw [hE.1]; exact p31 (fun z => hE.2 z.1)) (fun H locs hr_2 S => ?_)
  refine lv_iload_n X.1 X.2.1 dX9_flood_5 rfl (lv_at hl 3 rfl) ?_
  refine lv_iload X.1 X.2.1 dX9_flood_6 (lv_at hl 4 rfl) ?_
  refine xcall_v (xrun_S X S (m_rqCell l hst G f p q) 2 gX9_flood_X9_requireCell rfl rfl rfl (by decide +kernel) ⟨(by exact Nat.le_of_ble_eq_true rfl), (by exact Nat.le_of_ble_eq_true rfl)⟩ rfl hl.1 rfl (by exact Nat.le_of_ble_eq_true rfl) dX9_flood_8 ⟨(by exact Nat.le_of_ble_eq_true rfl), (by exact Nat.le_of_ble_eq_true rfl)⟩) S hout X.2.2.2.2.2.2.2 (by exact Nat.le_of_ble_eq_true rfl) (by exact Nat.le_of_ble_eq_true rfl) (fun E hE => by rw [hE.1]; exact p31 (fun z => hE.2 z.2)) (fun H locs hr_8 S => ?_)
  refine lv_iload X.1 X.2.1 dX9_flood_11 (lv_at hl 5 rfl) ?_
  refine lv_i2l (v := v.toInt64) X.1 X.2.1 dX9_flood_13 rfl ?_
  refine lv_lconst (v := 1) X.1 X.2.1 dX9_flood_14 (by decide) ?_
  refine r_ldc2 (v := 40) X (by decide +kernel) dX9_flood_15 ?_
  refine xcall_v (xrun_S X S (m_rqRange l hst G f v.toInt64 1 40) 3 gX9_flood_X9_requireRange rfl rfl rfl (by decide +kernel) ⟨(by exact Nat.le_of_ble_eq_true rfl), (by exact Nat.le_of_ble_eq_true rfl)⟩ rfl hl.1 rfl (by exact Nat.le_of_ble_eq_true rfl) dX9_flood_18 ⟨(by exact Nat.le_of_ble_eq_true rfl), (by exact Nat.le_of_ble_eq_true rfl)⟩) S hout X.2.2.2.2.2.2.2 (by exact Nat.le_of_ble_eq_true rfl) (by exact Nat.le_of_ble_eq_true rfl) (fun E hE => by rw [hE.1]; exact p32 ⟨hr_2, hr_8⟩ (fun z => hE.2 ((rg_i (p := 1) (q := 40) (by decide +kernel) (by decide +kernel)).mpr z.1))) (fun H locs hr_18 S => ?_)
  have hP3 := (rg_i (p := 1) (q := 40) (by decide +kernel) (by decide +kernel)).mp hr_18
  refine lv_iload_n X.1 X.2.1 dX9_flood_21 rfl (lv_at hl 1 rfl) ?_
  refine lv_iload_n X.1 X.2.1 dX9_flood_22 rfl (lv_at hl 2 rfl) ?_
  refine lv_iload_n X.1 X.2.1 dX9_flood_23 rfl (lv_at hl 3 rfl) ?_
  refine lv_iload X.1 X.2.1 dX9_flood_24 (lv_at hl 4 rfl) ?_
  refine xcall_v (xrun_S X S (m_rqOrder l hst G f a b p q) 4 gX9_flood_X9_requireOrder rfl rfl rfl (by decide +kernel) ⟨(by exact Nat.le_of_ble_eq_true rfl), (by exact Nat.le_of_ble_eq_true rfl)⟩ rfl hl.1 rfl (by exact Nat.le_of_ble_eq_true rfl) dX9_flood_26 ⟨(by exact Nat.le_of_ble_eq_true rfl), (by exact Nat.le_of_ble_eq_true rfl)⟩) S hout X.2.2.2.2.2.2.2 (by exact Nat.le_of_ble_eq_true rfl) (by exact Nat.le_of_ble_eq_true rfl) (fun E hE => by rw [hE.1]; exact p32 ⟨hr_2, hr_8⟩ (fun z => hE.2 z.2)) (fun H locs hr_26 S => ?_)
  refine lv_aload_n X.1 X.2.1 dX9_flood_29 rfl (lv_at hl 0 rfl) ?_
  refine xcall_v (xrun_V X S (m_rqRoomL l hst G f st x gr rw1 L1 L2 L3 cu L4 g1 g2 g3 g4 w hI hR) 0 gX9_flood_X9_requireRoomForLessening rfl rfl rfl (by decide +kernel) ⟨(by exact Nat.le_of_ble_eq_true rfl), (by exact Nat.le_of_ble_eq_true rfl)⟩ ⟨_, _, hx⟩ rfl rfl rfl hl.1 rfl (by exact Nat.le_of_ble_eq_true rfl) dX9_flood_30 ⟨(by exact Nat.le_of_ble_eq_true rfl), (by exact Nat.le_of_ble_eq_true rfl)⟩) S hout X.2.2.2.2.2.2.2 (by exact Nat.le_of_ble_eq_true rfl) (by exact Nat.le_of_ble_eq_true rfl) (fun E hE => by rw [hE.1]; exact p33 ⟨hr_2, hr_8⟩ ⟨hP3, hr_26⟩ hE.2) (fun H locs hr_30 S => ?_)
  obtain ⟨a1, rfl, alo, aup, abd⟩ := inI_sub hr_2.1 (by omega)
  have na : nN (nI a1) = a1 := nN_nI abd
  obtain ⟨b1, rfl, blo, bup, bbd⟩ := inI_sub hr_2.2 (by omega)
  have nb : nN (nI b1) = b1 := nN_nI bbd
  obtain ⟨p1, rfl, plo, pup, pbd⟩ := inI_sub hr_8.1 (by omega)
  have np : nN (nI p1) = p1 := nN_nI pbd
  obtain ⟨q1, rfl, qlo, qup, qbd⟩ := inI_sub hr_8.2 (by omega)
  have nq : nN (nI q1) = q1 := nN_nI qbd
  obtain ⟨v1, rfl, vlo, vup, vbd⟩ := inI_sub hP3 (by omega)
  have nv : nN (nI v1) = v1 := nN_nI vbd
  refine lv_aload_n X.1 X.2.1 dX9_flood_33 rfl (lv_at hl 0 rfl) ?_
  refine r_new (C := RX5) (T := TX5) (N := 3) (ci := 6) (fs := [.int 0, .null, .int 0]) X S 8 (by decide) in_RX5 tyX5 tyX5_ok (by decide +kernel) (by decide +kernel) (by decide +kernel) rfl (fun j hj => by rcases (show j = 0 ∨ j = 1 ∨ j = 2 by omega) with rfl | rfl | rfl <;> rfl) (by exact Nat.le_of_ble_eq_true rfl) (by exact Nat.le_of_ble_eq_true rfl) dX9_flood_34 (fun q_34 H hn_q_34 S => ?_)
  obtain ⟨f_34, ef_34⟩ : ∃ z9 : Wd, z9 = wu f q_34 8 (.inr (6, [.int 0, .null, .int 0])) := ⟨_, rfl⟩
  rw [← ef_34] at S
  have hx_34 : f_34 x = some (0, .inr (9, [.ref gr, .ref L1, .ref L2, .ref L3, .ref cu, .int (nI (st 0 4))])) := by rw [ef_34]; exact wu_new hn_q_34 hx
  have hNq34 : f_34 q_34 = some (8, .inr (6, [.int 0, .null, .int 0])) := by rw [ef_34]; exact wu_self _ _ _ _
  have hz_q_34 := md_none m00 hn_q_34
  have mw_new_34 : md (fun _ => False) f f_34 := by rw [ef_34]; exact md_newput hz_q_34 m00
  have hL1_34 := hL1.md mw_new_34 (fun z => z)
  refine lv_dup X.1 X.2.1 dX9_flood_37 rfl ?_
  refine lv_aload_n X.1 X.2.1 dX9_flood_38 rfl (lv_at hl 0 rfl) ?_
  refine r_get (C := RX9) (T := TX9) (N := 6) (ref := "Craterclock") X S in_RX9 hx_34 rfl 1 (by decide) (by decide +kernel) (fun _ h => h) rfl dX9_flood_39 ?_
  refine call_ip (run_V X S (m_sizeL l G f_34 L1 3 (st 0 0) g1 hL1_34) 0 gX9_flood_Jx4a65c_size_8abf5 rfl rfl rfl (by decide +kernel) ⟨(by exact Nat.le_of_ble_eq_true rfl), (by exact Nat.le_of_ble_eq_true rfl)⟩ hL1_34.obj rfl rfl rfl hl.1 rfl (by exact Nat.le_of_ble_eq_true rfl) dX9_flood_42 ⟨(by exact Nat.le_of_ble_eq_true rfl), (by exact Nat.le_of_ble_eq_true rfl)⟩) S (fun r_42 H locs hr_42 S => ?_)
  subst hr_42
  refine r_new (C := RX4) (T := TX4) (N := 4) (ci := 5) (fs := [.int 0, .int 0, .int 0, .int 0]) X S 8 (by decide) in_RX4 tyX4 tyX4_ok (by decide +kernel) (by decide +kernel) (by decide +kernel) rfl (fun j hj => by rcases (show j = 0 ∨ j = 1 ∨ j = 2 ∨ j = 3 by omega) with rfl | rfl | rfl | rfl <;> rfl) (by exact Nat.le_of_ble_eq_true rfl) (by exact Nat.le_of_ble_eq_true rfl) dX9_flood_45 (fun q_45 H hn_q_45 S => ?_)
  obtain ⟨f_45, ef_45⟩ : ∃ z9 : Wd, z9 = wu f_34 q_45 8 (.inr (5, [.int 0, .int 0, .int 0, .int 0])) := ⟨_, rfl⟩
  rw [← ef_45] at S
  have hx_45 : f_45 x = some (0, .inr (9, [.ref gr, .ref L1, .ref L2, .ref L3, .ref cu, .int (nI (st 0 4))])) := by rw [ef_45]; exact wu_new hn_q_45 hx_34
  have hNq34_45 : f_45 q_34 = some (8, .inr (6, [.int 0, .null, .int 0])) := by rw [ef_45]; exact wu_new hn_q_45 hNq34
  have hNq45 : f_45 q_45 = some (8, .inr (5, [.int 0, .int 0, .int 0, .int 0])) := by rw [ef_45]; exact wu_self _ _ _ _
  have hz_q_45 := md_none mw_new_34 hn_q_45
  have mw_new_45 : md (fun _ => False) f f_45 := by rw [ef_45]; exact md_newput hz_q_45 mw_new_34
  have hL1_45 := hL1.md mw_new_45 (fun z => z)
  refine lv_dup X.1 X.2.1 dX9_flood_48 rfl ?_
  refine lv_iload_n X.1 X.2.1 dX9_flood_49 rfl (lv_at hl 1 rfl) ?_
  refine lv_iload_n X.1 X.2.1 dX9_flood_50 rfl (lv_at hl 2 rfl) ?_
  refine lv_iload_n X.1 X.2.1 dX9_flood_51 rfl (lv_at hl 3 rfl) ?_
  refine lv_iload X.1 X.2.1 dX9_flood_52 (lv_at hl 4 rfl) ?_
  refine call_v (run_I X S (m_Field l G f_45 q_45 8 a1 b1 p1 q1 hNq45 (by decide)) 4 gX9_flood_X4_init rfl rfl rfl (by decide +kernel) (by decide +kernel) (by decide +kernel) rfl (by decide +kernel) ⟨(by exact Nat.le_of_ble_eq_true rfl), (by exact Nat.le_of_ble_eq_true rfl)⟩ rfl hl.1 rfl (by exact Nat.le_of_ble_eq_true rfl) dX9_flood_54 ⟨(by exact Nat.le_of_ble_eq_true rfl), (by exact Nat.le_of_ble_eq_true rfl)⟩) S (fun f_54 H locs hr_54 S => ?_)
  have hx_54 : f_54 x = some (0, .inr (9, [.ref gr, .ref L1, .ref L2, .ref L3, .ref cu, .int (nI (st 0 4))])) := by rw [hr_54]; exact wu_get hNq45 hx_45 (by decide)
  have hNq34_54 : f_54 q_34 = some (8, .inr (6, [.int 0, .null, .int 0])) := by rw [hr_54]; exact wu_gk hNq45 hNq34_45 (fun h => by cases h)
  have hNq45_54 : f_54 q_45 = some (8, .inr (5, [.int (nI a1), .int (nI b1), .int (nI p1), .int (nI q1)])) := by rw [hr_54]; exact wu_self _ _ _ _
  have mw_set_54 : md (fun _ => False) f f_54 := by rw [hr_54]; exact md_newput hz_q_45 mw_new_45
  have hL1_54 := hL1.md mw_set_54 (fun z => z)
  refine lv_iload X.1 X.2.1 dX9_flood_57 (lv_at hl 5 rfl) ?_
  refine call_v (run_I X S (m_Flood l G f_54 q_34 8 (st 0 0) q_45 v1 hNq34_54 (by decide)) 3 gX9_flood_X5_init rfl rfl rfl (by decide +kernel) (by decide +kernel) (by decide +kernel) rfl (by decide +kernel) ⟨(by exact Nat.le_of_ble_eq_true rfl), (by exact Nat.le_of_ble_eq_true rfl)⟩ rfl hl.1 rfl (by exact Nat.le_of_ble_eq_true rfl) dX9_flood_59 ⟨(by exact Nat.le_of_ble_eq_true rfl), (by exact Nat.le_of_ble_eq_true rfl)⟩) S (fun f_59 H locs hr_59 S => ?_)
  have hx_59 : f_59 x = some (0, .inr (9, [.ref gr, .ref L1, .ref L2, .ref L3, .ref cu, .int (nI (st 0 4))])) := by rw [hr_59]; exact wu_get hNq34_54 hx_54 (by decide)
  have hNq34_59 : f_59 q_34 = some (8, .inr (6, [.int (nI (st 0 0)), .ref q_45, .int (nI v1)])) := by rw [hr_59]; exact wu_self _ _ _ _
  have hNq45_59 : f_59 q_45 = some (8, .inr (5, [.int (nI a1), .int (nI b1), .int (nI p1), .int (nI q1)])) := by rw [hr_59]; exact wu_gk hNq34_54 hNq45_54 (fun h => by cases h)
  have mw_set_59 : md (fun _ => False) f f_59 := by rw [hr_59]; exact md_newput hz_q_34 mw_set_54
  have hL1_59 := hL1.md mw_set_59 (fun z => z)
  have hR59 := hR.kept (fun b t e hb _ => mw_set_59 b t e hb (fun z => z)) hI.1.1
  refine call_i (run_V X S (m_lessenAll l G f_59 st x gr rw1 L1 L2 L3 cu L4 g1 g2 g3 g4 w hI hR59 q_34 (floodφ a1 b1 p1 q1 v1) hr_30 (flood_le (by omega)) (Or.inl ⟨q_45, v1, a1, b1, p1, q1, hNq34_59, hNq45_59, ⟨by omega, by omega, by omega, by omega⟩, fun cx cy _ _ => by unfold floodφ; rw [show (16 * cy + cx) % 16 = cx by omega, show (16 * cy + cx) / 16 = cy by omega]⟩)) 1 gX9_flood_X9_lessenAll rfl rfl rfl (by decide +kernel) ⟨(by exact Nat.le_of_ble_eq_true rfl), (by exact Nat.le_of_ble_eq_true rfl)⟩ ⟨_, _, hx_59⟩ rfl rfl rfl hl.1 rfl (by exact Nat.le_of_ble_eq_true rfl) dX9_flood_62 ⟨(by exact Nat.le_of_ble_eq_true rfl), (by exact Nat.le_of_ble_eq_true rfl)⟩) S (fun r_62 f_62 H locs hr_62 S => ?_)
  refine vx_ret (e_i X hr S (Nat.le_of_ble_eq_true rfl) (Nat.le_of_ble_eq_true rfl) dX9_flood_65 ?_)
  simp only [na, nb, np, nq, nv]
  exact ⟨k3_0 ⟨hr_2, hr_8⟩ ⟨hP3, hr_26⟩ hr_30, hr_62.1, hr_62.2.1, md_tr mw_set_59 hr_62.2.2 (fun _ q => q.elim) (fun _ q => q)⟩

set_option maxRecDepth 100000 in
set_option maxHeartbeats 4000000 in
/-- soften -/
theorem c_soften (l : Launch) (hst : l.stackTraces = false) (G : cx_G) (f : Wd) (st : St) (x : Nat) (hI : sInv st) (hR0 : RX G f st x) (v : Int32) : XI l G yX9_soften wsX9_soften 8 215 6 332 [.ref x, .int v] f (fun r f' => (k2 (inI v 1 40) (st 0 1 < 100)) = 0 ∧ r = nI (cn (goneL st (softφ (st 1) (nN v))) (st 0 0)) ∧ RX G f' (lessSt st (softφ (st 1) (nN v))) x ∧ md tX f f') (psi ["java/lang/IllegalArgumentException", "java/lang/IllegalStateException"] (k2 (inI v 1 40) (st 0 1 < 100))) := by
  refine vx_body (cc := cX9_soften) (n := 2) (ret := (some .int)) (by decide +kernel) rfl (Nat.le_of_ble_eq_true rfl) ?_
  intro p0 e0 s0 m0 b0 meth0 c0 ls X hr hnm hout S hl
  have X : cxC G p0 l _ c0 cX9_soften 2 m0 meth0 s0 _ RX9 wsX9_soften := X
  have hl : lv_has ls 2 [(0, .ref x), (1, .int v)] := hl
  have in_RX8 : ∀ w ∈ u_ws RX8 TX8 3, w ∈ wsX9_soften := by decide +kernel
  have in_RX9 : ∀ w ∈ u_ws RX9 TX9 6, w ∈ wsX9_soften := by decide +kernel
  obtain ⟨gr, rw1, L1, L2, L3, cu, L4, g1, g2, g3, g4, w, hR⟩ := id hR0
  obtain ⟨hi0, hi1, hi2, hi3, hi4, hi5, hi6, hi7⟩ := id hI
  obtain ⟨hx, hgr, hrw, hgd, hL1, hC, hL2, hS2, hL3, hE, hcu, hL4, hA⟩ := id hR
  have m00 : md (fun _ => False) f f := md_rf _ f
  refine lv_iload_n X.1 X.2.1 dX9_soften_0 rfl (lv_at hl 1 rfl) ?_
  refine lv_i2l (v := v.toInt64) X.1 X.2.1 dX9_soften_1 rfl ?_
  refine lv_lconst (v := 1) X.1 X.2.1 dX9_soften_2 (by decide) ?_
  refine r_ldc2 (v := 40) X (by decide +kernel) dX9_soften_3 ?_
  refine xcall_v (xrun_S X S (m_rqRange l hst G f v.toInt64 1 40) 3 gX9_soften_X9_requireRange rfl rfl rfl (by decide +kernel) ⟨(by exact Nat.le_of_ble_eq_true rfl), (by exact Nat.le_of_ble_eq_true rfl)⟩ rfl hl.1 rfl (by exact Nat.le_of_ble_eq_true rfl) dX9_soften_6 ⟨(by exact Nat.le_of_ble_eq_true rfl), (by exact Nat.le_of_ble_eq_true rfl)⟩) S hout X.2.2.2.2.2.2.2 (by exact Nat.le_of_ble_eq_true rfl) (by exact Nat.le_of_ble_eq_true rfl) (fun E hE => by rw [hE.1]; exact p21 (fun z => hE.2 ((rg_i (p := 1) (q := 40) (by decide +kernel) (by decide +kernel)).mpr z))) (fun H locs hr_6 S => ?_)
  have hP1 := (rg_i (p := 1) (q := 40) (by decide +kernel) (by decide +kernel)).mp hr_6
  refine lv_aload_n X.1 X.2.1 dX9_soften_9 rfl (lv_at hl 0 rfl) ?_
  refine xcall_v (xrun_V X S (m_rqRoomL l hst G f st x gr rw1 L1 L2 L3 cu L4 g1 g2 g3 g4 w hI hR) 0 gX9_soften_X9_requireRoomForLessening rfl rfl rfl (by decide +kernel) ⟨(by exact Nat.le_of_ble_eq_true rfl), (by exact Nat.le_of_ble_eq_true rfl)⟩ ⟨_, _, hx⟩ rfl rfl rfl hl.1 rfl (by exact Nat.le_of_ble_eq_true rfl) dX9_soften_10 ⟨(by exact Nat.le_of_ble_eq_true rfl), (by exact Nat.le_of_ble_eq_true rfl)⟩) S hout X.2.2.2.2.2.2.2 (by exact Nat.le_of_ble_eq_true rfl) (by exact Nat.le_of_ble_eq_true rfl) (fun E hE => by rw [hE.1]; exact p22 hP1 hE.2) (fun H locs hr_10 S => ?_)
  obtain ⟨v1, rfl, vlo, vup, vbd⟩ := inI_sub hP1 (by omega)
  have nv : nN (nI v1) = v1 := nN_nI vbd
  refine lv_aload_n X.1 X.2.1 dX9_soften_13 rfl (lv_at hl 0 rfl) ?_
  refine r_new (C := RX8) (T := TX8) (N := 3) (ci := 8) (fs := [.int 0, .null, .int 0]) X S 8 (by decide) in_RX8 tyX8 tyX8_ok (by decide +kernel) (by decide +kernel) (by decide +kernel) rfl (fun j hj => by rcases (show j = 0 ∨ j = 1 ∨ j = 2 by omega) with rfl | rfl | rfl <;> rfl) (by exact Nat.le_of_ble_eq_true rfl) (by exact Nat.le_of_ble_eq_true rfl) dX9_soften_14 (fun q_14 H hn_q_14 S => ?_)
  obtain ⟨f_14, ef_14⟩ : ∃ z9 : Wd, z9 = wu f q_14 8 (.inr (8, [.int 0, .null, .int 0])) := ⟨_, rfl⟩
  rw [← ef_14] at S
  have hx_14 : f_14 x = some (0, .inr (9, [.ref gr, .ref L1, .ref L2, .ref L3, .ref cu, .int (nI (st 0 4))])) := by rw [ef_14]; exact wu_new hn_q_14 hx
  have hgr_14 : f_14 gr = some (1, .inr (7, [.ref rw1])) := by rw [ef_14]; exact wu_new hn_q_14 hgr
  have hrw_14 : f_14 rw1 = some (2, eI G 16 w) := by rw [ef_14]; exact wu_new hn_q_14 hrw
  have hNq14 : f_14 q_14 = some (8, .inr (8, [.int 0, .null, .int 0])) := by rw [ef_14]; exact wu_self _ _ _ _
  have hz_q_14 := md_none m00 hn_q_14
  have mw_new_14 : md (fun _ => False) f f_14 := by rw [ef_14]; exact md_newput hz_q_14 m00
  have hL1_14 := hL1.md mw_new_14 (fun z => z)
  refine lv_dup X.1 X.2.1 dX9_soften_17 rfl ?_
  refine lv_aload_n X.1 X.2.1 dX9_soften_18 rfl (lv_at hl 0 rfl) ?_
  refine r_get (C := RX9) (T := TX9) (N := 6) (ref := "Craterclock") X S in_RX9 hx_14 rfl 1 (by decide) (by decide +kernel) (fun _ h => h) rfl dX9_soften_19 ?_
  refine call_ip (run_V X S (m_sizeL l G f_14 L1 3 (st 0 0) g1 hL1_14) 0 gX9_soften_Jx4a65c_size_8abf5 rfl rfl rfl (by decide +kernel) ⟨(by exact Nat.le_of_ble_eq_true rfl), (by exact Nat.le_of_ble_eq_true rfl)⟩ hL1_14.obj rfl rfl rfl hl.1 rfl (by exact Nat.le_of_ble_eq_true rfl) dX9_soften_22 ⟨(by exact Nat.le_of_ble_eq_true rfl), (by exact Nat.le_of_ble_eq_true rfl)⟩) S (fun r_22 H locs hr_22 S => ?_)
  subst hr_22
  refine lv_aload_n X.1 X.2.1 dX9_soften_25 rfl (lv_at hl 0 rfl) ?_
  refine r_get (C := RX9) (T := TX9) (N := 6) (ref := "Craterclock") X S in_RX9 hx_14 rfl 0 (by decide) (by decide +kernel) (fun _ h => h) rfl dX9_soften_26 ?_
  refine call_r (run_V X S (m_copy l G f_14 gr 1 rw1 2 w hgr_14 hrw_14 (by decide)) 0 gX9_soften_X6_copy rfl rfl rfl (by decide +kernel) ⟨(by exact Nat.le_of_ble_eq_true rfl), (by exact Nat.le_of_ble_eq_true rfl)⟩ ⟨_, _, hgr_14⟩ rfl rfl rfl hl.1 rfl (by exact Nat.le_of_ble_eq_true rfl) dX9_soften_29 ⟨(by exact Nat.le_of_ble_eq_true rfl), (by exact Nat.le_of_ble_eq_true rfl)⟩) S (fun r_29 f_29 H locs hr_29 S => ?_)
  obtain ⟨qa, hc1, hc2, hmc⟩ := hr_29
  have mw_29 : md (fun _ => False) f f_29 := md_tr mw_new_14 hmc (fun _ q => q) (fun _ q => q)
  have hx_29 := hmc _ _ _ hx_14 (fun z => z)
  have hgr_29 := hmc _ _ _ hgr_14 (fun z => z)
  have hrw_29 := hmc _ _ _ hrw_14 (fun z => z)
  have hNq14_29 := hmc _ _ _ hNq14 (fun z => z)
  refine lv_iload_n X.1 X.2.1 dX9_soften_32 rfl (lv_at hl 1 rfl) ?_
  refine call_v (run_I X S (m_Soft l G f_29 q_14 8 (st 0 0) r_29 v1 hNq14_29 (by decide)) 3 gX9_soften_X8_init rfl rfl rfl (by decide +kernel) (by decide +kernel) (by decide +kernel) rfl (by decide +kernel) ⟨(by exact Nat.le_of_ble_eq_true rfl), (by exact Nat.le_of_ble_eq_true rfl)⟩ rfl hl.1 rfl (by exact Nat.le_of_ble_eq_true rfl) dX9_soften_33 ⟨(by exact Nat.le_of_ble_eq_true rfl), (by exact Nat.le_of_ble_eq_true rfl)⟩) S (fun f_33 H locs hr_33 S => ?_)
  have hx_33 : f_33 x = some (0, .inr (9, [.ref gr, .ref L1, .ref L2, .ref L3, .ref cu, .int (nI (st 0 4))])) := by rw [hr_33]; exact wu_get hNq14_29 hx_29 (by decide)
  have hNq14_33 : f_33 q_14 = some (8, .inr (8, [.int (nI (st 0 0)), .ref r_29, .int (nI v1)])) := by rw [hr_33]; exact wu_self _ _ _ _
  have hc1_33 : f_33 r_29 = some (8, .inr (7, [.ref qa])) := by rw [hr_33]; exact wu_gk hNq14_29 hc1 (fun h => by cases h)
  have hc2_33 : f_33 qa = some (8, eI G 16 w) := by rw [hr_33]; exact wu_gk hNq14_29 hc2 (fun h => by cases h)
  have mw_set_33 : md (fun _ => False) f f_33 := by rw [hr_33]; exact md_newput hz_q_14 mw_29
  have hL1_33 := hL1.md mw_set_33 (fun z => z)
  have hR33 := hR.kept (fun b t e hb _ => mw_set_33 b t e hb (fun z => z)) hI.1.1
  refine call_i (run_V X S (m_lessenAll l G f_33 st x gr rw1 L1 L2 L3 cu L4 g1 g2 g3 g4 w hI hR33 q_14 (softφ (st 1) v1) hr_10 (soft_le (by omega)) (Or.inr ⟨r_29, qa, v1, w, st 1, hNq14_33, hc1_33, hc2_33, hgd, hi1, by omega, fun cx cy _ _ => rfl⟩)) 1 gX9_soften_X9_lessenAll rfl rfl rfl (by decide +kernel) ⟨(by exact Nat.le_of_ble_eq_true rfl), (by exact Nat.le_of_ble_eq_true rfl)⟩ ⟨_, _, hx_33⟩ rfl rfl rfl hl.1 rfl (by exact Nat.le_of_ble_eq_true rfl) dX9_soften_36 ⟨(by exact Nat.le_of_ble_eq_true rfl), (by exact Nat.le_of_ble_eq_true rfl)⟩) S (fun r_36 f_36 H locs hr_36 S => ?_)
  refine vx_ret (e_i X hr S (Nat.le_of_ble_eq_true rfl) (Nat.le_of_ble_eq_true rfl) dX9_soften_39 ?_)
  simp only [nv]
  exact ⟨k2_0 hP1 hr_10, hr_36.1, hr_36.2.1, md_tr mw_set_33 hr_36.2.2 (fun _ q => q.elim) (fun _ q => q)⟩

set_option maxRecDepth 100000 in
set_option maxHeartbeats 4000000 in
/-- eye -/
theorem c_eye (l : Launch) (hst : l.stackTraces = false) (G : cx_G) (f : Wd) (st : St) (x : Nat) (hI : sInv st) (hR0 : RX G f st x) (a : Int32) : XI l G yX9_eye wsX9_eye 7 191 3 307 [.ref x, .int a] f (fun r f' => (k2 (inI a 1 9) (st 0 2 < 6)) = 0 ∧ r = nI (st 0 2) ∧ RX G f' (eyeSt st (nN a)) x ∧ md tX f f') (psi ["java/lang/IllegalArgumentException", "java/lang/IllegalStateException"] (k2 (inI a 1 9) (st 0 2 < 6))) := by
  refine vx_body (cc := cX9_eye) (n := 2) (ret := (some .int)) (by decide +kernel) rfl (Nat.le_of_ble_eq_true rfl) ?_
  intro p0 e0 s0 m0 b0 meth0 c0 ls X hr hnm hout S hl
  have X : cxC G p0 l _ c0 cX9_eye 2 m0 meth0 s0 _ RX9 wsX9_eye := X
  have hl : lv_has ls 2 [(0, .ref x), (1, .int a)] := hl
  have in_RX3 : ∀ w ∈ u_ws RX3 TX3 1, w ∈ wsX9_eye := by decide +kernel
  have in_RX9 : ∀ w ∈ u_ws RX9 TX9 6, w ∈ wsX9_eye := by decide +kernel
  obtain ⟨gr, rw1, L1, L2, L3, cu, L4, g1, g2, g3, g4, w, hR⟩ := id hR0
  obtain ⟨hi0, hi1, hi2, hi3, hi4, hi5, hi6, hi7⟩ := id hI
  obtain ⟨hx, hgr, hrw, hgd, hL1, hC, hL2, hS2, hL3, hE, hcu, hL4, hA⟩ := id hR
  have m00 : md (fun _ => False) f f := md_rf _ f
  refine lv_iload_n X.1 X.2.1 dX9_eye_0 rfl (lv_at hl 1 rfl) ?_
  refine lv_i2l (v := a.toInt64) X.1 X.2.1 dX9_eye_1 rfl ?_
  refine lv_lconst (v := 1) X.1 X.2.1 dX9_eye_2 (by decide) ?_
  refine r_ldc2 (v := 9) X (by decide +kernel) dX9_eye_3 ?_
  refine xcall_v (xrun_S X S (m_rqRange l hst G f a.toInt64 1 9) 3 gX9_eye_X9_requireRange rfl rfl rfl (by decide +kernel) ⟨(by exact Nat.le_of_ble_eq_true rfl), (by exact Nat.le_of_ble_eq_true rfl)⟩ rfl hl.1 rfl (by exact Nat.le_of_ble_eq_true rfl) dX9_eye_6 ⟨(by exact Nat.le_of_ble_eq_true rfl), (by exact Nat.le_of_ble_eq_true rfl)⟩) S hout X.2.2.2.2.2.2.2 (by exact Nat.le_of_ble_eq_true rfl) (by exact Nat.le_of_ble_eq_true rfl) (fun E hE => by rw [hE.1]; exact p21 (fun z => hE.2 ((rg_i (p := 1) (q := 9) (by decide +kernel) (by decide +kernel)).mpr z))) (fun H locs hr_6 S => ?_)
  have hP1 := (rg_i (p := 1) (q := 9) (by decide +kernel) (by decide +kernel)).mp hr_6
  obtain ⟨a1, rfl, alo, aup, abd⟩ := inI_sub hP1 (by omega)
  have na : nN (nI a1) = a1 := nN_nI abd
  refine lv_aload_n X.1 X.2.1 dX9_eye_9 rfl (lv_at hl 0 rfl) ?_
  refine r_get (C := RX9) (T := TX9) (N := 6) (ref := "Craterclock") X S in_RX9 hx rfl 3 (by decide) (by decide +kernel) (fun _ h => h) rfl dX9_eye_10 ?_
  refine call_ip (run_V X S (m_sizeL l G f L3 5 (st 0 2) g3 hL3) 0 gX9_eye_Jx4a65c_size_8abf5 rfl rfl rfl (by decide +kernel) ⟨(by exact Nat.le_of_ble_eq_true rfl), (by exact Nat.le_of_ble_eq_true rfl)⟩ hL3.obj rfl rfl rfl hl.1 rfl (by exact Nat.le_of_ble_eq_true rfl) dX9_eye_13 ⟨(by exact Nat.le_of_ble_eq_true rfl), (by exact Nat.le_of_ble_eq_true rfl)⟩) S (fun r_13 H locs hr_13 S => ?_)
  subst hr_13
  refine lv_bipush (v := 6) X.1 X.2.1 dX9_eye_16 (by decide) ?_
  refine lv_icmp_lt (tgt := 31) X.1 X.2.1 dX9_eye_18 (by decide) (fun c_18 => ?_) (fun c_18 => ?_)
  · have h6 : st 0 2 < 6 := (nI_ltI (b := 6) (by omega) (by omega)).mp c_18
    refine lv_aload_n X.1 X.2.1 dX9_eye_31 rfl (lv_at hl 0 rfl) ?_
    refine r_get (C := RX9) (T := TX9) (N := 6) (ref := "Craterclock") X S in_RX9 hx rfl 3 (by decide) (by decide +kernel) (fun _ h => h) rfl dX9_eye_32 ?_
    refine r_new (C := RX3) (T := TX3) (N := 1) (ci := 4) (fs := [.int 0]) X S 8 (by decide) in_RX3 tyX3 tyX3_ok (by decide +kernel) (by decide +kernel) (by decide +kernel) rfl (fun j hj => by rcases (show j = 0 by omega) with rfl <;> rfl) (by exact Nat.le_of_ble_eq_true rfl) (by exact Nat.le_of_ble_eq_true rfl) dX9_eye_35 (fun q_35 H hn_q_35 S => ?_)
    obtain ⟨f_35, ef_35⟩ : ∃ z9 : Wd, z9 = wu f q_35 8 (.inr (4, [.int 0])) := ⟨_, rfl⟩
    rw [← ef_35] at S
    have hx_35 : f_35 x = some (0, .inr (9, [.ref gr, .ref L1, .ref L2, .ref L3, .ref cu, .int (nI (st 0 4))])) := by rw [ef_35]; exact wu_new hn_q_35 hx
    have hNq35 : f_35 q_35 = some (8, .inr (4, [.int 0])) := by rw [ef_35]; exact wu_self _ _ _ _
    have hz_q_35 := md_none m00 hn_q_35
    have mw_new_35 : md (fun _ => False) f f_35 := by rw [ef_35]; exact md_newput hz_q_35 m00
    have hL3_35 := hL3.md mw_new_35 (fun z => z)
    refine lv_dup X.1 X.2.1 dX9_eye_38 rfl ?_
    refine lv_iload_n X.1 X.2.1 dX9_eye_39 rfl (lv_at hl 1 rfl) ?_
    refine call_v (run_I X S (m_Eye l G f_35 q_35 8 a1 hNq35 (by decide)) 1 gX9_eye_X3_init rfl rfl rfl (by decide +kernel) (by decide +kernel) (by decide +kernel) rfl (by decide +kernel) ⟨(by exact Nat.le_of_ble_eq_true rfl), (by exact Nat.le_of_ble_eq_true rfl)⟩ rfl hl.1 rfl (by exact Nat.le_of_ble_eq_true rfl) dX9_eye_40 ⟨(by exact Nat.le_of_ble_eq_true rfl), (by exact Nat.le_of_ble_eq_true rfl)⟩) S (fun f_40 H locs hr_40 S => ?_)
    have hx_40 : f_40 x = some (0, .inr (9, [.ref gr, .ref L1, .ref L2, .ref L3, .ref cu, .int (nI (st 0 4))])) := by rw [hr_40]; exact wu_get hNq35 hx_35 (by decide)
    have hNq35_40 : f_40 q_35 = some (8, .inr (4, [.int (nI a1)])) := by rw [hr_40]; exact wu_self _ _ _ _
    have mw_set_40 : md (fun _ => False) f f_40 := by rw [hr_40]; exact md_newput hz_q_35 mw_new_35
    have hL3_40 := hL3.md mw_set_40 (fun z => z)
    have hE40 : ∀ i, i < st 0 2 → elO f_40 (g3 i) := fun i hi => ⟨8, 4, _, _, mw_set_40 _ _ _ (hE i hi) (fun z => z), rfl, by decide +kernel⟩
    refine call_i (run_V X S (m_add l G f_40 L3 5 (st 0 2) q_35 g3 (by decide) (by omega) hE40 ⟨8, _, _, _, hNq35_40, rfl, by decide +kernel⟩ hL3_40) 1 gX9_eye_Jx4a65c_add_9ea2d rfl rfl rfl (by decide +kernel) ⟨(by exact Nat.le_of_ble_eq_true rfl), (by exact Nat.le_of_ble_eq_true rfl)⟩ hL3_40.obj rfl rfl rfl hl.1 rfl (by exact Nat.le_of_ble_eq_true rfl) dX9_eye_43 ⟨(by exact Nat.le_of_ble_eq_true rfl), (by exact Nat.le_of_ble_eq_true rfl)⟩) S (fun r_43 f_43 H locs hr_43 S => ?_)
    obtain ⟨hLn, hmn⟩ := hr_43
    have hq_n := hmn _ _ _ hNq35_40 (by omega)
    have hm_n : md (fun t => t = 5) f f_43 := md_tr mw_set_40 hmn (fun _ q => q.elim) (fun _ q => q)
    have hx_n := hmn _ _ _ hx_40 (by omega)
    refine lv_pop X.1 X.2.1 dX9_eye_46 rfl ?_
    refine lv_aload_n X.1 X.2.1 dX9_eye_47 rfl (lv_at hl 0 rfl) ?_
    refine r_get (C := RX9) (T := TX9) (N := 6) (ref := "Craterclock") X S in_RX9 hx_n rfl 3 (by decide) (by decide +kernel) (fun _ h => h) rfl dX9_eye_48 ?_
    refine call_ip (run_V X S (m_sizeL l G f_43 L3 5 (st 0 2 + 1) (va_up g3 (st 0 2) q_35) hLn) 0 gX9_eye_Jx4a65c_size_8abf5 rfl rfl rfl (by decide +kernel) ⟨(by exact Nat.le_of_ble_eq_true rfl), (by exact Nat.le_of_ble_eq_true rfl)⟩ hLn.obj rfl rfl rfl hl.1 rfl (by exact Nat.le_of_ble_eq_true rfl) dX9_eye_51 ⟨(by exact Nat.le_of_ble_eq_true rfl), (by exact Nat.le_of_ble_eq_true rfl)⟩) S (fun r_51 H locs hr_51 S => ?_)
    subst hr_51
    refine lv_iconst (v := 1) X.1 X.2.1 dX9_eye_54 (by decide) ?_
    refine lv_isub X.1 X.2.1 dX9_eye_55 ?_
    refine r_toi (y := nI (st 0 2)) (nI_m1 (by omega)) ?_
    refine vx_ret (e_i X hr S (Nat.le_of_ble_eq_true rfl) (Nat.le_of_ble_eq_true rfl) dX9_eye_56 ?_)
    simp only [na]
    exact ⟨k2_0 hP1 h6, by trivial, RX_eye hR hm_n hq_n hLn, md_mono hm_n (fun t q => by unfold tX; omega)⟩
  · refine r_throw (cls := "java/lang/IllegalStateException") (text := "there are 6 eyes") X S hst hout rfl hl.1 (by decide +kernel) (by decide +kernel) (by decide +kernel) (by decide +kernel) (by decide +kernel) (by decide +kernel) (by decide +kernel) (by decide +kernel) dX9_eye_21 dX9_eye_24 dX9_eye_25 dX9_eye_27 dX9_eye_30 (by exact Nat.le_of_ble_eq_true rfl) (by exact Nat.le_of_ble_eq_true rfl) (by exact Nat.le_of_ble_eq_true rfl) (by exact Nat.le_of_ble_eq_true rfl) (by exact Nat.le_of_ble_eq_true rfl) (by exact Nat.le_of_ble_eq_true rfl) ?_
    exact p22 hP1 (fun z => c_18 (nI_lt (b := 6) z (by omega)))

set_option maxRecDepth 100000 in
set_option maxHeartbeats 4000000 in
/-- Curve.take -/
theorem m_take (l : Launch) (G : cx_G) (f : Wd) (st : St) (x gr rw1 L1 L2 L3 cu L4 : Nat) (g1 g2 g3 g4 : Nat → Nat) (w : Nat → Int32) (hI : sInv st) (hR : RXx G f st x gr rw1 L1 L2 L3 cu L4 g1 g2 g3 g4 w) (u v : Nat) (hn200 : st 0 3 < 200) : MI l G yX2_take wsX2_take 7 191 2 302 [.ref cu, .long (lN u), .long (lN v)] f (fun r f' => r = nI (st 0 3 + 1) ∧ RX G f' (anchSt st u v) x ∧ md tX f f') := by
  refine cx_body (cc := cX2_take) (n := 5) (ret := (some .int)) (by decide +kernel) rfl (Nat.le_of_ble_eq_true rfl) ?_
  intro p0 e0 s0 m0 b0 meth0 c0 ls X hr hnm S hl
  have X : cxC G p0 l _ c0 cX2_take 5 m0 meth0 s0 _ RX2 wsX2_take := X
  have hl : lv_has ls 5 [(0, .ref cu), (1, .long (lN u)), (3, .long (lN v))] := hl
  have in_RX0 : ∀ w ∈ u_ws RX0 TX0 2, w ∈ wsX2_take := by decide +kernel
  have in_RX2 : ∀ w ∈ u_ws RX2 TX2 1, w ∈ wsX2_take := by decide +kernel
  obtain ⟨hi0, hi1, hi2, hi3, hi4, hi5, hi6, hi7⟩ := id hI
  obtain ⟨hx, hgr, hrw, hgd, hL1, hC, hL2, hS2, hL3, hE, hcu, hL4, hA⟩ := id hR
  have m00 : md (fun _ => False) f f := md_rf _ f
  refine lv_aload_n X.1 X.2.1 dX2_take_0 rfl (lv_at hl 0 rfl) ?_
  refine r_get (C := RX2) (T := TX2) (N := 1) (ref := "Craterclock$Curve") X S in_RX2 hcu rfl 0 (by decide) (by decide +kernel) (fun _ h => h) rfl dX2_take_1 ?_
  refine r_new (C := RX0) (T := TX0) (N := 2) (ci := 1) (fs := [.long 0, .long 0]) X S 8 (by decide) in_RX0 tyX0 tyX0_ok (by decide +kernel) (by decide +kernel) (by decide +kernel) rfl (fun j hj => by rcases (show j = 0 ∨ j = 1 by omega) with rfl | rfl <;> rfl) (by exact Nat.le_of_ble_eq_true rfl) (by exact Nat.le_of_ble_eq_true rfl) dX2_take_4 (fun q_4 H hn_q_4 S => ?_)
  obtain ⟨f_4, ef_4⟩ : ∃ z9 : Wd, z9 = wu f q_4 8 (.inr (1, [.long 0, .long 0])) := ⟨_, rfl⟩
  rw [← ef_4] at S
  have hcu_4 : f_4 cu = some (6, .inr (3, [.ref L4])) := by rw [ef_4]; exact wu_new hn_q_4 hcu
  have hNq4 : f_4 q_4 = some (8, .inr (1, [.long 0, .long 0])) := by rw [ef_4]; exact wu_self _ _ _ _
  have hz_q_4 := md_none m00 hn_q_4
  have mw_new_4 : md (fun _ => False) f f_4 := by rw [ef_4]; exact md_newput hz_q_4 m00
  have hL4_4 := hL4.md mw_new_4 (fun z => z)
  refine lv_dup X.1 X.2.1 dX2_take_7 rfl ?_
  refine lv_lload_n X.1 X.2.1 dX2_take_8 rfl (lv_at hl 1 rfl) ?_
  refine lv_lload_n X.1 X.2.1 dX2_take_9 rfl (lv_at hl 2 rfl) ?_
  refine call_v (run_I X S (m_Anchor l G f_4 q_4 8 (lN u) (lN v) hNq4 (by decide)) 2 gX2_take_X0_init rfl rfl rfl (by decide +kernel) (by decide +kernel) (by decide +kernel) rfl (by decide +kernel) ⟨(by exact Nat.le_of_ble_eq_true rfl), (by exact Nat.le_of_ble_eq_true rfl)⟩ rfl hl.1 rfl (by exact Nat.le_of_ble_eq_true rfl) dX2_take_10 ⟨(by exact Nat.le_of_ble_eq_true rfl), (by exact Nat.le_of_ble_eq_true rfl)⟩) S (fun f_10 H locs hr_10 S => ?_)
  have hcu_10 : f_10 cu = some (6, .inr (3, [.ref L4])) := by rw [hr_10]; exact wu_get hNq4 hcu_4 (by decide)
  have hNq4_10 : f_10 q_4 = some (8, .inr (1, [.long (lN u), .long (lN v)])) := by rw [hr_10]; exact wu_self _ _ _ _
  have mw_set_10 : md (fun _ => False) f f_10 := by rw [hr_10]; exact md_newput hz_q_4 mw_new_4
  have hL4_10 := hL4.md mw_set_10 (fun z => z)
  have hA10 : ∀ i, i < st 0 3 → elO f_10 (g4 i) := fun i hi => ⟨8, 1, _, _, mw_set_10 _ _ _ (hA i hi) (fun z => z), rfl, by decide +kernel⟩
  refine call_i (run_V X S (m_add l G f_10 L4 7 (st 0 3) q_4 g4 (by decide) (by omega) hA10 ⟨8, _, _, _, hNq4_10, rfl, by decide +kernel⟩ hL4_10) 1 gX2_take_Jx4a65c_add_9ea2d rfl rfl rfl (by decide +kernel) ⟨(by exact Nat.le_of_ble_eq_true rfl), (by exact Nat.le_of_ble_eq_true rfl)⟩ hL4_10.obj rfl rfl rfl hl.1 rfl (by exact Nat.le_of_ble_eq_true rfl) dX2_take_13 ⟨(by exact Nat.le_of_ble_eq_true rfl), (by exact Nat.le_of_ble_eq_true rfl)⟩) S (fun r_13 f_13 H locs hr_13 S => ?_)
  obtain ⟨hLn, hmn⟩ := hr_13
  have hq_n := hmn _ _ _ hNq4_10 (by omega)
  have hm_n : md (fun t => t = 7) f f_13 := md_tr mw_set_10 hmn (fun _ q => q.elim) (fun _ q => q)
  have hcu_n := hmn _ _ _ hcu_10 (by omega)
  refine lv_pop X.1 X.2.1 dX2_take_16 rfl ?_
  refine lv_aload_n X.1 X.2.1 dX2_take_17 rfl (lv_at hl 0 rfl) ?_
  refine r_get (C := RX2) (T := TX2) (N := 1) (ref := "Craterclock$Curve") X S in_RX2 hcu_n rfl 0 (by decide) (by decide +kernel) (fun _ h => h) rfl dX2_take_18 ?_
  refine call_ip (run_V X S (m_sizeL l G f_13 L4 7 (st 0 3 + 1) (va_up g4 (st 0 3) q_4) hLn) 0 gX2_take_Jx4a65c_size_8abf5 rfl rfl rfl (by decide +kernel) ⟨(by exact Nat.le_of_ble_eq_true rfl), (by exact Nat.le_of_ble_eq_true rfl)⟩ hLn.obj rfl rfl rfl hl.1 rfl (by exact Nat.le_of_ble_eq_true rfl) dX2_take_21 ⟨(by exact Nat.le_of_ble_eq_true rfl), (by exact Nat.le_of_ble_eq_true rfl)⟩) S (fun r_21 H locs hr_21 S => ?_)
  subst hr_21
  refine e_i X hr S (Nat.le_of_ble_eq_true rfl) (Nat.le_of_ble_eq_true rfl) dX2_take_24 ?_
  exact ⟨rfl, RX_anch hR hm_n hq_n hLn, md_mono hm_n (fun t q => by unfold tX; omega)⟩

set_option maxRecDepth 100000 in
set_option maxHeartbeats 4000000 in
/-- anchor -/
theorem c_anchor (l : Launch) (hst : l.stackTraces = false) (G : cx_G) (f : Wd) (st : St) (x : Nat) (hI : sInv st) (hR0 : RX G f st x) (u v : Int64) : XI l G yX9_anchor wsX9_anchor 8 215 4 314 [.ref x, .long u, .long v] f (fun r f' => (k2 (rgL u 1 5000000000 ∧ rgL v 1 100000000) (canP st (nL u) (nL v))) = 0 ∧ r = nI (st 0 3 + 1) ∧ RX G f' (anchSt st (nL u) (nL v)) x ∧ md tX f f') (psi ["java/lang/IllegalArgumentException", "java/lang/IllegalStateException"] (k2 (rgL u 1 5000000000 ∧ rgL v 1 100000000) (canP st (nL u) (nL v)))) := by
  refine vx_body (cc := cX9_anchor) (n := 5) (ret := (some .int)) (by decide +kernel) rfl (Nat.le_of_ble_eq_true rfl) ?_
  intro p0 e0 s0 m0 b0 meth0 c0 ls X hr hnm hout S hl
  have X : cxC G p0 l _ c0 cX9_anchor 5 m0 meth0 s0 _ RX9 wsX9_anchor := X
  have hl : lv_has ls 5 [(0, .ref x), (1, .long u), (3, .long v)] := hl
  have in_RX9 : ∀ w ∈ u_ws RX9 TX9 6, w ∈ wsX9_anchor := by decide +kernel
  obtain ⟨gr, rw1, L1, L2, L3, cu, L4, g1, g2, g3, g4, w, hR⟩ := id hR0
  obtain ⟨hi0, hi1, hi2, hi3, hi4, hi5, hi6, hi7⟩ := id hI
  obtain ⟨hx, hgr, hrw, hgd, hL1, hC, hL2, hS2, hL3, hE, hcu, hL4, hA⟩ := id hR
  refine lv_lload_n X.1 X.2.1 dX9_anchor_0 rfl (lv_at hl 1 rfl) ?_
  refine lv_lconst (v := 1) X.1 X.2.1 dX9_anchor_1 (by decide) ?_
  refine r_ldc2 (v := 5000000000) X (by decide +kernel) dX9_anchor_2 ?_
  refine xcall_v (xrun_S X S (m_rqRange l hst G f u 1 5000000000) 3 gX9_anchor_X9_requireRange rfl rfl rfl (by decide +kernel) ⟨(by exact Nat.le_of_ble_eq_true rfl), (by exact Nat.le_of_ble_eq_true rfl)⟩ rfl hl.1 rfl (by exact Nat.le_of_ble_eq_true rfl) dX9_anchor_5 ⟨(by exact Nat.le_of_ble_eq_true rfl), (by exact Nat.le_of_ble_eq_true rfl)⟩) S hout X.2.2.2.2.2.2.2 (by exact Nat.le_of_ble_eq_true rfl) (by exact Nat.le_of_ble_eq_true rfl) (fun E hE => by rw [hE.1]; exact p21 (fun z => (hE.2 (by rw [show (1 : Int64).toInt = 1 by decide +kernel, show (5000000000 : Int64).toInt = 5000000000 by decide +kernel]; exact z.1)))) (fun H locs hr_5 S => ?_)
  have hP1 := (show rgL u 1 5000000000 from by rw [show (1 : Int64).toInt = 1 by decide +kernel, show (5000000000 : Int64).toInt = 5000000000 by decide +kernel] at hr_5; exact hr_5)
  refine lv_lload_n X.1 X.2.1 dX9_anchor_8 rfl (lv_at hl 2 rfl) ?_
  refine lv_lconst (v := 1) X.1 X.2.1 dX9_anchor_9 (by decide) ?_
  refine r_ldc2 (v := 100000000) X (by decide +kernel) dX9_anchor_10 ?_
  refine xcall_v (xrun_S X S (m_rqRange l hst G f v 1 100000000) 3 gX9_anchor_X9_requireRange rfl rfl rfl (by decide +kernel) ⟨(by exact Nat.le_of_ble_eq_true rfl), (by exact Nat.le_of_ble_eq_true rfl)⟩ rfl hl.1 rfl (by exact Nat.le_of_ble_eq_true rfl) dX9_anchor_13 ⟨(by exact Nat.le_of_ble_eq_true rfl), (by exact Nat.le_of_ble_eq_true rfl)⟩) S hout X.2.2.2.2.2.2.2 (by exact Nat.le_of_ble_eq_true rfl) (by exact Nat.le_of_ble_eq_true rfl) (fun E hE => by rw [hE.1]; exact p21 (fun z => (hE.2 (by rw [show (1 : Int64).toInt = 1 by decide +kernel, show (100000000 : Int64).toInt = 100000000 by decide +kernel]; exact z.2)))) (fun H locs hr_13 S => ?_)
  have hP2 := (show rgL v 1 100000000 from by rw [show (1 : Int64).toInt = 1 by decide +kernel, show (100000000 : Int64).toInt = 100000000 by decide +kernel] at hr_13; exact hr_13)
  obtain ⟨u1, rfl, ul, uu, ub⟩ := lN_sub2 hP1.1 hP1.2 (by omega)
  have nu : nL (lN u1) = u1 := nL_lN ub
  obtain ⟨v1, rfl, vl, vu, vb⟩ := lN_sub2 hP2.1 hP2.2 (by omega)
  have nv : nL (lN v1) = v1 := nL_lN vb
  refine lv_aload_n X.1 X.2.1 dX9_anchor_16 rfl (lv_at hl 0 rfl) ?_
  refine r_get (C := RX9) (T := TX9) (N := 6) (ref := "Craterclock") X S in_RX9 hx rfl 4 (by decide) (by decide +kernel) (fun _ h => h) rfl dX9_anchor_17 ?_
  refine lv_lload_n X.1 X.2.1 dX9_anchor_20 rfl (lv_at hl 1 rfl) ?_
  refine lv_lload_n X.1 X.2.1 dX9_anchor_21 rfl (lv_at hl 2 rfl) ?_
  refine call_ip (run_V X S (m_canTake l G f st x gr rw1 L1 L2 L3 cu L4 g1 g2 g3 g4 w hI hR u1 v1 (by omega) (by omega)) 2 gX9_anchor_X2_canTake rfl rfl rfl (by decide +kernel) ⟨(by exact Nat.le_of_ble_eq_true rfl), (by exact Nat.le_of_ble_eq_true rfl)⟩ ⟨_, _, hcu⟩ rfl rfl rfl hl.1 rfl (by exact Nat.le_of_ble_eq_true rfl) dX9_anchor_22 ⟨(by exact Nat.le_of_ble_eq_true rfl), (by exact Nat.le_of_ble_eq_true rfl)⟩) S (fun r_22 H locs hr_22 S => ?_)
  subst hr_22
  refine r_neB (tgt := 38) X dX9_anchor_25 (by decide) (fun c_25 => ?_) (fun c_25 => ?_)
  · refine lv_aload_n X.1 X.2.1 dX9_anchor_38 rfl (lv_at hl 0 rfl) ?_
    refine r_get (C := RX9) (T := TX9) (N := 6) (ref := "Craterclock") X S in_RX9 hx rfl 4 (by decide) (by decide +kernel) (fun _ h => h) rfl dX9_anchor_39 ?_
    refine lv_lload_n X.1 X.2.1 dX9_anchor_42 rfl (lv_at hl 1 rfl) ?_
    refine lv_lload_n X.1 X.2.1 dX9_anchor_43 rfl (lv_at hl 2 rfl) ?_
    refine call_i (run_V X S (m_take l G f st x gr rw1 L1 L2 L3 cu L4 g1 g2 g3 g4 w hI hR u1 v1 (by omega)) 2 gX9_anchor_X2_take rfl rfl rfl (by decide +kernel) ⟨(by exact Nat.le_of_ble_eq_true rfl), (by exact Nat.le_of_ble_eq_true rfl)⟩ ⟨_, _, hcu⟩ rfl rfl rfl hl.1 rfl (by exact Nat.le_of_ble_eq_true rfl) dX9_anchor_44 ⟨(by exact Nat.le_of_ble_eq_true rfl), (by exact Nat.le_of_ble_eq_true rfl)⟩) S (fun r_44 f_44 H locs hr_44 S => ?_)
    refine vx_ret (e_i X hr S (Nat.le_of_ble_eq_true rfl) (Nat.le_of_ble_eq_true rfl) dX9_anchor_47 ?_)
    simp only [nu, nv]
    exact ⟨k2_0 ⟨hP1, hP2⟩ (by unfold canP; exact of_decide_eq_true c_25), hr_44⟩
  · refine r_throw (cls := "java/lang/IllegalStateException") (text := "there are 8 anchors, or it has not more of both than the last") X S hst hout rfl hl.1 (by decide +kernel) (by decide +kernel) (by decide +kernel) (by decide +kernel) (by decide +kernel) (by decide +kernel) (by decide +kernel) (by decide +kernel) dX9_anchor_28 dX9_anchor_31 dX9_anchor_32 dX9_anchor_34 dX9_anchor_37 (by exact Nat.le_of_ble_eq_true rfl) (by exact Nat.le_of_ble_eq_true rfl) (by exact Nat.le_of_ble_eq_true rfl) (by exact Nat.le_of_ble_eq_true rfl) (by exact Nat.le_of_ble_eq_true rfl) (by exact Nat.le_of_ble_eq_true rfl) ?_
    exact p22 ⟨hP1, hP2⟩ (fun z => of_decide_eq_false c_25 (by rw [nu, nv] at z; exact z))

set_option maxRecDepth 100000 in
set_option maxHeartbeats 4000000 in
/-- count -/
theorem c_count (l : Launch) (hst : l.stackTraces = false) (G : cx_G) (f : Wd) (st : St) (x : Nat) (hI : sInv st) (hR0 : RX G f st x) (c a b p q k : Int32) : XI l G yX9_count wsX9_count 8 136 6 34 [.ref x, .int c, .int a, .int b, .int p, .int q, .int k] f (fun r f' => (k2 (eyeP st c a b p q) (inI k 1 7 ∧ ordP a b p q)) = 0 ∧ r = nI (cn (seenP st (nN k) (nN c) (nN a) (nN b) (nN p) (nN q)) (st 0 0)) ∧ RX G f' st x ∧ md tX f f') (psi ["java/lang/IndexOutOfBoundsException", "java/lang/IllegalArgumentException"] (k2 (eyeP st c a b p q) (inI k 1 7 ∧ ordP a b p q))) := by
  refine vx_body (cc := cX9_count) (n := 7) (ret := (some .int)) (by decide +kernel) rfl (Nat.le_of_ble_eq_true rfl) ?_
  intro p0 e0 s0 m0 b0 meth0 c0 ls X hr hnm hout S hl
  have X : cxC G p0 l _ c0 cX9_count 7 m0 meth0 s0 _ RX9 wsX9_count := X
  have hl : lv_has ls 7 [(0, .ref x), (1, .int c), (2, .int a), (3, .int b), (4, .int p), (5, .int q), (6, .int k)] := hl
  have in_RX4 : ∀ w ∈ u_ws RX4 TX4 4, w ∈ wsX9_count := by decide +kernel
  obtain ⟨gr, rw1, L1, L2, L3, cu, L4, g1, g2, g3, g4, w, hR⟩ := id hR0
  obtain ⟨hi0, hi1, hi2, hi3, hi4, hi5, hi6, hi7⟩ := id hI
  obtain ⟨hx, hgr, hrw, hgd, hL1, hC, hL2, hS2, hL3, hE, hcu, hL4, hA⟩ := id hR
  have m00 : md (fun _ => False) f f := md_rf _ f
  refine lv_aload_n X.1 X.2.1 dX9_count_0 rfl (lv_at hl 0 rfl) ?_
  refine lv_iload_n X.1 X.2.1 dX9_count_1 rfl (lv_at hl 1 rfl) ?_
  refine lv_iload_n X.1 X.2.1 dX9_count_2 rfl (lv_at hl 2 rfl) ?_
  refine lv_iload_n X.1 X.2.1 dX9_count_3 rfl (lv_at hl 3 rfl) ?_
  refine lv_iload X.1 X.2.1 dX9_count_4 (lv_at hl 4 rfl) ?_
  refine lv_iload X.1 X.2.1 dX9_count_6 (lv_at hl 5 rfl) ?_
  refine xcall_v (xrun_V X S (m_rqEye l hst G f st x gr rw1 L1 L2 L3 cu L4 g1 g2 g3 g4 w hI hR c a b p q) 5 gX9_count_X9_requireEyeAndCells rfl rfl rfl (by decide +kernel) ⟨(by exact Nat.le_of_ble_eq_true rfl), (by exact Nat.le_of_ble_eq_true rfl)⟩ ⟨_, _, hx⟩ rfl rfl rfl hl.1 rfl (by exact Nat.le_of_ble_eq_true rfl) dX9_count_8 ⟨(by exact Nat.le_of_ble_eq_true rfl), (by exact Nat.le_of_ble_eq_true rfl)⟩) S hout X.2.2.2.2.2.2.2 (by exact Nat.le_of_ble_eq_true rfl) (by exact Nat.le_of_ble_eq_true rfl) (fun E hE => by rw [hE.1]; exact p21 hE.2) (fun H locs hr_8 S => ?_)
  refine lv_iload X.1 X.2.1 dX9_count_11 (lv_at hl 6 rfl) ?_
  refine lv_i2l (v := k.toInt64) X.1 X.2.1 dX9_count_13 rfl ?_
  refine lv_lconst (v := 1) X.1 X.2.1 dX9_count_14 (by decide) ?_
  refine r_ldc2 (v := 7) X (by decide +kernel) dX9_count_15 ?_
  refine xcall_v (xrun_S X S (m_rqRange l hst G f k.toInt64 1 7) 3 gX9_count_X9_requireRange rfl rfl rfl (by decide +kernel) ⟨(by exact Nat.le_of_ble_eq_true rfl), (by exact Nat.le_of_ble_eq_true rfl)⟩ rfl hl.1 rfl (by exact Nat.le_of_ble_eq_true rfl) dX9_count_18 ⟨(by exact Nat.le_of_ble_eq_true rfl), (by exact Nat.le_of_ble_eq_true rfl)⟩) S hout X.2.2.2.2.2.2.2 (by exact Nat.le_of_ble_eq_true rfl) (by exact Nat.le_of_ble_eq_true rfl) (fun E hE => by rw [hE.1]; exact p22 hr_8 (fun z => hE.2 ((rg_i (p := 1) (q := 7) (by decide +kernel) (by decide +kernel)).mpr z.1))) (fun H locs hr_18 S => ?_)
  have hP2 := (rg_i (p := 1) (q := 7) (by decide +kernel) (by decide +kernel)).mp hr_18
  refine lv_iload_n X.1 X.2.1 dX9_count_21 rfl (lv_at hl 2 rfl) ?_
  refine lv_iload_n X.1 X.2.1 dX9_count_22 rfl (lv_at hl 3 rfl) ?_
  refine lv_iload X.1 X.2.1 dX9_count_23 (lv_at hl 4 rfl) ?_
  refine lv_iload X.1 X.2.1 dX9_count_25 (lv_at hl 5 rfl) ?_
  refine xcall_v (xrun_S X S (m_rqOrder l hst G f a b p q) 4 gX9_count_X9_requireOrder rfl rfl rfl (by decide +kernel) ⟨(by exact Nat.le_of_ble_eq_true rfl), (by exact Nat.le_of_ble_eq_true rfl)⟩ rfl hl.1 rfl (by exact Nat.le_of_ble_eq_true rfl) dX9_count_27 ⟨(by exact Nat.le_of_ble_eq_true rfl), (by exact Nat.le_of_ble_eq_true rfl)⟩) S hout X.2.2.2.2.2.2.2 (by exact Nat.le_of_ble_eq_true rfl) (by exact Nat.le_of_ble_eq_true rfl) (fun E hE => by rw [hE.1]; exact p22 hr_8 (fun z => hE.2 z.2)) (fun H locs hr_27 S => ?_)
  obtain ⟨c1, rfl, clo, cup, cbd⟩ := inI_sub hr_8.1 (by omega)
  have nc : nN (nI c1) = c1 := nN_nI cbd
  obtain ⟨a1, rfl, alo, aup, abd⟩ := inI_sub hr_8.2.1.1 (by omega)
  have na : nN (nI a1) = a1 := nN_nI abd
  obtain ⟨b1, rfl, blo, bup, bbd⟩ := inI_sub hr_8.2.1.2 (by omega)
  have nb : nN (nI b1) = b1 := nN_nI bbd
  obtain ⟨p1, rfl, plo, pup, pbd⟩ := inI_sub hr_8.2.2.1 (by omega)
  have np : nN (nI p1) = p1 := nN_nI pbd
  obtain ⟨q1, rfl, qlo, qup, qbd⟩ := inI_sub hr_8.2.2.2 (by omega)
  have nq : nN (nI q1) = q1 := nN_nI qbd
  obtain ⟨k1, rfl, klo, kup, kbd⟩ := inI_sub hP2 (by omega)
  have nk : nN (nI k1) = k1 := nN_nI kbd
  refine lv_aload_n X.1 X.2.1 dX9_count_30 rfl (lv_at hl 0 rfl) ?_
  refine lv_iload_n X.1 X.2.1 dX9_count_31 rfl (lv_at hl 1 rfl) ?_
  refine r_new (C := RX4) (T := TX4) (N := 4) (ci := 5) (fs := [.int 0, .int 0, .int 0, .int 0]) X S 8 (by decide) in_RX4 tyX4 tyX4_ok (by decide +kernel) (by decide +kernel) (by decide +kernel) rfl (fun j hj => by rcases (show j = 0 ∨ j = 1 ∨ j = 2 ∨ j = 3 by omega) with rfl | rfl | rfl | rfl <;> rfl) (by exact Nat.le_of_ble_eq_true rfl) (by exact Nat.le_of_ble_eq_true rfl) dX9_count_32 (fun q_32 H hn_q_32 S => ?_)
  obtain ⟨f_32, ef_32⟩ : ∃ z9 : Wd, z9 = wu f q_32 8 (.inr (5, [.int 0, .int 0, .int 0, .int 0])) := ⟨_, rfl⟩
  rw [← ef_32] at S
  have hx_32 : f_32 x = some (0, .inr (9, [.ref gr, .ref L1, .ref L2, .ref L3, .ref cu, .int (nI (st 0 4))])) := by rw [ef_32]; exact wu_new hn_q_32 hx
  have hNq32 : f_32 q_32 = some (8, .inr (5, [.int 0, .int 0, .int 0, .int 0])) := by rw [ef_32]; exact wu_self _ _ _ _
  have hz_q_32 := md_none m00 hn_q_32
  have mw_new_32 : md (fun _ => False) f f_32 := by rw [ef_32]; exact md_newput hz_q_32 m00
  have hL1_32 := hL1.md mw_new_32 (fun z => z)
  refine lv_dup X.1 X.2.1 dX9_count_35 rfl ?_
  refine lv_iload_n X.1 X.2.1 dX9_count_36 rfl (lv_at hl 2 rfl) ?_
  refine lv_iload_n X.1 X.2.1 dX9_count_37 rfl (lv_at hl 3 rfl) ?_
  refine lv_iload X.1 X.2.1 dX9_count_38 (lv_at hl 4 rfl) ?_
  refine lv_iload X.1 X.2.1 dX9_count_40 (lv_at hl 5 rfl) ?_
  refine call_v (run_I X S (m_Field l G f_32 q_32 8 a1 b1 p1 q1 hNq32 (by decide)) 4 gX9_count_X4_init rfl rfl rfl (by decide +kernel) (by decide +kernel) (by decide +kernel) rfl (by decide +kernel) ⟨(by exact Nat.le_of_ble_eq_true rfl), (by exact Nat.le_of_ble_eq_true rfl)⟩ rfl hl.1 rfl (by exact Nat.le_of_ble_eq_true rfl) dX9_count_42 ⟨(by exact Nat.le_of_ble_eq_true rfl), (by exact Nat.le_of_ble_eq_true rfl)⟩) S (fun f_42 H locs hr_42 S => ?_)
  have hx_42 : f_42 x = some (0, .inr (9, [.ref gr, .ref L1, .ref L2, .ref L3, .ref cu, .int (nI (st 0 4))])) := by rw [hr_42]; exact wu_get hNq32 hx_32 (by decide)
  have hNq32_42 : f_42 q_32 = some (8, .inr (5, [.int (nI a1), .int (nI b1), .int (nI p1), .int (nI q1)])) := by rw [hr_42]; exact wu_self _ _ _ _
  have mw_set_42 : md (fun _ => False) f f_42 := by rw [hr_42]; exact md_newput hz_q_32 mw_new_32
  have hL1_42 := hL1.md mw_set_42 (fun z => z)
  have hR42 := hR.kept (fun b t e hb _ => mw_set_42 b t e hb (fun z => z)) hI.1.1
  refine lv_iload X.1 X.2.1 dX9_count_45 (lv_at hl 6 rfl) ?_
  refine call_ip (run_V X S (m_countSeen l G f_42 st x gr rw1 L1 L2 L3 cu L4 g1 g2 g3 g4 w hI hR42 c1 q_32 8 a1 b1 p1 q1 k1 (by omega) hNq32_42 (by omega) (by omega) (by omega) (by omega) (by omega)) 3 gX9_count_X9_countSeen rfl rfl rfl (by decide +kernel) ⟨(by exact Nat.le_of_ble_eq_true rfl), (by exact Nat.le_of_ble_eq_true rfl)⟩ ⟨_, _, hx_42⟩ rfl rfl rfl hl.1 rfl (by exact Nat.le_of_ble_eq_true rfl) dX9_count_47 ⟨(by exact Nat.le_of_ble_eq_true rfl), (by exact Nat.le_of_ble_eq_true rfl)⟩) S (fun r_47 H locs hr_47 S => ?_)
  subst hr_47
  refine vx_ret (e_i X hr S (Nat.le_of_ble_eq_true rfl) (Nat.le_of_ble_eq_true rfl) dX9_count_50 ?_)
  simp only [nc, na, nb, np, nq, nk]
  exact ⟨k2_0 hr_8 ⟨hP2, hr_27⟩, by trivial, hR0.new hI mw_set_42, md_mono mw_set_42 (fun _ z => z.elim)⟩

set_option maxRecDepth 100000 in
set_option maxHeartbeats 4000000 in
/-- whyNot -/
theorem c_whyNot (l : Launch) (hst : l.stackTraces = false) (G : cx_G) (f : Wd) (st : St) (x : Nat) (hI : sInv st) (hR0 : RX G f st x) (c a b p q : Int32) : XI l G yX9_whyNot wsX9_whyNot 8 136 5 28 [.ref x, .int c, .int a, .int b, .int p, .int q] f (fun r f' => (k2 (eyeP st c a b p q) (ordP a b p q)) = 0 ∧ r = nI (lackN st (densN st (nN c) (nN a) (nN b) (nN p) (nN q))) ∧ RX G f' st x ∧ md tX f f') (psi ["java/lang/IndexOutOfBoundsException", "java/lang/IllegalArgumentException"] (k2 (eyeP st c a b p q) (ordP a b p q))) := by
  refine vx_body (cc := cX9_whyNot) (n := 6) (ret := (some .int)) (by decide +kernel) rfl (Nat.le_of_ble_eq_true rfl) ?_
  intro p0 e0 s0 m0 b0 meth0 c0 ls X hr hnm hout S hl
  have X : cxC G p0 l _ c0 cX9_whyNot 6 m0 meth0 s0 _ RX9 wsX9_whyNot := X
  have hl : lv_has ls 6 [(0, .ref x), (1, .int c), (2, .int a), (3, .int b), (4, .int p), (5, .int q)] := hl
  have in_RX4 : ∀ w ∈ u_ws RX4 TX4 4, w ∈ wsX9_whyNot := by decide +kernel
  have in_RX9 : ∀ w ∈ u_ws RX9 TX9 6, w ∈ wsX9_whyNot := by decide +kernel
  obtain ⟨gr, rw1, L1, L2, L3, cu, L4, g1, g2, g3, g4, w, hR⟩ := id hR0
  obtain ⟨hi0, hi1, hi2, hi3, hi4, hi5, hi6, hi7⟩ := id hI
  obtain ⟨hx, hgr, hrw, hgd, hL1, hC, hL2, hS2, hL3, hE, hcu, hL4, hA⟩ := id hR
  have m00 : md (fun _ => False) f f := md_rf _ f
  refine lv_aload_n X.1 X.2.1 dX9_whyNot_0 rfl (lv_at hl 0 rfl) ?_
  refine lv_iload_n X.1 X.2.1 dX9_whyNot_1 rfl (lv_at hl 1 rfl) ?_
  refine lv_iload_n X.1 X.2.1 dX9_whyNot_2 rfl (lv_at hl 2 rfl) ?_
  refine lv_iload_n X.1 X.2.1 dX9_whyNot_3 rfl (lv_at hl 3 rfl) ?_
  refine lv_iload X.1 X.2.1 dX9_whyNot_4 (lv_at hl 4 rfl) ?_
  refine lv_iload X.1 X.2.1 dX9_whyNot_6 (lv_at hl 5 rfl) ?_
  refine xcall_v (xrun_V X S (m_rqEye l hst G f st x gr rw1 L1 L2 L3 cu L4 g1 g2 g3 g4 w hI hR c a b p q) 5 gX9_whyNot_X9_requireEyeAndCells rfl rfl rfl (by decide +kernel) ⟨(by exact Nat.le_of_ble_eq_true rfl), (by exact Nat.le_of_ble_eq_true rfl)⟩ ⟨_, _, hx⟩ rfl rfl rfl hl.1 rfl (by exact Nat.le_of_ble_eq_true rfl) dX9_whyNot_8 ⟨(by exact Nat.le_of_ble_eq_true rfl), (by exact Nat.le_of_ble_eq_true rfl)⟩) S hout X.2.2.2.2.2.2.2 (by exact Nat.le_of_ble_eq_true rfl) (by exact Nat.le_of_ble_eq_true rfl) (fun E hE => by rw [hE.1]; exact p21 hE.2) (fun H locs hr_8 S => ?_)
  refine lv_iload_n X.1 X.2.1 dX9_whyNot_11 rfl (lv_at hl 2 rfl) ?_
  refine lv_iload_n X.1 X.2.1 dX9_whyNot_12 rfl (lv_at hl 3 rfl) ?_
  refine lv_iload X.1 X.2.1 dX9_whyNot_13 (lv_at hl 4 rfl) ?_
  refine lv_iload X.1 X.2.1 dX9_whyNot_15 (lv_at hl 5 rfl) ?_
  refine xcall_v (xrun_S X S (m_rqOrder l hst G f a b p q) 4 gX9_whyNot_X9_requireOrder rfl rfl rfl (by decide +kernel) ⟨(by exact Nat.le_of_ble_eq_true rfl), (by exact Nat.le_of_ble_eq_true rfl)⟩ rfl hl.1 rfl (by exact Nat.le_of_ble_eq_true rfl) dX9_whyNot_17 ⟨(by exact Nat.le_of_ble_eq_true rfl), (by exact Nat.le_of_ble_eq_true rfl)⟩) S hout X.2.2.2.2.2.2.2 (by exact Nat.le_of_ble_eq_true rfl) (by exact Nat.le_of_ble_eq_true rfl) (fun E hE => by rw [hE.1]; exact p22 hr_8 (fun z => hE.2 z)) (fun H locs hr_17 S => ?_)
  obtain ⟨c1, rfl, clo, cup, cbd⟩ := inI_sub hr_8.1 (by omega)
  have nc : nN (nI c1) = c1 := nN_nI cbd
  obtain ⟨a1, rfl, alo, aup, abd⟩ := inI_sub hr_8.2.1.1 (by omega)
  have na : nN (nI a1) = a1 := nN_nI abd
  obtain ⟨b1, rfl, blo, bup, bbd⟩ := inI_sub hr_8.2.1.2 (by omega)
  have nb : nN (nI b1) = b1 := nN_nI bbd
  obtain ⟨p1, rfl, plo, pup, pbd⟩ := inI_sub hr_8.2.2.1 (by omega)
  have np : nN (nI p1) = p1 := nN_nI pbd
  obtain ⟨q1, rfl, qlo, qup, qbd⟩ := inI_sub hr_8.2.2.2 (by omega)
  have nq : nN (nI q1) = q1 := nN_nI qbd
  have hox : a1 ≤ p1 := by have := hr_17.1; rw [i_n (by omega), i_n (by omega)] at this; omega
  have hoy : b1 ≤ q1 := by have := hr_17.2; rw [i_n (by omega), i_n (by omega)] at this; omega
  refine lv_aload_n X.1 X.2.1 dX9_whyNot_20 rfl (lv_at hl 0 rfl) ?_
  refine r_get (C := RX9) (T := TX9) (N := 6) (ref := "Craterclock") X S in_RX9 hx rfl 4 (by decide) (by decide +kernel) (fun _ h => h) rfl dX9_whyNot_21 ?_
  refine lv_aload_n X.1 X.2.1 dX9_whyNot_24 rfl (lv_at hl 0 rfl) ?_
  refine lv_iload_n X.1 X.2.1 dX9_whyNot_25 rfl (lv_at hl 1 rfl) ?_
  refine r_new (C := RX4) (T := TX4) (N := 4) (ci := 5) (fs := [.int 0, .int 0, .int 0, .int 0]) X S 8 (by decide) in_RX4 tyX4 tyX4_ok (by decide +kernel) (by decide +kernel) (by decide +kernel) rfl (fun j hj => by rcases (show j = 0 ∨ j = 1 ∨ j = 2 ∨ j = 3 by omega) with rfl | rfl | rfl | rfl <;> rfl) (by exact Nat.le_of_ble_eq_true rfl) (by exact Nat.le_of_ble_eq_true rfl) dX9_whyNot_26 (fun q_26 H hn_q_26 S => ?_)
  obtain ⟨f_26, ef_26⟩ : ∃ z9 : Wd, z9 = wu f q_26 8 (.inr (5, [.int 0, .int 0, .int 0, .int 0])) := ⟨_, rfl⟩
  rw [← ef_26] at S
  have hx_26 : f_26 x = some (0, .inr (9, [.ref gr, .ref L1, .ref L2, .ref L3, .ref cu, .int (nI (st 0 4))])) := by rw [ef_26]; exact wu_new hn_q_26 hx
  have hcu_26 : f_26 cu = some (6, .inr (3, [.ref L4])) := by rw [ef_26]; exact wu_new hn_q_26 hcu
  have hNq26 : f_26 q_26 = some (8, .inr (5, [.int 0, .int 0, .int 0, .int 0])) := by rw [ef_26]; exact wu_self _ _ _ _
  have hz_q_26 := md_none m00 hn_q_26
  have mw_new_26 : md (fun _ => False) f f_26 := by rw [ef_26]; exact md_newput hz_q_26 m00
  have hL1_26 := hL1.md mw_new_26 (fun z => z)
  refine lv_dup X.1 X.2.1 dX9_whyNot_29 rfl ?_
  refine lv_iload_n X.1 X.2.1 dX9_whyNot_30 rfl (lv_at hl 2 rfl) ?_
  refine lv_iload_n X.1 X.2.1 dX9_whyNot_31 rfl (lv_at hl 3 rfl) ?_
  refine lv_iload X.1 X.2.1 dX9_whyNot_32 (lv_at hl 4 rfl) ?_
  refine lv_iload X.1 X.2.1 dX9_whyNot_34 (lv_at hl 5 rfl) ?_
  refine call_v (run_I X S (m_Field l G f_26 q_26 8 a1 b1 p1 q1 hNq26 (by decide)) 4 gX9_whyNot_X4_init rfl rfl rfl (by decide +kernel) (by decide +kernel) (by decide +kernel) rfl (by decide +kernel) ⟨(by exact Nat.le_of_ble_eq_true rfl), (by exact Nat.le_of_ble_eq_true rfl)⟩ rfl hl.1 rfl (by exact Nat.le_of_ble_eq_true rfl) dX9_whyNot_36 ⟨(by exact Nat.le_of_ble_eq_true rfl), (by exact Nat.le_of_ble_eq_true rfl)⟩) S (fun f_36 H locs hr_36 S => ?_)
  have hx_36 : f_36 x = some (0, .inr (9, [.ref gr, .ref L1, .ref L2, .ref L3, .ref cu, .int (nI (st 0 4))])) := by rw [hr_36]; exact wu_get hNq26 hx_26 (by decide)
  have hcu_36 : f_36 cu = some (6, .inr (3, [.ref L4])) := by rw [hr_36]; exact wu_get hNq26 hcu_26 (by decide)
  have hNq26_36 : f_36 q_26 = some (8, .inr (5, [.int (nI a1), .int (nI b1), .int (nI p1), .int (nI q1)])) := by rw [hr_36]; exact wu_self _ _ _ _
  have mw_set_36 : md (fun _ => False) f f_36 := by rw [hr_36]; exact md_newput hz_q_26 mw_new_26
  have hL1_36 := hL1.md mw_set_36 (fun z => z)
  have hR36 := hR.kept (fun b t e hb _ => mw_set_36 b t e hb (fun z => z)) hI.1.1
  refine call_lp (run_V X S (m_densitySeen l G f_36 st x gr rw1 L1 L2 L3 cu L4 g1 g2 g3 g4 w hI hR36 c1 q_26 8 a1 b1 p1 q1 (by omega) hNq26_36 (by omega) (by omega) (by omega) (by omega) hox hoy) 2 gX9_whyNot_X9_densitySeen rfl rfl rfl (by decide +kernel) ⟨(by exact Nat.le_of_ble_eq_true rfl), (by exact Nat.le_of_ble_eq_true rfl)⟩ ⟨_, _, hx_36⟩ rfl rfl rfl hl.1 rfl (by exact Nat.le_of_ble_eq_true rfl) dX9_whyNot_39 ⟨(by exact Nat.le_of_ble_eq_true rfl), (by exact Nat.le_of_ble_eq_true rfl)⟩) S (fun r_39 H locs hr_39 S => ?_)
  subst hr_39
  refine call_ip (run_V X S (m_lackFor l G f_36 st x gr rw1 L1 L2 L3 cu L4 g1 g2 g3 g4 w hI hR36 (densN st c1 a1 b1 p1 q1) (dens_lt hI _ _ _ _ _)) 1 gX9_whyNot_X2_lackFor rfl rfl rfl (by decide +kernel) ⟨(by exact Nat.le_of_ble_eq_true rfl), (by exact Nat.le_of_ble_eq_true rfl)⟩ ⟨_, _, hcu_36⟩ rfl rfl rfl hl.1 rfl (by exact Nat.le_of_ble_eq_true rfl) dX9_whyNot_42 ⟨(by exact Nat.le_of_ble_eq_true rfl), (by exact Nat.le_of_ble_eq_true rfl)⟩) S (fun r_42 H locs hr_42 S => ?_)
  subst hr_42
  refine vx_ret (e_i X hr S (Nat.le_of_ble_eq_true rfl) (Nat.le_of_ble_eq_true rfl) dX9_whyNot_45 ?_)
  simp only [nc, na, nb, np, nq]
  exact ⟨k2_0 hr_8 hr_17, by trivial, hR0.new hI mw_set_36, md_mono mw_set_36 (fun _ z => z.elim)⟩

set_option maxRecDepth 100000 in
set_option maxHeartbeats 4000000 in
/-- age -/
theorem c_age (l : Launch) (hst : l.stackTraces = false) (G : cx_G) (f : Wd) (st : St) (x : Nat) (hI : sInv st) (hR0 : RX G f st x) (c a b p q : Int32) : XL l G yX9_age wsX9_age 8 136 6 34 [.ref x, .int c, .int a, .int b, .int p, .int q] f (fun r f' => (k3 (eyeP st c a b p q) (ordP a b p q) (lackN st (densN st (nN c) (nN a) (nN b) (nN p) (nN q)) = 0)) = 0 ∧ ageR st (densN st (nN c) (nN a) (nN b) (nN p) (nN q)) r ∧ RX G f' st x ∧ md tX f f') (psi ["java/lang/IndexOutOfBoundsException", "java/lang/IllegalArgumentException", "java/lang/IllegalStateException"] (k3 (eyeP st c a b p q) (ordP a b p q) (lackN st (densN st (nN c) (nN a) (nN b) (nN p) (nN q)) = 0))) := by
  refine vx_body (cc := cX9_age) (n := 8) (ret := (some .long)) (by decide +kernel) rfl (Nat.le_of_ble_eq_true rfl) ?_
  intro p0 e0 s0 m0 b0 meth0 c0 ls X hr hnm hout S hl
  have X : cxC G p0 l _ c0 cX9_age 8 m0 meth0 s0 _ RX9 wsX9_age := X
  have hl : lv_has ls 8 [(0, .ref x), (1, .int c), (2, .int a), (3, .int b), (4, .int p), (5, .int q)] := hl
  have in_RX4 : ∀ w ∈ u_ws RX4 TX4 4, w ∈ wsX9_age := by decide +kernel
  have in_RX9 : ∀ w ∈ u_ws RX9 TX9 6, w ∈ wsX9_age := by decide +kernel
  obtain ⟨gr, rw1, L1, L2, L3, cu, L4, g1, g2, g3, g4, w, hR⟩ := id hR0
  obtain ⟨hi0, hi1, hi2, hi3, hi4, hi5, hi6, hi7⟩ := id hI
  obtain ⟨hx, hgr, hrw, hgd, hL1, hC, hL2, hS2, hL3, hE, hcu, hL4, hA⟩ := id hR
  have m00 : md (fun _ => False) f f := md_rf _ f
  refine lv_aload_n X.1 X.2.1 dX9_age_0 rfl (lv_at hl 0 rfl) ?_
  refine lv_iload_n X.1 X.2.1 dX9_age_1 rfl (lv_at hl 1 rfl) ?_
  refine lv_iload_n X.1 X.2.1 dX9_age_2 rfl (lv_at hl 2 rfl) ?_
  refine lv_iload_n X.1 X.2.1 dX9_age_3 rfl (lv_at hl 3 rfl) ?_
  refine lv_iload X.1 X.2.1 dX9_age_4 (lv_at hl 4 rfl) ?_
  refine lv_iload X.1 X.2.1 dX9_age_6 (lv_at hl 5 rfl) ?_
  refine xcall_v (xrun_V X S (m_rqEye l hst G f st x gr rw1 L1 L2 L3 cu L4 g1 g2 g3 g4 w hI hR c a b p q) 5 gX9_age_X9_requireEyeAndCells rfl rfl rfl (by decide +kernel) ⟨(by exact Nat.le_of_ble_eq_true rfl), (by exact Nat.le_of_ble_eq_true rfl)⟩ ⟨_, _, hx⟩ rfl rfl rfl hl.1 rfl (by exact Nat.le_of_ble_eq_true rfl) dX9_age_8 ⟨(by exact Nat.le_of_ble_eq_true rfl), (by exact Nat.le_of_ble_eq_true rfl)⟩) S hout X.2.2.2.2.2.2.2 (by exact Nat.le_of_ble_eq_true rfl) (by exact Nat.le_of_ble_eq_true rfl) (fun E hE => by rw [hE.1]; exact p31 hE.2) (fun H locs hr_8 S => ?_)
  refine lv_iload_n X.1 X.2.1 dX9_age_11 rfl (lv_at hl 2 rfl) ?_
  refine lv_iload_n X.1 X.2.1 dX9_age_12 rfl (lv_at hl 3 rfl) ?_
  refine lv_iload X.1 X.2.1 dX9_age_13 (lv_at hl 4 rfl) ?_
  refine lv_iload X.1 X.2.1 dX9_age_15 (lv_at hl 5 rfl) ?_
  refine xcall_v (xrun_S X S (m_rqOrder l hst G f a b p q) 4 gX9_age_X9_requireOrder rfl rfl rfl (by decide +kernel) ⟨(by exact Nat.le_of_ble_eq_true rfl), (by exact Nat.le_of_ble_eq_true rfl)⟩ rfl hl.1 rfl (by exact Nat.le_of_ble_eq_true rfl) dX9_age_17 ⟨(by exact Nat.le_of_ble_eq_true rfl), (by exact Nat.le_of_ble_eq_true rfl)⟩) S hout X.2.2.2.2.2.2.2 (by exact Nat.le_of_ble_eq_true rfl) (by exact Nat.le_of_ble_eq_true rfl) (fun E hE => by rw [hE.1]; exact p32 hr_8 (fun z => hE.2 z)) (fun H locs hr_17 S => ?_)
  obtain ⟨c1, rfl, clo, cup, cbd⟩ := inI_sub hr_8.1 (by omega)
  have nc : nN (nI c1) = c1 := nN_nI cbd
  obtain ⟨a1, rfl, alo, aup, abd⟩ := inI_sub hr_8.2.1.1 (by omega)
  have na : nN (nI a1) = a1 := nN_nI abd
  obtain ⟨b1, rfl, blo, bup, bbd⟩ := inI_sub hr_8.2.1.2 (by omega)
  have nb : nN (nI b1) = b1 := nN_nI bbd
  obtain ⟨p1, rfl, plo, pup, pbd⟩ := inI_sub hr_8.2.2.1 (by omega)
  have np : nN (nI p1) = p1 := nN_nI pbd
  obtain ⟨q1, rfl, qlo, qup, qbd⟩ := inI_sub hr_8.2.2.2 (by omega)
  have nq : nN (nI q1) = q1 := nN_nI qbd
  have hox : a1 ≤ p1 := by have := hr_17.1; rw [i_n (by omega), i_n (by omega)] at this; omega
  have hoy : b1 ≤ q1 := by have := hr_17.2; rw [i_n (by omega), i_n (by omega)] at this; omega
  refine lv_aload_n X.1 X.2.1 dX9_age_20 rfl (lv_at hl 0 rfl) ?_
  refine lv_iload_n X.1 X.2.1 dX9_age_21 rfl (lv_at hl 1 rfl) ?_
  refine r_new (C := RX4) (T := TX4) (N := 4) (ci := 5) (fs := [.int 0, .int 0, .int 0, .int 0]) X S 8 (by decide) in_RX4 tyX4 tyX4_ok (by decide +kernel) (by decide +kernel) (by decide +kernel) rfl (fun j hj => by rcases (show j = 0 ∨ j = 1 ∨ j = 2 ∨ j = 3 by omega) with rfl | rfl | rfl | rfl <;> rfl) (by exact Nat.le_of_ble_eq_true rfl) (by exact Nat.le_of_ble_eq_true rfl) dX9_age_22 (fun q_22 H hn_q_22 S => ?_)
  obtain ⟨f_22, ef_22⟩ : ∃ z9 : Wd, z9 = wu f q_22 8 (.inr (5, [.int 0, .int 0, .int 0, .int 0])) := ⟨_, rfl⟩
  rw [← ef_22] at S
  have hx_22 : f_22 x = some (0, .inr (9, [.ref gr, .ref L1, .ref L2, .ref L3, .ref cu, .int (nI (st 0 4))])) := by rw [ef_22]; exact wu_new hn_q_22 hx
  have hcu_22 : f_22 cu = some (6, .inr (3, [.ref L4])) := by rw [ef_22]; exact wu_new hn_q_22 hcu
  have hNq22 : f_22 q_22 = some (8, .inr (5, [.int 0, .int 0, .int 0, .int 0])) := by rw [ef_22]; exact wu_self _ _ _ _
  have hz_q_22 := md_none m00 hn_q_22
  have mw_new_22 : md (fun _ => False) f f_22 := by rw [ef_22]; exact md_newput hz_q_22 m00
  have hL1_22 := hL1.md mw_new_22 (fun z => z)
  refine lv_dup X.1 X.2.1 dX9_age_25 rfl ?_
  refine lv_iload_n X.1 X.2.1 dX9_age_26 rfl (lv_at hl 2 rfl) ?_
  refine lv_iload_n X.1 X.2.1 dX9_age_27 rfl (lv_at hl 3 rfl) ?_
  refine lv_iload X.1 X.2.1 dX9_age_28 (lv_at hl 4 rfl) ?_
  refine lv_iload X.1 X.2.1 dX9_age_30 (lv_at hl 5 rfl) ?_
  refine call_v (run_I X S (m_Field l G f_22 q_22 8 a1 b1 p1 q1 hNq22 (by decide)) 4 gX9_age_X4_init rfl rfl rfl (by decide +kernel) (by decide +kernel) (by decide +kernel) rfl (by decide +kernel) ⟨(by exact Nat.le_of_ble_eq_true rfl), (by exact Nat.le_of_ble_eq_true rfl)⟩ rfl hl.1 rfl (by exact Nat.le_of_ble_eq_true rfl) dX9_age_32 ⟨(by exact Nat.le_of_ble_eq_true rfl), (by exact Nat.le_of_ble_eq_true rfl)⟩) S (fun f_32 H locs hr_32 S => ?_)
  have hx_32 : f_32 x = some (0, .inr (9, [.ref gr, .ref L1, .ref L2, .ref L3, .ref cu, .int (nI (st 0 4))])) := by rw [hr_32]; exact wu_get hNq22 hx_22 (by decide)
  have hcu_32 : f_32 cu = some (6, .inr (3, [.ref L4])) := by rw [hr_32]; exact wu_get hNq22 hcu_22 (by decide)
  have hNq22_32 : f_32 q_22 = some (8, .inr (5, [.int (nI a1), .int (nI b1), .int (nI p1), .int (nI q1)])) := by rw [hr_32]; exact wu_self _ _ _ _
  have mw_set_32 : md (fun _ => False) f f_32 := by rw [hr_32]; exact md_newput hz_q_22 mw_new_22
  have hL1_32 := hL1.md mw_set_32 (fun z => z)
  have hR32 := hR.kept (fun b t e hb _ => mw_set_32 b t e hb (fun z => z)) hI.1.1
  refine call_lp (run_V X S (m_densitySeen l G f_32 st x gr rw1 L1 L2 L3 cu L4 g1 g2 g3 g4 w hI hR32 c1 q_22 8 a1 b1 p1 q1 (by omega) hNq22_32 (by omega) (by omega) (by omega) (by omega) hox hoy) 2 gX9_age_X9_densitySeen rfl rfl rfl (by decide +kernel) ⟨(by exact Nat.le_of_ble_eq_true rfl), (by exact Nat.le_of_ble_eq_true rfl)⟩ ⟨_, _, hx_32⟩ rfl rfl rfl hl.1 rfl (by exact Nat.le_of_ble_eq_true rfl) dX9_age_35 ⟨(by exact Nat.le_of_ble_eq_true rfl), (by exact Nat.le_of_ble_eq_true rfl)⟩) S (fun r_35 H locs hr_35 S => ?_)
  subst hr_35
  refine lv_lstore (lv' := [(6, .long (lN (densN st c1 a1 b1 p1 q1))), (0, .ref x), (1, .int (nI c1)), (2, .int (nI a1)), (3, .int (nI b1)), (4, .int (nI p1)), (5, .int (nI q1))]) X.1 X.2.1 dX9_age_38 hl (by decide) rfl (fun ls hl => ?_)
  refine lv_aload_n X.1 X.2.1 dX9_age_40 rfl (lv_at hl 1 rfl) ?_
  refine r_get (C := RX9) (T := TX9) (N := 6) (ref := "Craterclock") X S in_RX9 hx_32 rfl 4 (by decide) (by decide +kernel) (fun _ h => h) rfl dX9_age_41 ?_
  refine lv_lload X.1 X.2.1 dX9_age_44 (lv_at hl 0 rfl) ?_
  refine call_ip (run_V X S (m_lackFor l G f_32 st x gr rw1 L1 L2 L3 cu L4 g1 g2 g3 g4 w hI hR32 (densN st c1 a1 b1 p1 q1) (dens_lt hI _ _ _ _ _)) 1 gX9_age_X2_lackFor rfl rfl rfl (by decide +kernel) ⟨(by exact Nat.le_of_ble_eq_true rfl), (by exact Nat.le_of_ble_eq_true rfl)⟩ ⟨_, _, hcu_32⟩ rfl rfl rfl hl.1 rfl (by exact Nat.le_of_ble_eq_true rfl) dX9_age_46 ⟨(by exact Nat.le_of_ble_eq_true rfl), (by exact Nat.le_of_ble_eq_true rfl)⟩) S (fun r_46 H locs hr_46 S => ?_)
  subst hr_46
  refine lv_if_eq (tgt := 62) X.1 X.2.1 dX9_age_49 (by decide) (fun c_49 => ?_) (fun c_49 => ?_)
  · have hlk : lackN st (densN st c1 a1 b1 p1 q1) = 0 := (nI_eq (b := 0) (by unfold lackN; split; omega; split <;> omega) (by omega)).mp c_49
    have hlk2 := lack_0 hlk
    refine lv_aload_n X.1 X.2.1 dX9_age_62 rfl (lv_at hl 1 rfl) ?_
    refine r_get (C := RX9) (T := TX9) (N := 6) (ref := "Craterclock") X S in_RX9 hx_32 rfl 4 (by decide) (by decide +kernel) (fun _ h => h) rfl dX9_age_63 ?_
    refine lv_lload X.1 X.2.1 dX9_age_66 (lv_at hl 0 rfl) ?_
    refine call_lp (run_V X S (m_yearsOf l G f_32 st x gr rw1 L1 L2 L3 cu L4 g1 g2 g3 g4 w hI hR32 (densN st c1 a1 b1 p1 q1) hlk2.1 hlk2.2) 1 gX9_age_X2_yearsOf rfl rfl rfl (by decide +kernel) ⟨(by exact Nat.le_of_ble_eq_true rfl), (by exact Nat.le_of_ble_eq_true rfl)⟩ ⟨_, _, hcu_32⟩ rfl rfl rfl hl.1 rfl (by exact Nat.le_of_ble_eq_true rfl) dX9_age_68 ⟨(by exact Nat.le_of_ble_eq_true rfl), (by exact Nat.le_of_ble_eq_true rfl)⟩) S (fun r_68 H locs hr_68 S => ?_)
    refine vx_ret (e_l X hr S (Nat.le_of_ble_eq_true rfl) (Nat.le_of_ble_eq_true rfl) dX9_age_71 ?_)
    simp only [nc, na, nb, np, nq]
    exact ⟨k3_0 hr_8 hr_17 hlk, hr_68, hR0.new hI mw_set_32, md_mono mw_set_32 (fun _ z => z.elim)⟩
  · rw [hr_32, ef_22, wu_wu] at S
    replace S : cxS G s0 f H locs := ⟨S.1.drop hn_q_22 (by decide), S.2⟩
    refine r_throw (cls := "java/lang/IllegalStateException") (text := "there is no age") X S hst hout rfl hl.1 (by decide +kernel) (by decide +kernel) (by decide +kernel) (by decide +kernel) (by decide +kernel) (by decide +kernel) (by decide +kernel) (by decide +kernel) dX9_age_52 dX9_age_55 dX9_age_56 dX9_age_58 dX9_age_61 (by exact Nat.le_of_ble_eq_true rfl) (by exact Nat.le_of_ble_eq_true rfl) (by exact Nat.le_of_ble_eq_true rfl) (by exact Nat.le_of_ble_eq_true rfl) (by exact Nat.le_of_ble_eq_true rfl) (by exact Nat.le_of_ble_eq_true rfl) ?_
    exact p33 hr_8 hr_17 (fun z => c_49 (by simp only [nc, na, nb, np, nq] at z; unfold lackN at z; rw [z]; rfl))

set_option maxRecDepth 100000 in
set_option maxHeartbeats 4000000 in
/-- craters -/
theorem c_craters (l : Launch) (hst : l.stackTraces = false) (G : cx_G) (f : Wd) (st : St) (x : Nat) (hI : sInv st) (hR0 : RX G f st x) : PI l G yX9_craters wsX9_craters 1 20 [.ref x] f (fun v => v = nI (st 0 0)) := by
  refine cx_body (cc := cX9_craters) (n := 1) (ret := (some .int)) (by decide +kernel) rfl (Nat.le_of_ble_eq_true rfl) ?_
  intro p0 e0 s0 m0 b0 meth0 c0 ls X hr hnm S hl
  have X : cxC G p0 l _ c0 cX9_craters 1 m0 meth0 s0 _ RX9 wsX9_craters := X
  have hl : lv_has ls 1 [(0, .ref x)] := hl
  have in_RX9 : ∀ w ∈ u_ws RX9 TX9 6, w ∈ wsX9_craters := by decide +kernel
  obtain ⟨gr, rw1, L1, L2, L3, cu, L4, g1, g2, g3, g4, w, hR⟩ := id hR0
  obtain ⟨hi0, hi1, hi2, hi3, hi4, hi5, hi6, hi7⟩ := id hI
  obtain ⟨hx, hgr, hrw, hgd, hL1, hC, hL2, hS2, hL3, hE, hcu, hL4, hA⟩ := id hR
  refine lv_aload_n X.1 X.2.1 dX9_craters_0 rfl (lv_at hl 0 rfl) ?_
  refine r_get (C := RX9) (T := TX9) (N := 6) (ref := "Craterclock") X S in_RX9 hx rfl 1 (by decide) (by decide +kernel) (fun _ h => h) rfl dX9_craters_1 ?_
  refine call_ip (run_V X S (m_sizeL l G f L1 3 (st 0 0) g1 hL1) 0 gX9_craters_Jx4a65c_size_8abf5 rfl rfl rfl (by decide +kernel) ⟨(by exact Nat.le_of_ble_eq_true rfl), (by exact Nat.le_of_ble_eq_true rfl)⟩ hL1.obj rfl rfl rfl hl.1 rfl (by exact Nat.le_of_ble_eq_true rfl) dX9_craters_4 ⟨(Nat.zero_le _), (Nat.zero_le _)⟩) S (fun r_4 H locs hr_4 S => ?_)
  subst hr_4
  refine e_ip X hr S dX9_craters_7 ?_
  exact rfl

set_option maxRecDepth 100000 in
set_option maxHeartbeats 4000000 in
/-- about -/
theorem c_about (l : Launch) (hst : l.stackTraces = false) (G : cx_G) (f : Wd) (st : St) (x : Nat) (hI : sInv st) (hR0 : RX G f st x) (c v : Int32) : XI l G yX9_about wsX9_about 7 115 2 12 [.ref x, .int c, .int v] f (fun r f' => (k2 (inI c 0 ((st 0 0 : Int) - 1)) (inI v 0 3)) = 0 ∧ r = nI (aboutN st (nN c) (nN v)) ∧ RX G f' st x ∧ md tX f f') (psi ["java/lang/IndexOutOfBoundsException", "java/lang/IllegalArgumentException"] (k2 (inI c 0 ((st 0 0 : Int) - 1)) (inI v 0 3))) := by
  refine vx_body (cc := cX9_about) (n := 4) (ret := (some .int)) (by decide +kernel) rfl (Nat.le_of_ble_eq_true rfl) ?_
  intro p0 e0 s0 m0 b0 meth0 c0 ls X hr hnm hout S hl
  have X : cxC G p0 l _ c0 cX9_about 4 m0 meth0 s0 _ RX9 wsX9_about := X
  have hl : lv_has ls 4 [(0, .ref x), (1, .int c), (2, .int v)] := hl
  have in_RX1 : ∀ w ∈ u_ws RX1 TX1 6, w ∈ wsX9_about := by decide +kernel
  have in_RX9 : ∀ w ∈ u_ws RX9 TX9 6, w ∈ wsX9_about := by decide +kernel
  obtain ⟨gr, rw1, L1, L2, L3, cu, L4, g1, g2, g3, g4, w, hR⟩ := id hR0
  obtain ⟨hi0, hi1, hi2, hi3, hi4, hi5, hi6, hi7⟩ := id hI
  obtain ⟨hx, hgr, hrw, hgd, hL1, hC, hL2, hS2, hL3, hE, hcu, hL4, hA⟩ := id hR
  refine lv_aload_n X.1 X.2.1 dX9_about_0 rfl (lv_at hl 0 rfl) ?_
  refine lv_iload_n X.1 X.2.1 dX9_about_1 rfl (lv_at hl 1 rfl) ?_
  refine xcall_v (xrun_V X S (m_rqCrater l hst G f st x gr rw1 L1 L2 L3 cu L4 g1 g2 g3 g4 w hI hR c) 1 gX9_about_X9_requireCrater rfl rfl rfl (by decide +kernel) ⟨(by exact Nat.le_of_ble_eq_true rfl), (by exact Nat.le_of_ble_eq_true rfl)⟩ ⟨_, _, hx⟩ rfl rfl rfl hl.1 rfl (by exact Nat.le_of_ble_eq_true rfl) dX9_about_2 ⟨(by exact Nat.le_of_ble_eq_true rfl), (by exact Nat.le_of_ble_eq_true rfl)⟩) S hout X.2.2.2.2.2.2.2 (by exact Nat.le_of_ble_eq_true rfl) (by exact Nat.le_of_ble_eq_true rfl) (fun E hE => by rw [hE.1]; exact p21 hE.2) (fun H locs hr_2 S => ?_)
  refine lv_iload_n X.1 X.2.1 dX9_about_5 rfl (lv_at hl 2 rfl) ?_
  refine lv_i2l (v := v.toInt64) X.1 X.2.1 dX9_about_6 rfl ?_
  refine lv_lconst (v := 0) X.1 X.2.1 dX9_about_7 (by decide) ?_
  refine r_ldc2 (v := 3) X (by decide +kernel) dX9_about_8 ?_
  refine xcall_v (xrun_S X S (m_rqRange l hst G f v.toInt64 0 3) 3 gX9_about_X9_requireRange rfl rfl rfl (by decide +kernel) ⟨(by exact Nat.le_of_ble_eq_true rfl), (by exact Nat.le_of_ble_eq_true rfl)⟩ rfl hl.1 rfl (by exact Nat.le_of_ble_eq_true rfl) dX9_about_11 ⟨(by exact Nat.le_of_ble_eq_true rfl), (by exact Nat.le_of_ble_eq_true rfl)⟩) S hout X.2.2.2.2.2.2.2 (by exact Nat.le_of_ble_eq_true rfl) (by exact Nat.le_of_ble_eq_true rfl) (fun E hE => by rw [hE.1]; exact p22 hr_2 (fun z => hE.2 ((rg_i (p := 0) (q := 3) (by decide +kernel) (by decide +kernel)).mpr z))) (fun H locs hr_11 S => ?_)
  have hP2 := (rg_i (p := 0) (q := 3) (by decide +kernel) (by decide +kernel)).mp hr_11
  obtain ⟨c1, rfl, clo, cup, cbd⟩ := inI_sub hr_2 (by omega)
  have nc : nN (nI c1) = c1 := nN_nI cbd
  obtain ⟨v1, rfl, vlo, vup, vbd⟩ := inI_sub hP2 (by omega)
  have nv : nN (nI v1) = v1 := nN_nI vbd
  have hlt_c1 : c1 < st 0 0 := by omega
  refine lv_aload_n X.1 X.2.1 dX9_about_14 rfl (lv_at hl 0 rfl) ?_
  refine r_get (C := RX9) (T := TX9) (N := 6) (ref := "Craterclock") X S in_RX9 hx rfl 1 (by decide) (by decide +kernel) (fun _ h => h) rfl dX9_about_15 ?_
  refine lv_iload_n X.1 X.2.1 dX9_about_18 rfl (lv_at hl 1 rfl) ?_
  refine call_rp (run_V X S (m_get l G f L1 3 (st 0 0) c1 g1 hL1 hlt_c1 (by omega)) 1 gX9_about_Jx4a65c_get_915e3 rfl rfl rfl (by decide +kernel) ⟨(by exact Nat.le_of_ble_eq_true rfl), (by exact Nat.le_of_ble_eq_true rfl)⟩ hL1.obj rfl rfl rfl hl.1 rfl (by exact Nat.le_of_ble_eq_true rfl) dX9_about_19 ⟨(by exact Nat.le_of_ble_eq_true rfl), (by exact Nat.le_of_ble_eq_true rfl)⟩) S (fun r_19 H locs hr_19 S => ?_)
  subst hr_19
  refine r_castS X S (nm := "Craterclock$Crater") rfl (by decide +kernel) (hC c1 hlt_c1) rfl dX9_about_22 ?_
  refine lv_astore_n (lv' := [(3, .ref (g1 c1)), (0, .ref x), (1, .int (nI c1)), (2, .int (nI v1))]) X.1 X.2.1 dX9_about_25 rfl hl (by decide) rfl (fun ls hl => ?_)
  refine lv_iload_n X.1 X.2.1 dX9_about_26 rfl (lv_at hl 3 rfl) ?_
  rcases (show v1 = 0 ∨ v1 = 1 ∨ v1 = 2 ∨ v1 = 3 by omega) with rfl | rfl | rfl | rfl
  · refine lv_tableIn (off := 25) (tgt := 52) X.1 X.2.1 dX9_about_27 (by decide) (by decide) (by decide) (by decide) ?_
    refine lv_aload_n X.1 X.2.1 dX9_about_52 rfl (lv_at hl 0 rfl) ?_
    refine r_get (C := RX1) (T := TX1) (N := 6) (ref := "Craterclock$Crater") X S in_RX1 (hC c1 hlt_c1) rfl 0 (by decide) (by decide +kernel) (fun _ h => h) rfl dX9_about_53 ?_
    refine vx_ret (e_i X hr S (Nat.le_of_ble_eq_true rfl) (Nat.le_of_ble_eq_true rfl) dX9_about_56 ?_)
    simp only [nc, nv]
    exact ⟨k2_0 hr_2 hP2, by rfl, hR0, md_rf _ _⟩
  · refine lv_tableIn (off := 30) (tgt := 57) X.1 X.2.1 dX9_about_27 (by decide) (by decide) (by decide) (by decide) ?_
    refine lv_aload_n X.1 X.2.1 dX9_about_57 rfl (lv_at hl 0 rfl) ?_
    refine r_get (C := RX1) (T := TX1) (N := 6) (ref := "Craterclock$Crater") X S in_RX1 (hC c1 hlt_c1) rfl 1 (by decide) (by decide +kernel) (fun _ h => h) rfl dX9_about_58 ?_
    refine vx_ret (e_i X hr S (Nat.le_of_ble_eq_true rfl) (Nat.le_of_ble_eq_true rfl) dX9_about_61 ?_)
    simp only [nc, nv]
    exact ⟨k2_0 hr_2 hP2, by rfl, hR0, md_rf _ _⟩
  · refine lv_tableIn (off := 35) (tgt := 62) X.1 X.2.1 dX9_about_27 (by decide) (by decide) (by decide) (by decide) ?_
    refine lv_aload_n X.1 X.2.1 dX9_about_62 rfl (lv_at hl 0 rfl) ?_
    refine r_get (C := RX1) (T := TX1) (N := 6) (ref := "Craterclock$Crater") X S in_RX1 (hC c1 hlt_c1) rfl 3 (by decide) (by decide +kernel) (fun _ h => h) rfl dX9_about_63 ?_
    refine vx_ret (e_i X hr S (Nat.le_of_ble_eq_true rfl) (Nat.le_of_ble_eq_true rfl) dX9_about_66 ?_)
    simp only [nc, nv]
    exact ⟨k2_0 hr_2 hP2, by rfl, hR0, md_rf _ _⟩
  · refine lv_tableOut (tgt := 67) X.1 X.2.1 dX9_about_27 (by decide) (by decide) ?_
    refine lv_aload_n X.1 X.2.1 dX9_about_67 rfl (lv_at hl 0 rfl) ?_
    refine r_get (C := RX1) (T := TX1) (N := 6) (ref := "Craterclock$Crater") X S in_RX1 (hC c1 hlt_c1) rfl 5 (by decide) (by decide +kernel) (fun _ h => h) rfl dX9_about_68 ?_
    refine vx_ret (e_i X hr S (Nat.le_of_ble_eq_true rfl) (Nat.le_of_ble_eq_true rfl) dX9_about_71 ?_)
    simp only [nc, nv]
    exact ⟨k2_0 hr_2 hP2, by rfl, hR0, md_rf _ _⟩

set_option maxRecDepth 100000 in
set_option maxHeartbeats 4000000 in
/-- depthAnew -/
theorem c_depthAnew (l : Launch) (hst : l.stackTraces = false) (G : cx_G) (f : Wd) (st : St) (x : Nat) (hI : sInv st) (hR0 : RX G f st x) (c : Int32) : XI l G yX9_depthAnew wsX9_depthAnew 7 111 1 6 [.ref x, .int c] f (fun r f' => (k1 (inI c 0 ((st 0 0 : Int) - 1))) = 0 ∧ r = nI (st 7 (nN c)) ∧ RX G f' st x ∧ md tX f f') (psi ["java/lang/IndexOutOfBoundsException"] (k1 (inI c 0 ((st 0 0 : Int) - 1)))) := by
  refine vx_body (cc := cX9_depthAnew) (n := 2) (ret := (some .int)) (by decide +kernel) rfl (Nat.le_of_ble_eq_true rfl) ?_
  intro p0 e0 s0 m0 b0 meth0 c0 ls X hr hnm hout S hl
  have X : cxC G p0 l _ c0 cX9_depthAnew 2 m0 meth0 s0 _ RX9 wsX9_depthAnew := X
  have hl : lv_has ls 2 [(0, .ref x), (1, .int c)] := hl
  obtain ⟨gr, rw1, L1, L2, L3, cu, L4, g1, g2, g3, g4, w, hR⟩ := id hR0
  obtain ⟨hi0, hi1, hi2, hi3, hi4, hi5, hi6, hi7⟩ := id hI
  obtain ⟨hx, hgr, hrw, hgd, hL1, hC, hL2, hS2, hL3, hE, hcu, hL4, hA⟩ := id hR
  refine lv_aload_n X.1 X.2.1 dX9_depthAnew_0 rfl (lv_at hl 0 rfl) ?_
  refine lv_iload_n X.1 X.2.1 dX9_depthAnew_1 rfl (lv_at hl 1 rfl) ?_
  refine xcall_v (xrun_V X S (m_rqCrater l hst G f st x gr rw1 L1 L2 L3 cu L4 g1 g2 g3 g4 w hI hR c) 1 gX9_depthAnew_X9_requireCrater rfl rfl rfl (by decide +kernel) ⟨(by exact Nat.le_of_ble_eq_true rfl), (by exact Nat.le_of_ble_eq_true rfl)⟩ ⟨_, _, hx⟩ rfl rfl rfl hl.1 rfl (by exact Nat.le_of_ble_eq_true rfl) dX9_depthAnew_2 ⟨(by exact Nat.le_of_ble_eq_true rfl), (by exact Nat.le_of_ble_eq_true rfl)⟩) S hout X.2.2.2.2.2.2.2 (by exact Nat.le_of_ble_eq_true rfl) (by exact Nat.le_of_ble_eq_true rfl) (fun E hE => by rw [hE.1]; exact p11 hE.2) (fun H locs hr_2 S => ?_)
  obtain ⟨c1, rfl, clo, cup, cbd⟩ := inI_sub hr_2 (by omega)
  have nc : nN (nI c1) = c1 := nN_nI cbd
  refine lv_aload_n X.1 X.2.1 dX9_depthAnew_5 rfl (lv_at hl 0 rfl) ?_
  refine lv_iload_n X.1 X.2.1 dX9_depthAnew_6 rfl (lv_at hl 1 rfl) ?_
  refine call_ip (run_V X S (m_depthOnceMore l G f st x gr rw1 L1 L2 L3 cu L4 g1 g2 g3 g4 w hI hR c1 (by omega)) 1 gX9_depthAnew_X9_depthOnceMore rfl rfl rfl (by decide +kernel) ⟨(by exact Nat.le_of_ble_eq_true rfl), (by exact Nat.le_of_ble_eq_true rfl)⟩ ⟨_, _, hx⟩ rfl rfl rfl hl.1 rfl (by exact Nat.le_of_ble_eq_true rfl) dX9_depthAnew_7 ⟨(by exact Nat.le_of_ble_eq_true rfl), (by exact Nat.le_of_ble_eq_true rfl)⟩) S (fun r_7 H locs hr_7 S => ?_)
  subst hr_7
  refine vx_ret (e_i X hr S (Nat.le_of_ble_eq_true rfl) (Nat.le_of_ble_eq_true rfl) dX9_depthAnew_10 ?_)
  simp only [nc]
  exact ⟨k1_0 hr_2, by trivial, hR0, md_rf _ _⟩

set_option maxRecDepth 100000 in
set_option maxHeartbeats 4000000 in
/-- c_top -/
theorem c_top (l : Launch) (hst : l.stackTraces = false) (G : cx_G) (f : Wd) (st : St) (x : Nat) (hI : sInv st) (hR0 : RX G f st x) (a b : Int32) : XI l G yX9_top wsX9_top 7 111 1 6 [.ref x, .int a, .int b] f (fun r f' => (k1 (cellP a b)) = 0 ∧ r = tpI (topP st (nN a) (nN b)) (st 0 0) ∧ RX G f' st x ∧ md tX f f') (psi ["java/lang/IndexOutOfBoundsException"] (k1 (cellP a b))) := by
  refine vx_body (cc := cX9_top) (n := 5) (ret := (some .int)) (by decide +kernel) rfl (Nat.le_of_ble_eq_true rfl) ?_
  intro p0 e0 s0 m0 b0 meth0 c0 ls X hr hnm hout S hl
  have X : cxC G p0 l _ c0 cX9_top 5 m0 meth0 s0 _ RX9 wsX9_top := X
  have hl : lv_has ls 5 [(0, .ref x), (1, .int a), (2, .int b)] := hl
  have in_RX1 : ∀ w ∈ u_ws RX1 TX1 6, w ∈ wsX9_top := by decide +kernel
  have in_RX9 : ∀ w ∈ u_ws RX9 TX9 6, w ∈ wsX9_top := by decide +kernel
  obtain ⟨gr, rw1, L1, L2, L3, cu, L4, g1, g2, g3, g4, w, hR⟩ := id hR0
  obtain ⟨hi0, hi1, hi2, hi3, hi4, hi5, hi6, hi7⟩ := id hI
  obtain ⟨hx, hgr, hrw, hgd, hL1, hC, hL2, hS2, hL3, hE, hcu, hL4, hA⟩ := id hR
  refine lv_iload_n X.1 X.2.1 dX9_top_0 rfl (lv_at hl 1 rfl) ?_
  refine lv_iload_n X.1 X.2.1 dX9_top_1 rfl (lv_at hl 2 rfl) ?_
  refine xcall_v (xrun_S X S (m_rqCell l hst G f a b) 2 gX9_top_X9_requireCell rfl rfl rfl (by decide +kernel) ⟨(by exact Nat.le_of_ble_eq_true rfl), (by exact Nat.le_of_ble_eq_true rfl)⟩ rfl hl.1 rfl (by exact Nat.le_of_ble_eq_true rfl) dX9_top_2 ⟨(by exact Nat.le_of_ble_eq_true rfl), (by exact Nat.le_of_ble_eq_true rfl)⟩) S hout X.2.2.2.2.2.2.2 (by exact Nat.le_of_ble_eq_true rfl) (by exact Nat.le_of_ble_eq_true rfl) (fun E hE => by rw [hE.1]; exact p11 hE.2) (fun H locs hr_2 S => ?_)
  obtain ⟨a1, rfl, alo, aup, abd⟩ := inI_sub hr_2.1 (by omega)
  have na : nN (nI a1) = a1 := nN_nI abd
  obtain ⟨b1, rfl, blo, bup, bbd⟩ := inI_sub hr_2.2 (by omega)
  have nb : nN (nI b1) = b1 := nN_nI bbd
  refine lv_aload_n X.1 X.2.1 dX9_top_5 rfl (lv_at hl 0 rfl) ?_
  refine r_get (C := RX9) (T := TX9) (N := 6) (ref := "Craterclock") X S in_RX9 hx rfl 1 (by decide) (by decide +kernel) (fun _ h => h) rfl dX9_top_6 ?_
  refine call_ip (run_V X S (m_sizeL l G f L1 3 (st 0 0) g1 hL1) 0 gX9_top_Jx4a65c_size_8abf5 rfl rfl rfl (by decide +kernel) ⟨(by exact Nat.le_of_ble_eq_true rfl), (by exact Nat.le_of_ble_eq_true rfl)⟩ hL1.obj rfl rfl rfl hl.1 rfl (by exact Nat.le_of_ble_eq_true rfl) dX9_top_9 ⟨(by exact Nat.le_of_ble_eq_true rfl), (by exact Nat.le_of_ble_eq_true rfl)⟩) S (fun r_9 H locs hr_9 S => ?_)
  subst hr_9
  refine lv_iconst (v := 1) X.1 X.2.1 dX9_top_12 (by decide) ?_
  refine lv_isub X.1 X.2.1 dX9_top_13 ?_
  refine r_toi (y := nI (st 0 0) + (-1)) (Int32.sub_eq_add_neg _ _) ?_
  refine lv_istore_n (lv' := [(3, .int (nI (st 0 0) + (-1))), (0, .ref x), (1, .int (nI a1)), (2, .int (nI b1))]) X.1 X.2.1 dX9_top_14 rfl hl (by decide) rfl (fun ls hl => ?_)
  refine W_genQ (fun Q9 hQ9 => ?_)
  have loop : ∀ (N : Nat) (j : Nat) (H : Heap) (locs : List Loc) (ls : Array Slot), j ≤ st 0 0 → j < N → tpI (topP st a1 b1) (st 0 0) = tpI (topP st a1 b1) j → cxS G s0 f H locs → lv_has ls 5 [(0, .ref x), (1, .int (nI a1)), (2, .int (nI b1)), (3, .int (nI j + (-1)))] → W p0 l e0 ({ frames := 7, cells := 1, slots := 6, locals := 111 } : Room) s0 m0 ([.ref x, .int (nI a1), .int (nI b1)] : List Value).toArray b0 meth0 c0 H locs 1 6 Q9 (F0 m0 15 ls []) := by
    intro N
    induction N with
    | zero =>
      intro j  H locs ls hk hN htp S hl
      exfalso
      omega
    | succ N ih =>
      intro j  H locs ls hk hN htp S hl
      refine lv_iload_n X.1 X.2.1 dX9_top_15 rfl (lv_at hl 3 rfl) ?_
      refine lv_if_lt (tgt := 58) X.1 X.2.1 dX9_top_16 (by decide) (fun c_16 => ?_) (fun c_16 => ?_)
      · have hj0 : j = 0 := by
          rcases Nat.eq_zero_or_pos j with z | z
          · exact z
          · exfalso
            obtain ⟨j1, rfl⟩ : ∃ j1, j = j1 + 1 := ⟨j - 1, by omega⟩
            rw [nI_dn] at c_16
            exact nI_pos (by omega) c_16
        subst hj0
        subst hQ9
        refine lv_iconst (v := (-1)) X.1 X.2.1 dX9_top_58 (by decide) ?_
        refine vx_ret (e_i X hr S (Nat.le_of_ble_eq_true rfl) (Nat.le_of_ble_eq_true rfl) dX9_top_59 ?_)
        simp only [na, nb]
        exact ⟨k1_0 hr_2, by rw [htp]; rfl, hR0, md_rf _ _⟩
      · have hj0 : j ≠ 0 := fun z => c_16 (by rw [z]; decide)
        obtain ⟨j1, rfl⟩ : ∃ j1, j = j1 + 1 := ⟨j - 1, by omega⟩
        rw [nI_dn] at hl
        have hlt_j1 : j1 < st 0 0 := by omega
        have hcc := hi2 j1 hlt_j1
        have hr7 := hcc.2.2.2.2.2.1
        have hd7 := hcc.2.2.2.2.2.2
        refine lv_aload_n X.1 X.2.1 dX9_top_19 rfl (lv_at hl 0 rfl) ?_
        refine r_get (C := RX9) (T := TX9) (N := 6) (ref := "Craterclock") X S in_RX9 hx rfl 1 (by decide) (by decide +kernel) (fun _ h => h) rfl dX9_top_20 ?_
        refine lv_iload_n X.1 X.2.1 dX9_top_23 rfl (lv_at hl 3 rfl) ?_
        refine call_rp (run_V X S (m_get l G f L1 3 (st 0 0) j1 g1 hL1 hlt_j1 (by omega)) 1 gX9_top_Jx4a65c_get_915e3 rfl rfl rfl (by decide +kernel) ⟨(by exact Nat.le_of_ble_eq_true rfl), (by exact Nat.le_of_ble_eq_true rfl)⟩ hL1.obj rfl rfl rfl hl.1 rfl (by exact Nat.le_of_ble_eq_true rfl) dX9_top_24 ⟨(by exact Nat.le_of_ble_eq_true rfl), (by exact Nat.le_of_ble_eq_true rfl)⟩) S (fun r_24 H locs hr_24 S => ?_)
        subst hr_24
        refine r_castS X S (nm := "Craterclock$Crater") rfl (by decide +kernel) (hC j1 hlt_j1) rfl dX9_top_27 ?_
        refine lv_astore (lv' := [(4, .ref (g1 j1)), (0, .ref x), (1, .int (nI a1)), (2, .int (nI b1)), (3, .int (nI j1))]) X.1 X.2.1 dX9_top_30 hl (by decide) rfl (fun ls hl => ?_)
        refine lv_aload X.1 X.2.1 dX9_top_32 (lv_at hl 0 rfl) ?_
        refine r_get (C := RX1) (T := TX1) (N := 6) (ref := "Craterclock$Crater") X S in_RX1 (hC j1 hlt_j1) rfl 5 (by decide) (by decide +kernel) (fun _ h => h) rfl dX9_top_34 ?_
        refine lv_if_le (tgt := 52) X.1 X.2.1 dX9_top_37 (by decide) (fun c_37 => ?_) (fun c_37 => ?_)
        · refine lv_iinc (v := ((nI j1) + (-1))) (lv' := [(3, .int ((nI j1) + (-1))), (4, .ref (g1 j1)), (0, .ref x), (1, .int (nI a1)), (2, .int (nI b1))]) X.1 X.2.1 dX9_top_52 hl (k := 4) rfl rfl (by decide) rfl (fun ls hl => ?_)
          refine lv_goto (tgt := 15) X.1 X.2.1 dX9_top_55 (by decide) ?_
          exact ih j1 H locs ls (by omega) (by omega) (by rw [htp]; exact tpI_f (decide_eq_false (fun z => by have := nI_le0 (by omega) c_37; omega))) S (lv_sub hl [2, 3, 4, 0] rfl)
        · refine lv_aload X.1 X.2.1 dX9_top_40 (lv_at hl 0 rfl) ?_
          refine lv_iload_n X.1 X.2.1 dX9_top_42 rfl (lv_at hl 2 rfl) ?_
          refine lv_iload_n X.1 X.2.1 dX9_top_43 rfl (lv_at hl 3 rfl) ?_
          refine call_ip (run_V X S (m_covers l G f (g1 j1) (100 + j1) (st 2 j1) (st 3 j1) (st 4 j1) (st 5 j1) (st 6 j1) (st 7 j1) a1 b1 (hC j1 hlt_j1) hcc.1 hcc.2.1 (by omega) (by omega) (by omega)) 2 gX9_top_X1_covers rfl rfl rfl (by decide +kernel) ⟨(by exact Nat.le_of_ble_eq_true rfl), (by exact Nat.le_of_ble_eq_true rfl)⟩ ⟨_, _, (hC j1 hlt_j1)⟩ rfl rfl rfl hl.1 rfl (by exact Nat.le_of_ble_eq_true rfl) dX9_top_44 ⟨(by exact Nat.le_of_ble_eq_true rfl), (by exact Nat.le_of_ble_eq_true rfl)⟩) S (fun r_44 H locs hr_44 S => ?_)
          subst hr_44
          refine r_eqB (tgt := 52) X dX9_top_47 (by decide) (fun c_47 => ?_) (fun c_47 => ?_)
          · refine lv_iinc (v := ((nI j1) + (-1))) (lv' := [(3, .int ((nI j1) + (-1))), (4, .ref (g1 j1)), (0, .ref x), (1, .int (nI a1)), (2, .int (nI b1))]) X.1 X.2.1 dX9_top_52 hl (k := 4) rfl rfl (by decide) rfl (fun ls hl => ?_)
            refine lv_goto (tgt := 15) X.1 X.2.1 dX9_top_55 (by decide) ?_
            exact ih j1 H locs ls (by omega) (by omega) (by rw [htp]; exact tpI_f (decide_eq_false (fun z => of_decide_eq_false c_47 z.2))) S (lv_sub hl [2, 3, 4, 0] rfl)
          · subst hQ9
            refine lv_iload_n X.1 X.2.1 dX9_top_50 rfl (lv_at hl 4 rfl) ?_
            refine vx_ret (e_i X hr S (Nat.le_of_ble_eq_true rfl) (Nat.le_of_ble_eq_true rfl) dX9_top_51 ?_)
            simp only [na, nb]
            exact ⟨k1_0 hr_2, by rw [htp]; exact (tpI_t (decide_eq_true ⟨nI_gt0 c_37, of_decide_eq_true c_47⟩)).symm, hR0, md_rf _ _⟩
  exact loop (st 0 0 + 1) (st 0 0) _ _ _ (Nat.le_refl _) (by omega) rfl S (lv_sub hl [1, 2, 3, 0] rfl)

set_option maxRecDepth 100000 in
set_option maxHeartbeats 4000000 in
/-- c_topAnew -/
theorem c_topAnew (l : Launch) (hst : l.stackTraces = false) (G : cx_G) (f : Wd) (st : St) (x : Nat) (hI : sInv st) (hR0 : RX G f st x) (a b : Int32) : XI l G yX9_topAnew wsX9_topAnew 7 111 1 6 [.ref x, .int a, .int b] f (fun r f' => (k1 (cellP a b)) = 0 ∧ r = tpI (topP st (nN a) (nN b)) (st 0 0) ∧ RX G f' st x ∧ md tX f f') (psi ["java/lang/IndexOutOfBoundsException"] (k1 (cellP a b))) := by
  refine vx_body (cc := cX9_topAnew) (n := 4) (ret := (some .int)) (by decide +kernel) rfl (Nat.le_of_ble_eq_true rfl) ?_
  intro p0 e0 s0 m0 b0 meth0 c0 ls X hr hnm hout S hl
  have X : cxC G p0 l _ c0 cX9_topAnew 4 m0 meth0 s0 _ RX9 wsX9_topAnew := X
  have hl : lv_has ls 4 [(0, .ref x), (1, .int a), (2, .int b)] := hl
  have in_RX9 : ∀ w ∈ u_ws RX9 TX9 6, w ∈ wsX9_topAnew := by decide +kernel
  obtain ⟨gr, rw1, L1, L2, L3, cu, L4, g1, g2, g3, g4, w, hR⟩ := id hR0
  obtain ⟨hi0, hi1, hi2, hi3, hi4, hi5, hi6, hi7⟩ := id hI
  obtain ⟨hx, hgr, hrw, hgd, hL1, hC, hL2, hS2, hL3, hE, hcu, hL4, hA⟩ := id hR
  refine lv_iload_n X.1 X.2.1 dX9_topAnew_0 rfl (lv_at hl 1 rfl) ?_
  refine lv_iload_n X.1 X.2.1 dX9_topAnew_1 rfl (lv_at hl 2 rfl) ?_
  refine xcall_v (xrun_S X S (m_rqCell l hst G f a b) 2 gX9_topAnew_X9_requireCell rfl rfl rfl (by decide +kernel) ⟨(by exact Nat.le_of_ble_eq_true rfl), (by exact Nat.le_of_ble_eq_true rfl)⟩ rfl hl.1 rfl (by exact Nat.le_of_ble_eq_true rfl) dX9_topAnew_2 ⟨(by exact Nat.le_of_ble_eq_true rfl), (by exact Nat.le_of_ble_eq_true rfl)⟩) S hout X.2.2.2.2.2.2.2 (by exact Nat.le_of_ble_eq_true rfl) (by exact Nat.le_of_ble_eq_true rfl) (fun E hE => by rw [hE.1]; exact p11 hE.2) (fun H locs hr_2 S => ?_)
  obtain ⟨a1, rfl, alo, aup, abd⟩ := inI_sub hr_2.1 (by omega)
  have na : nN (nI a1) = a1 := nN_nI abd
  obtain ⟨b1, rfl, blo, bup, bbd⟩ := inI_sub hr_2.2 (by omega)
  have nb : nN (nI b1) = b1 := nN_nI bbd
  refine lv_aload_n X.1 X.2.1 dX9_topAnew_5 rfl (lv_at hl 0 rfl) ?_
  refine r_get (C := RX9) (T := TX9) (N := 6) (ref := "Craterclock") X S in_RX9 hx rfl 1 (by decide) (by decide +kernel) (fun _ h => h) rfl dX9_topAnew_6 ?_
  refine call_ip (run_V X S (m_sizeL l G f L1 3 (st 0 0) g1 hL1) 0 gX9_topAnew_Jx4a65c_size_8abf5 rfl rfl rfl (by decide +kernel) ⟨(by exact Nat.le_of_ble_eq_true rfl), (by exact Nat.le_of_ble_eq_true rfl)⟩ hL1.obj rfl rfl rfl hl.1 rfl (by exact Nat.le_of_ble_eq_true rfl) dX9_topAnew_9 ⟨(by exact Nat.le_of_ble_eq_true rfl), (by exact Nat.le_of_ble_eq_true rfl)⟩) S (fun r_9 H locs hr_9 S => ?_)
  subst hr_9
  refine lv_iconst (v := 1) X.1 X.2.1 dX9_topAnew_12 (by decide) ?_
  refine lv_isub X.1 X.2.1 dX9_topAnew_13 ?_
  refine r_toi (y := nI (st 0 0) + (-1)) (Int32.sub_eq_add_neg _ _) ?_
  refine lv_istore_n (lv' := [(3, .int (nI (st 0 0) + (-1))), (0, .ref x), (1, .int (nI a1)), (2, .int (nI b1))]) X.1 X.2.1 dX9_topAnew_14 rfl hl (by decide) rfl (fun ls hl => ?_)
  refine W_genQ (fun Q9 hQ9 => ?_)
  have loop : ∀ (N : Nat) (j : Nat) (H : Heap) (locs : List Loc) (ls : Array Slot), j ≤ st 0 0 → j < N → tpI (topP st a1 b1) (st 0 0) = tpI (topP st a1 b1) j → cxS G s0 f H locs → lv_has ls 4 [(0, .ref x), (1, .int (nI a1)), (2, .int (nI b1)), (3, .int (nI j + (-1)))] → W p0 l e0 ({ frames := 7, cells := 1, slots := 6, locals := 111 } : Room) s0 m0 ([.ref x, .int (nI a1), .int (nI b1)] : List Value).toArray b0 meth0 c0 H locs 1 6 Q9 (F0 m0 15 ls []) := by
    intro N
    induction N with
    | zero =>
      intro j  H locs ls hk hN htp S hl
      exfalso
      omega
    | succ N ih =>
      intro j  H locs ls hk hN htp S hl
      refine lv_iload_n X.1 X.2.1 dX9_topAnew_15 rfl (lv_at hl 3 rfl) ?_
      refine lv_if_lt (tgt := 54) X.1 X.2.1 dX9_topAnew_16 (by decide) (fun c_16 => ?_) (fun c_16 => ?_)
      · have hj0 : j = 0 := by
          rcases Nat.eq_zero_or_pos j with z | z
          · exact z
          · exfalso
            obtain ⟨j1, rfl⟩ : ∃ j1, j = j1 + 1 := ⟨j - 1, by omega⟩
            rw [nI_dn] at c_16
            exact nI_pos (by omega) c_16
        subst hj0
        subst hQ9
        refine lv_iconst (v := (-1)) X.1 X.2.1 dX9_topAnew_54 (by decide) ?_
        refine vx_ret (e_i X hr S (Nat.le_of_ble_eq_true rfl) (Nat.le_of_ble_eq_true rfl) dX9_topAnew_55 ?_)
        simp only [na, nb]
        exact ⟨k1_0 hr_2, by rw [htp]; rfl, hR0, md_rf _ _⟩
      · have hj0 : j ≠ 0 := fun z => c_16 (by rw [z]; decide)
        obtain ⟨j1, rfl⟩ : ∃ j1, j = j1 + 1 := ⟨j - 1, by omega⟩
        rw [nI_dn] at hl
        have hlt_j1 : j1 < st 0 0 := by omega
        have hcc := hi2 j1 hlt_j1
        have hr7 := hcc.2.2.2.2.2.1
        have hd7 := hcc.2.2.2.2.2.2
        refine lv_aload_n X.1 X.2.1 dX9_topAnew_19 rfl (lv_at hl 0 rfl) ?_
        refine r_get (C := RX9) (T := TX9) (N := 6) (ref := "Craterclock") X S in_RX9 hx rfl 1 (by decide) (by decide +kernel) (fun _ h => h) rfl dX9_topAnew_20 ?_
        refine lv_iload_n X.1 X.2.1 dX9_topAnew_23 rfl (lv_at hl 3 rfl) ?_
        refine call_rp (run_V X S (m_get l G f L1 3 (st 0 0) j1 g1 hL1 hlt_j1 (by omega)) 1 gX9_topAnew_Jx4a65c_get_915e3 rfl rfl rfl (by decide +kernel) ⟨(by exact Nat.le_of_ble_eq_true rfl), (by exact Nat.le_of_ble_eq_true rfl)⟩ hL1.obj rfl rfl rfl hl.1 rfl (by exact Nat.le_of_ble_eq_true rfl) dX9_topAnew_24 ⟨(by exact Nat.le_of_ble_eq_true rfl), (by exact Nat.le_of_ble_eq_true rfl)⟩) S (fun r_24 H locs hr_24 S => ?_)
        subst hr_24
        refine r_castS X S (nm := "Craterclock$Crater") rfl (by decide +kernel) (hC j1 hlt_j1) rfl dX9_topAnew_27 ?_
        refine lv_iload_n X.1 X.2.1 dX9_topAnew_30 rfl (lv_at hl 1 rfl) ?_
        refine lv_iload_n X.1 X.2.1 dX9_topAnew_31 rfl (lv_at hl 2 rfl) ?_
        refine call_ip (run_V X S (m_covers l G f (g1 j1) (100 + j1) (st 2 j1) (st 3 j1) (st 4 j1) (st 5 j1) (st 6 j1) (st 7 j1) a1 b1 (hC j1 hlt_j1) hcc.1 hcc.2.1 (by omega) (by omega) (by omega)) 2 gX9_topAnew_X1_covers rfl rfl rfl (by decide +kernel) ⟨(by exact Nat.le_of_ble_eq_true rfl), (by exact Nat.le_of_ble_eq_true rfl)⟩ ⟨_, _, (hC j1 hlt_j1)⟩ rfl rfl rfl hl.1 rfl (by exact Nat.le_of_ble_eq_true rfl) dX9_topAnew_32 ⟨(by exact Nat.le_of_ble_eq_true rfl), (by exact Nat.le_of_ble_eq_true rfl)⟩) S (fun r_32 H locs hr_32 S => ?_)
        subst hr_32
        refine r_eqB (tgt := 48) X dX9_topAnew_35 (by decide) (fun c_35 => ?_) (fun c_35 => ?_)
        · refine lv_iinc (v := ((nI j1) + (-1))) (lv' := [(3, .int ((nI j1) + (-1))), (0, .ref x), (1, .int (nI a1)), (2, .int (nI b1))]) X.1 X.2.1 dX9_topAnew_48 hl (k := 3) rfl rfl (by decide) rfl (fun ls hl => ?_)
          refine lv_goto (tgt := 15) X.1 X.2.1 dX9_topAnew_51 (by decide) ?_
          exact ih j1 H locs ls (by omega) (by omega) (by rw [htp]; exact tpI_f (decide_eq_false (fun z => of_decide_eq_false c_35 z.2))) S (lv_sub hl [1, 2, 3, 0] rfl)
        · refine lv_aload_n X.1 X.2.1 dX9_topAnew_38 rfl (lv_at hl 0 rfl) ?_
          refine lv_iload_n X.1 X.2.1 dX9_topAnew_39 rfl (lv_at hl 3 rfl) ?_
          refine call_ip (run_V X S (m_depthOnceMore l G f st x gr rw1 L1 L2 L3 cu L4 g1 g2 g3 g4 w hI hR j1 hlt_j1) 1 gX9_topAnew_X9_depthOnceMore rfl rfl rfl (by decide +kernel) ⟨(by exact Nat.le_of_ble_eq_true rfl), (by exact Nat.le_of_ble_eq_true rfl)⟩ ⟨_, _, hx⟩ rfl rfl rfl hl.1 rfl (by exact Nat.le_of_ble_eq_true rfl) dX9_topAnew_40 ⟨(by exact Nat.le_of_ble_eq_true rfl), (by exact Nat.le_of_ble_eq_true rfl)⟩) S (fun r_40 H locs hr_40 S => ?_)
          subst hr_40
          refine lv_if_le (tgt := 48) X.1 X.2.1 dX9_topAnew_43 (by decide) (fun c_43 => ?_) (fun c_43 => ?_)
          · refine lv_iinc (v := ((nI j1) + (-1))) (lv' := [(3, .int ((nI j1) + (-1))), (0, .ref x), (1, .int (nI a1)), (2, .int (nI b1))]) X.1 X.2.1 dX9_topAnew_48 hl (k := 3) rfl rfl (by decide) rfl (fun ls hl => ?_)
            refine lv_goto (tgt := 15) X.1 X.2.1 dX9_topAnew_51 (by decide) ?_
            exact ih j1 H locs ls (by omega) (by omega) (by rw [htp]; exact tpI_f (decide_eq_false (fun z => by have := nI_le0 (by omega) c_43; omega))) S (lv_sub hl [1, 2, 3, 0] rfl)
          · subst hQ9
            refine lv_iload_n X.1 X.2.1 dX9_topAnew_46 rfl (lv_at hl 3 rfl) ?_
            refine vx_ret (e_i X hr S (Nat.le_of_ble_eq_true rfl) (Nat.le_of_ble_eq_true rfl) dX9_topAnew_47 ?_)
            simp only [na, nb]
            exact ⟨k1_0 hr_2, by rw [htp]; exact (tpI_t (decide_eq_true ⟨nI_gt0 c_43, of_decide_eq_true c_35⟩)).symm, hR0, md_rf _ _⟩
  exact loop (st 0 0 + 1) (st 0 0) _ _ _ (Nat.le_refl _) (by omega) rfl S (lv_sub hl [1, 2, 3, 0] rfl)
