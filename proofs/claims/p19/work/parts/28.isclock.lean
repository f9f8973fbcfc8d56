/-! the law: isClock -/
theorem age_all {st : St} (hI : sInv st) {d k0 : Nat} (hk0 : k0 < st 0 3) (hd : d ≤ st 11 k0) (hlt : ∀ j, j < k0 → st 11 j < d) : ageAt st d k0 ≤ 5000000000 ∧ ∀ k, k < st 0 3 → (d < st 11 k → ageAt st d k0 ≤ st 10 k) ∧ (st 11 k < d → st 10 k ≤ ageAt st d k0) ∧ (d = st 11 k → ageAt st d k0 = st 10 k) := by
  have hb := hI.2.2.2.2.2.1
  have mono : ∀ i j, i ≤ j → j < st 0 3 → st 10 i ≤ st 10 j ∧ st 11 i ≤ st 11 j := fun i j hij hj => by
    rcases Nat.lt_or_ge i j with q | q
    · have := anch_lt st hI q hj
      omega
    · rw [show i = j by omega]
      exact ⟨Nat.le_refl _, Nat.le_refl _⟩
  have strict : ∀ i j, i < j → j < st 0 3 → st 11 i < st 11 j := fun i j hij hj => (anch_lt st hI hij hj).2
  rcases Nat.eq_zero_or_pos k0 with z | z
  · subst z
    have e : ageAt st d 0 = st 10 0 * d / st 11 0 := if_pos rfl
    have h1 : 1 ≤ st 11 0 := (hb 0 hk0).2.2.1
    have hle : st 10 0 * d / st 11 0 ≤ st 10 0 := by
      calc st 10 0 * d / st 11 0 ≤ st 10 0 * st 11 0 / st 11 0 := Nat.div_le_div_right (Nat.mul_le_mul_left _ hd)
        _ = st 10 0 := Nat.mul_div_cancel _ (by omega)
    rw [e]
    refine ⟨Nat.le_trans hle (hb 0 hk0).2.1, fun k hk => ⟨fun _ => Nat.le_trans hle (mono 0 k (by omega) hk).1, fun q => ?_, fun q => ?_⟩⟩
    · have := (mono 0 k (by omega) hk).2
      omega
    · have hk0 : k = 0 := by
        rcases Nat.eq_zero_or_pos k with r | r
        · exact r
        · have := strict 0 k r hk
          omega
      subst hk0
      rw [q]
      exact Nat.mul_div_cancel _ (by omega)
  · obtain ⟨j, rfl⟩ : ∃ j, k0 = j + 1 := ⟨k0 - 1, by omega⟩
    have e : ageAt st d (j + 1) = st 10 j + (st 10 (j + 1) - st 10 j) * (d - st 11 j) / (st 11 (j + 1) - st 11 j) := if_neg (by omega)
    have hj := hlt j (by omega)
    have hs := strict j (j + 1) (by omega) hk0
    have hm := (mono j (j + 1) (by omega) hk0).1
    have hle : (st 10 (j + 1) - st 10 j) * (d - st 11 j) / (st 11 (j + 1) - st 11 j) ≤ st 10 (j + 1) - st 10 j := by
      calc (st 10 (j + 1) - st 10 j) * (d - st 11 j) / (st 11 (j + 1) - st 11 j) ≤ (st 10 (j + 1) - st 10 j) * (st 11 (j + 1) - st 11 j) / (st 11 (j + 1) - st 11 j) := Nat.div_le_div_right (Nat.mul_le_mul_left _ (by omega))
        _ = st 10 (j + 1) - st 10 j := Nat.mul_div_cancel _ (by omega)
    have hb2 := (hb (j + 1) hk0).2.1
    rw [e]
    refine ⟨by omega, fun k hk => ⟨fun q => ?_, fun q => ?_, fun q => ?_⟩⟩
    · have hkj : j + 1 ≤ k := by
        rcases Nat.lt_or_ge k (j + 1) with r | r
        · have := (mono k j (by omega) (by omega)).2
          omega
        · exact r
      have := (mono (j + 1) k hkj hk).1
      omega
    · have hkj : k ≤ j := by
        rcases Nat.lt_or_ge j k with r | r
        · have := (mono (j + 1) k (by omega) hk).2
          omega
        · exact r
      exact Nat.le_trans (mono k j hkj (by omega)).1 (Nat.le_add_right _ _)
    · have hkj : k = j + 1 := by
        rcases Nat.lt_trichotomy k (j + 1) with r | r | r
        · have := hlt k r
          omega
        · exact r
        · have := strict (j + 1) k r hk
          omega
      subst hkj
      have hd2 : d - st 11 j = st 11 (j + 1) - st 11 j := by omega
      rw [hd2, Nat.mul_div_cancel _ (by omega)]
      omega
theorem age_first {st : St} {d k0 : Nat} (hk0 : k0 < st 0 3) (hlt : ∀ j, j < k0 → st 11 j < d) (hd0 : d ≤ st 11 0) : ageAt st d k0 = st 10 0 * d / st 11 0 := by
  have : k0 = 0 := by
    rcases Nat.eq_zero_or_pos k0 with z | z
    · exact z
    · have := hlt 0 z
      omega
  subst this
  exact if_pos rfl
theorem seen_t {st : St} {q e x0 y0 tx ty k : Nat} (h : q ≤ st 5 k ∧ (x0 ≤ st 2 k ∧ st 2 k ≤ tx ∧ y0 ≤ st 3 k ∧ st 3 k ≤ ty) ∧ 0 < st 7 k ∧ 10 - st 9 e ≤ st 7 k) : cn (seenP st q e x0 y0 tx ty) (k + 1) = cn (seenP st q e x0 y0 tx ty) k + 1 := cn_t (decide_eq_true h)
theorem seen_f {st : St} {q e x0 y0 tx ty k : Nat} (h : ¬ (q ≤ st 5 k ∧ (x0 ≤ st 2 k ∧ st 2 k ≤ tx ∧ y0 ≤ st 3 k ∧ st 3 k ≤ ty) ∧ 0 < st 7 k ∧ 10 - st 9 e ≤ st 7 k)) : cn (seenP st q e x0 y0 tx ty) (k + 1) = cn (seenP st q e x0 y0 tx ty) k := cn_f (decide_eq_false h)
theorem lack_e {st : St} {d : Nat} : (st 0 3 < 2 → lackN st d = 1) ∧ (¬ st 0 3 < 2 → st 11 (st 0 3 - 1) < d → lackN st d = 2) ∧ (¬ st 0 3 < 2 → ¬ st 11 (st 0 3 - 1) < d → lackN st d = 0) := by
  unfold lackN
  refine ⟨fun h => if_pos h, fun h i => by rw [if_neg h, if_pos i], fun h i => by rw [if_neg h, if_neg i]⟩
set_option maxRecDepth 100000 in
set_option maxHeartbeats 4000000 in
/-- isClock -/
theorem m_isClock (l : Launch) (hst : l.stackTraces = false) (G : cx_G) (f : Wd) (st : St) (x : Nat) (hI : sInv st) (hR0 : RX G f st x) (cc ee aa : Nat) (C E : Nat → Int32) (A : Nat → Int64) (hcc : f cc = some (2001, eI G 5 C)) (hee : f ee = some (2004, eI G 6 E)) (haa : f aa = some (2005, eJ G 16 A)) (hC0 : C 0 = nI (st 0 0)) (hC3 : C 3 = nI (st 0 2)) (hC4 : C 4 = nI (st 0 3)) (hE : ∀ i, i < st 0 2 → E i = nI (st 9 i)) (hA : ∀ i, i < st 0 3 → A i = lN (st 10 i) ∧ A (8 + i) = lN (st 11 i)) (h57 : st 0 0 ≤ 57) (z y : Nat) (hz : z < 2 ^ 30) (hy : y < 2 ^ 30) : QI l G yL_isClock wsL_isClock 10 267 900 5400 [.ref x, .int (nI z), .int (nI y), .ref cc, .ref ee, .ref aa] f (fun v => v = 1) := by
  refine cx_body (cc := cL_isClock) (n := 21) (ret := (some .boolean)) (by decide +kernel) rfl (Nat.le_of_ble_eq_true rfl) ?_
  intro p0 e0 s0 m0 b0 meth0 c0 ls X hr hnm S hl
  have X : cxC G p0 l _ c0 cL_isClock 21 m0 meth0 s0 _ RL wsL_isClock := X
  have hl : lv_has ls 21 [(0, .ref x), (1, .int (nI z)), (2, .int (nI y)), (3, .ref cc), (4, .ref ee), (5, .ref aa)] := hl
  have h6 := hI.1.2.2.1
  have h8 := hI.1.2.2.2.1
  refine lv_aload_n X.1 X.2.1 dL_isClock_0 rfl (lv_at hl 3 rfl) ?_
  refine lv_iconst (v := 3) X.1 X.2.1 dL_isClock_1 (by decide) ?_
  refine n_iald (i := 3) (v := (nI (st 0 2))) X S hcc hC3 dL_isClock_2 ?_
  refine z_ne (a := st 0 2) (tgt := 29) X dL_isClock_3 (by decide) (fun n_3 => ?_) (fun n_3 => ?_)
  · refine lv_iload_n X.1 X.2.1 dL_isClock_29 rfl (lv_at hl 1 rfl) ?_
    refine lv_aload_n X.1 X.2.1 dL_isClock_30 rfl (lv_at hl 3 rfl) ?_
    refine lv_iconst (v := 3) X.1 X.2.1 dL_isClock_31 (by decide) ?_
    refine n_iald (i := 3) (v := (nI (st 0 2))) X S hcc hC3 dL_isClock_32 ?_
    refine n_rem (a := z) (b := st 0 2) X dL_isClock_33 ?_
    obtain ⟨ey, hey, eey⟩ : ∃ z9 : Nat, (z9 < st 0 2) ∧ nI (z % (st 0 2)) = nI z9 := ⟨_, Nat.mod_lt _ (by omega), rfl⟩
    refine r_toi eey ?_
    refine lv_istore (lv' := [(6, .int (nI ey)), (0, .ref x), (1, .int (nI z)), (2, .int (nI y)), (3, .ref cc), (4, .ref ee), (5, .ref aa)]) X.1 X.2.1 dL_isClock_34 hl (by decide) rfl (fun ls hl => ?_)
    refine lv_iload_n X.1 X.2.1 dL_isClock_36 rfl (lv_at hl 3 rfl) ?_
    refine lv_bipush (v := 16) X.1 X.2.1 dL_isClock_37 (by decide) ?_
    refine n_rem (a := y) (b := 16) X dL_isClock_39 ?_
    obtain ⟨x0, hx0, ex0⟩ : ∃ z9 : Nat, (z9 < 16) ∧ nI (y % 16) = nI z9 := ⟨_, Nat.mod_lt _ (by omega), rfl⟩
    refine r_toi ex0 ?_
    refine lv_istore (lv' := [(7, .int (nI x0)), (6, .int (nI ey)), (0, .ref x), (1, .int (nI z)), (2, .int (nI y)), (3, .ref cc), (4, .ref ee), (5, .ref aa)]) X.1 X.2.1 dL_isClock_40 hl (by decide) rfl (fun ls hl => ?_)
    refine lv_iload_n X.1 X.2.1 dL_isClock_42 rfl (lv_at hl 4 rfl) ?_
    refine lv_bipush (v := 16) X.1 X.2.1 dL_isClock_43 (by decide) ?_
    refine n_div (a := y) (b := 16) X dL_isClock_45 ?_
    refine lv_bipush (v := 16) X.1 X.2.1 dL_isClock_46 (by decide) ?_
    refine n_rem (a := y / 16) (b := 16) X dL_isClock_48 ?_
    obtain ⟨y0, hy0, ey0⟩ : ∃ z9 : Nat, (z9 < 16) ∧ nI ((y / 16) % 16) = nI z9 := ⟨_, Nat.mod_lt _ (by omega), rfl⟩
    refine r_toi ey0 ?_
    refine lv_istore (lv' := [(8, .int (nI y0)), (7, .int (nI x0)), (6, .int (nI ey)), (0, .ref x), (1, .int (nI z)), (2, .int (nI y)), (3, .ref cc), (4, .ref ee), (5, .ref aa)]) X.1 X.2.1 dL_isClock_49 hl (by decide) rfl (fun ls hl => ?_)
    refine lv_iload X.1 X.2.1 dL_isClock_51 (lv_at hl 1 rfl) ?_
    refine lv_iload_n X.1 X.2.1 dL_isClock_53 rfl (lv_at hl 5 rfl) ?_
    refine lv_sipush (v := 256) X.1 X.2.1 dL_isClock_54 (by decide) ?_
    refine n_div (a := y) (b := 256) X dL_isClock_57 ?_
    refine lv_bipush (v := 16) X.1 X.2.1 dL_isClock_58 (by decide) ?_
    refine lv_iload X.1 X.2.1 dL_isClock_60 (lv_at hl 1 rfl) ?_
    refine n_sub (a := 16) (b := x0) X dL_isClock_62 ?_
    refine n_rem (a := y / 256) (b := 16 - x0) X dL_isClock_63 ?_
    refine n_add (a := x0) (b := (y / 256) % (16 - x0)) X dL_isClock_64 ?_
    have htx0 := Nat.mod_lt (y / 256) (show 0 < 16 - x0 by omega)
    obtain ⟨tx, htx, etx⟩ : ∃ z9 : Nat, (x0 ≤ z9 ∧ z9 < 16) ∧ nI (x0 + ((y / 256) % (16 - x0))) = nI z9 := ⟨_, ⟨by omega, by omega⟩, rfl⟩
    refine r_toi etx ?_
    refine lv_istore (lv' := [(9, .int (nI tx)), (8, .int (nI y0)), (7, .int (nI x0)), (6, .int (nI ey)), (0, .ref x), (1, .int (nI z)), (2, .int (nI y)), (3, .ref cc), (4, .ref ee), (5, .ref aa)]) X.1 X.2.1 dL_isClock_65 hl (by decide) rfl (fun ls hl => ?_)
    refine lv_iload X.1 X.2.1 dL_isClock_67 (lv_at hl 1 rfl) ?_
    refine lv_iload_n X.1 X.2.1 dL_isClock_69 rfl (lv_at hl 6 rfl) ?_
    refine lv_sipush (v := 4096) X.1 X.2.1 dL_isClock_70 (by decide) ?_
    refine n_div (a := y) (b := 4096) X dL_isClock_73 ?_
    refine lv_bipush (v := 16) X.1 X.2.1 dL_isClock_74 (by decide) ?_
    refine lv_iload X.1 X.2.1 dL_isClock_76 (lv_at hl 1 rfl) ?_
    refine n_sub (a := 16) (b := y0) X dL_isClock_78 ?_
    refine n_rem (a := y / 4096) (b := 16 - y0) X dL_isClock_79 ?_
    refine n_add (a := y0) (b := (y / 4096) % (16 - y0)) X dL_isClock_80 ?_
    have hty0 := Nat.mod_lt (y / 4096) (show 0 < 16 - y0 by omega)
    obtain ⟨ty, hty, ety⟩ : ∃ z9 : Nat, (y0 ≤ z9 ∧ z9 < 16) ∧ nI (y0 + ((y / 4096) % (16 - y0))) = nI z9 := ⟨_, ⟨by omega, by omega⟩, rfl⟩
    refine r_toi ety ?_
    refine lv_istore (lv' := [(10, .int (nI ty)), (9, .int (nI tx)), (8, .int (nI y0)), (7, .int (nI x0)), (6, .int (nI ey)), (0, .ref x), (1, .int (nI z)), (2, .int (nI y)), (3, .ref cc), (4, .ref ee), (5, .ref aa)]) X.1 X.2.1 dL_isClock_81 hl (by decide) rfl (fun ls hl => ?_)
    refine lv_iconst (v := 1) X.1 X.2.1 dL_isClock_83 (by decide) ?_
    refine lv_iload_n X.1 X.2.1 dL_isClock_84 rfl (lv_at hl 6 rfl) ?_
    refine lv_bipush (v := 8) X.1 X.2.1 dL_isClock_85 (by decide) ?_
    refine n_div (a := z) (b := 8) X dL_isClock_87 ?_
    refine lv_bipush (v := 7) X.1 X.2.1 dL_isClock_88 (by decide) ?_
    refine n_rem (a := z / 8) (b := 7) X dL_isClock_90 ?_
    refine n_add (a := 1) (b := (z / 8) % 7) X dL_isClock_91 ?_
    obtain ⟨q, hq, eq⟩ : ∃ z9 : Nat, (1 ≤ z9 ∧ z9 ≤ 7) ∧ nI (1 + ((z / 8) % 7)) = nI z9 := ⟨_, (by omega), rfl⟩
    refine r_toi eq ?_
    refine lv_istore (lv' := [(11, .int (nI q)), (10, .int (nI ty)), (9, .int (nI tx)), (8, .int (nI y0)), (7, .int (nI x0)), (6, .int (nI ey)), (0, .ref x), (1, .int (nI z)), (2, .int (nI y)), (3, .ref cc), (4, .ref ee), (5, .ref aa)]) X.1 X.2.1 dL_isClock_92 hl (by decide) rfl (fun ls hl => ?_)
    refine lv_iconst (v := 0) X.1 X.2.1 dL_isClock_94 (by decide) ?_
    refine lv_istore (lv' := [(12, .int 0), (11, .int (nI q)), (10, .int (nI ty)), (9, .int (nI tx)), (8, .int (nI y0)), (7, .int (nI x0)), (6, .int (nI ey)), (0, .ref x), (1, .int (nI z)), (2, .int (nI y)), (3, .ref cc), (4, .ref ee), (5, .ref aa)]) X.1 X.2.1 dL_isClock_95 hl (by decide) rfl (fun ls hl => ?_)
    refine lv_iconst (v := 0) X.1 X.2.1 dL_isClock_97 (by decide) ?_
    refine lv_istore (lv' := [(13, .int 0), (12, .int 0), (11, .int (nI q)), (10, .int (nI ty)), (9, .int (nI tx)), (8, .int (nI y0)), (7, .int (nI x0)), (6, .int (nI ey)), (0, .ref x), (1, .int (nI z)), (2, .int (nI y)), (3, .ref cc), (4, .ref ee), (5, .ref aa)]) X.1 X.2.1 dL_isClock_98 hl (by decide) rfl (fun ls hl => ?_)
    refine lv_iconst (v := 0) X.1 X.2.1 dL_isClock_100 (by decide) ?_
    refine lv_istore (lv' := [(14, .int 0), (13, .int 0), (12, .int 0), (11, .int (nI q)), (10, .int (nI ty)), (9, .int (nI tx)), (8, .int (nI y0)), (7, .int (nI x0)), (6, .int (nI ey)), (0, .ref x), (1, .int (nI z)), (2, .int (nI y)), (3, .ref cc), (4, .ref ee), (5, .ref aa)]) X.1 X.2.1 dL_isClock_101 hl (by decide) rfl (fun ls hl => ?_)
    obtain ⟨htx1, htx2⟩ := htx
    obtain ⟨hty1, hty2⟩ := hty
    obtain ⟨hq1, hq7⟩ := hq
    refine W_genQ (fun Q9 hQ9 => ?_)
    have loop : ∀ (N : Nat) (k : Nat) (ck : Nat) (sk : Nat) (H : Heap) (locs : List Loc) (ls : Array Slot), k ≤ st 0 0 → st 0 0 < k + N → ck ≤ 14 * k → sk ≤ 84 * k → cxS G s0 f H locs → lv_has ls 21 [(0, .ref x), (1, .int (nI z)), (2, .int (nI y)), (3, .ref cc), (4, .ref ee), (5, .ref aa), (6, .int (nI ey)), (7, .int (nI x0)), (8, .int (nI y0)), (9, .int (nI tx)), (10, .int (nI ty)), (11, .int (nI q)), (12, .int (nI (cn (seenP st q ey x0 y0 tx ty) k))), (13, .int (nI (cn (seenP st 1 ey x0 y0 tx ty) k))), (14, .int (nI k))] → W p0 l e0 ({ frames := 10, cells := 900, slots := 5400, locals := 267 } : Room) s0 m0 ([.ref x, .int (nI z), .int (nI y), .ref cc, .ref ee, .ref aa] : List Value).toArray b0 meth0 c0 H locs ck sk Q9 (F0 m0 103 ls []) := by
      intro N
      induction N with
      | zero =>
        intro k ck sk  H locs ls hk hN hck hsk S hl
        exfalso
        omega
      | succ N ih =>
        intro k ck sk  H locs ls hk hN hck hsk S hl
        refine lv_iload X.1 X.2.1 dL_isClock_103 (lv_at hl 14 rfl) ?_
        refine lv_aload_n X.1 X.2.1 dL_isClock_105 rfl (lv_at hl 3 rfl) ?_
        refine lv_iconst (v := 0) X.1 X.2.1 dL_isClock_106 (by decide) ?_
        refine n_iald (i := 0) (v := (nI (st 0 0))) X S hcc hC0 dL_isClock_107 ?_
        refine n_ge (a := k) (b := st 0 0) (tgt := 242) X dL_isClock_108 (by decide) (fun n_108 => ?_) (fun n_108 => ?_)
        · have hkn : k = st 0 0 := by omega
          rw [hkn] at hl
          clear ih
          have hb1 := cn_le (seenP st 1 ey x0 y0 tx ty) (st 0 0)
          have hb2 := cn_le (seenP st q ey x0 y0 tx ty) (st 0 0)
          have har0 : 0 < (tx - x0 + 1) * (ty - y0 + 1) := Nat.mul_pos (by omega) (by omega)
          have har1 : (tx - x0 + 1) * (ty - y0 + 1) ≤ 16 * 16 := Nat.mul_le_mul (by omega) (by omega)
          refine lv_iload X.1 X.2.1 dL_isClock_242 (lv_at hl 13 rfl) ?_
          refine n_i2l (a := cn (seenP st 1 ey x0 y0 tx ty) (st 0 0)) X dL_isClock_244 ?_
          refine r_ldc2 (v := 256000) X (by decide +kernel) dL_isClock_245 ?_
          refine n_lmul (a := cn (seenP st 1 ey x0 y0 tx ty) (st 0 0)) (b := 256000) X dL_isClock_248 ?_
          refine lv_iload X.1 X.2.1 dL_isClock_249 (lv_at hl 9 rfl) ?_
          refine lv_iload X.1 X.2.1 dL_isClock_251 (lv_at hl 7 rfl) ?_
          refine n_sub (a := tx) (b := x0) X dL_isClock_253 ?_
          refine lv_iconst (v := 1) X.1 X.2.1 dL_isClock_254 (by decide) ?_
          refine n_add (a := tx - x0) (b := 1) X dL_isClock_255 ?_
          refine lv_iload X.1 X.2.1 dL_isClock_256 (lv_at hl 10 rfl) ?_
          refine lv_iload X.1 X.2.1 dL_isClock_258 (lv_at hl 8 rfl) ?_
          refine n_sub (a := ty) (b := y0) X dL_isClock_260 ?_
          refine lv_iconst (v := 1) X.1 X.2.1 dL_isClock_261 (by decide) ?_
          refine n_add (a := ty - y0) (b := 1) X dL_isClock_262 ?_
          refine n_mul (a := (tx - x0) + 1) (b := (ty - y0) + 1) X dL_isClock_263 ?_
          refine n_i2l (a := ((tx - x0) + 1) * ((ty - y0) + 1)) X dL_isClock_264 ?_
          refine n_ldiv (a := (cn (seenP st 1 ey x0 y0 tx ty) (st 0 0)) * 256000) (b := ((tx - x0) + 1) * ((ty - y0) + 1)) X dL_isClock_265 ?_
          obtain ⟨d, ed⟩ : ∃ z9 : Nat, z9 = densN st ey x0 y0 tx ty := ⟨_, rfl⟩
          have hd62 : d < 2 ^ 62 := by rw [ed]; exact dens_lt hI _ _ _ _ _
          refine r_tol (show lN (((cn (seenP st 1 ey x0 y0 tx ty) (st 0 0)) * 256000) / (((tx - x0) + 1) * ((ty - y0) + 1))) = lN d by rw [ed]; rfl) ?_
          refine lv_lstore (lv' := [(14, .long (lN d)), (0, .ref x), (1, .int (nI z)), (2, .int (nI y)), (3, .ref cc), (4, .ref ee), (5, .ref aa), (6, .int (nI ey)), (7, .int (nI x0)), (8, .int (nI y0)), (9, .int (nI tx)), (10, .int (nI ty)), (11, .int (nI q)), (12, .int (nI (cn (seenP st q ey x0 y0 tx ty) (st 0 0)))), (13, .int (nI (cn (seenP st 1 ey x0 y0 tx ty) (st 0 0))))]) X.1 X.2.1 dL_isClock_266 hl (by decide) rfl (fun ls hl => ?_)
          have hlk2 : lackN st d ≤ 2 := by unfold lackN; split; omega; split <;> omega
          have J301 : ∀ (H : Heap) (locs : List Loc) (ls : Array Slot), cxS G s0 f H locs → lv_has ls 21 [(14, .long (lN d)), (0, .ref x), (1, .int (nI z)), (2, .int (nI y)), (3, .ref cc), (4, .ref ee), (5, .ref aa), (6, .int (nI ey)), (7, .int (nI x0)), (8, .int (nI y0)), (9, .int (nI tx)), (10, .int (nI ty)), (11, .int (nI q)), (12, .int (nI (cn (seenP st q ey x0 y0 tx ty) (st 0 0)))), (13, .int (nI (cn (seenP st 1 ey x0 y0 tx ty) (st 0 0))))] → W p0 l e0 ({ frames := 10, cells := 900, slots := 5400, locals := 267 } : Room) s0 m0 ([.ref x, .int (nI z), .int (nI y), .ref cc, .ref ee, .ref aa] : List Value).toArray b0 meth0 c0 H locs ck sk Q9 (F0 m0 301 ls [.int (nI (lackN st d))]) := by
            intro H locs ls S hl
            refine lv_istore (lv' := [(16, .int (nI (lackN st d))), (14, .long (lN d)), (0, .ref x), (1, .int (nI z)), (2, .int (nI y)), (3, .ref cc), (4, .ref ee), (5, .ref aa), (6, .int (nI ey)), (7, .int (nI x0)), (8, .int (nI y0)), (9, .int (nI tx)), (10, .int (nI ty)), (11, .int (nI q)), (12, .int (nI (cn (seenP st q ey x0 y0 tx ty) (st 0 0)))), (13, .int (nI (cn (seenP st 1 ey x0 y0 tx ty) (st 0 0))))]) X.1 X.2.1 dL_isClock_301 hl (by decide) rfl (fun ls hl => ?_)
            refine lv_aload_n X.1 X.2.1 dL_isClock_303 rfl (lv_at hl 2 rfl) ?_
            refine lv_iconst (v := 0) X.1 X.2.1 dL_isClock_304 (by decide) ?_
            refine lv_iload X.1 X.2.1 dL_isClock_305 (lv_at hl 8 rfl) ?_
            refine lv_iload X.1 X.2.1 dL_isClock_307 (lv_at hl 9 rfl) ?_
            refine lv_iload X.1 X.2.1 dL_isClock_309 (lv_at hl 10 rfl) ?_
            refine lv_iload X.1 X.2.1 dL_isClock_311 (lv_at hl 11 rfl) ?_
            refine lv_iload X.1 X.2.1 dL_isClock_313 (lv_at hl 12 rfl) ?_
            refine acall_l (xrun_SX X S (a_age l hst G f st x hI hR0 ey x0 y0 tx ty hey htx1 hty1 htx2 hty2) 7 gL_isClock_L_asks rfl rfl rfl (by decide +kernel) ⟨(by exact Nat.le_of_ble_eq_true rfl), (by exact Nat.le_of_ble_eq_true rfl)⟩ rfl hl.1 rfl (by exact Nat.le_of_ble_eq_true rfl) dL_isClock_315 ⟨(show _ ≤ 900 by omega), (show _ ≤ 5400 by omega)⟩) S (fun r_315 f_315 H locs hr_315 S => ?_)
            obtain ⟨hag1, hag2, ef9⟩ := hr_315
            rw [ef9] at S
            rw [← ed] at hag1 hag2
            refine lv_lstore (lv' := [(17, .long r_315), (16, .int (nI (lackN st d))), (14, .long (lN d)), (0, .ref x), (1, .int (nI z)), (2, .int (nI y)), (3, .ref cc), (4, .ref ee), (5, .ref aa), (6, .int (nI ey)), (7, .int (nI x0)), (8, .int (nI y0)), (9, .int (nI tx)), (10, .int (nI ty)), (11, .int (nI q)), (12, .int (nI (cn (seenP st q ey x0 y0 tx ty) (st 0 0)))), (13, .int (nI (cn (seenP st 1 ey x0 y0 tx ty) (st 0 0))))]) X.1 X.2.1 dL_isClock_318 hl (by decide) rfl (fun ls hl => ?_)
            refine lv_aload_n X.1 X.2.1 dL_isClock_320 rfl (lv_at hl 3 rfl) ?_
            refine lv_iload X.1 X.2.1 dL_isClock_321 (lv_at hl 9 rfl) ?_
            refine lv_iload X.1 X.2.1 dL_isClock_323 (lv_at hl 10 rfl) ?_
            refine lv_iload X.1 X.2.1 dL_isClock_325 (lv_at hl 11 rfl) ?_
            refine lv_iload X.1 X.2.1 dL_isClock_327 (lv_at hl 12 rfl) ?_
            refine lv_iload X.1 X.2.1 dL_isClock_329 (lv_at hl 13 rfl) ?_
            refine lv_iload X.1 X.2.1 dL_isClock_331 (lv_at hl 14 rfl) ?_
            refine call_iq (run_V X S (u_count l hst G f st x hI hR0 ey x0 y0 tx ty q hey htx1 hty1 htx2 hty2 hq1 hq7) 6 gL_isClock_X9_count rfl rfl rfl (by decide +kernel) ⟨(by exact Nat.le_of_ble_eq_true rfl), (by exact Nat.le_of_ble_eq_true rfl)⟩ (RX.obj hR0) rfl rfl rfl hl.1 rfl (by exact Nat.le_of_ble_eq_true rfl) dL_isClock_333 ⟨(show _ ≤ 900 by omega), (show _ ≤ 5400 by omega)⟩) S (fun r_333 H locs hr_333 S => ?_)
            obtain rfl := (show r_333 = nI (cn (seenP st q ey x0 y0 tx ty) (st 0 0)) from hr_333)
            refine lv_iload X.1 X.2.1 dL_isClock_336 (lv_at hl 15 rfl) ?_
            refine n_ne (a := cn (seenP st q ey x0 y0 tx ty) (st 0 0)) (b := cn (seenP st q ey x0 y0 tx ty) (st 0 0)) (tgt := 384) X dL_isClock_338 (by decide) (fun n_338 => by exfalso; omega) (fun n_338 => ?_)
            refine lv_aload_n X.1 X.2.1 dL_isClock_341 rfl (lv_at hl 3 rfl) ?_
            refine lv_iload X.1 X.2.1 dL_isClock_342 (lv_at hl 9 rfl) ?_
            refine lv_iload X.1 X.2.1 dL_isClock_344 (lv_at hl 10 rfl) ?_
            refine lv_iload X.1 X.2.1 dL_isClock_346 (lv_at hl 11 rfl) ?_
            refine lv_iload X.1 X.2.1 dL_isClock_348 (lv_at hl 12 rfl) ?_
            refine lv_iload X.1 X.2.1 dL_isClock_350 (lv_at hl 13 rfl) ?_
            refine lv_iconst (v := 1) X.1 X.2.1 dL_isClock_352 (by decide) ?_
            refine call_iq (run_V X S (u_count l hst G f st x hI hR0 ey x0 y0 tx ty 1 hey htx1 hty1 htx2 hty2 (by omega) (by omega)) 6 gL_isClock_X9_count rfl rfl rfl (by decide +kernel) ⟨(by exact Nat.le_of_ble_eq_true rfl), (by exact Nat.le_of_ble_eq_true rfl)⟩ (RX.obj hR0) rfl rfl rfl hl.1 rfl (by exact Nat.le_of_ble_eq_true rfl) dL_isClock_353 ⟨(show _ ≤ 900 by omega), (show _ ≤ 5400 by omega)⟩) S (fun r_353 H locs hr_353 S => ?_)
            obtain rfl := (show r_353 = nI (cn (seenP st 1 ey x0 y0 tx ty) (st 0 0)) from hr_353)
            refine lv_iload X.1 X.2.1 dL_isClock_356 (lv_at hl 16 rfl) ?_
            refine n_ne (a := cn (seenP st 1 ey x0 y0 tx ty) (st 0 0)) (b := cn (seenP st 1 ey x0 y0 tx ty) (st 0 0)) (tgt := 384) X dL_isClock_358 (by decide) (fun n_358 => by exfalso; omega) (fun n_358 => ?_)
            refine lv_aload_n X.1 X.2.1 dL_isClock_361 rfl (lv_at hl 3 rfl) ?_
            refine lv_iload X.1 X.2.1 dL_isClock_362 (lv_at hl 9 rfl) ?_
            refine lv_iload X.1 X.2.1 dL_isClock_364 (lv_at hl 10 rfl) ?_
            refine lv_iload X.1 X.2.1 dL_isClock_366 (lv_at hl 11 rfl) ?_
            refine lv_iload X.1 X.2.1 dL_isClock_368 (lv_at hl 12 rfl) ?_
            refine lv_iload X.1 X.2.1 dL_isClock_370 (lv_at hl 13 rfl) ?_
            refine call_iq (run_V X S (u_whyNot l hst G f st x hI hR0 ey x0 y0 tx ty hey htx1 hty1 htx2 hty2) 5 gL_isClock_X9_whyNot rfl rfl rfl (by decide +kernel) ⟨(by exact Nat.le_of_ble_eq_true rfl), (by exact Nat.le_of_ble_eq_true rfl)⟩ (RX.obj hR0) rfl rfl rfl hl.1 rfl (by exact Nat.le_of_ble_eq_true rfl) dL_isClock_372 ⟨(show _ ≤ 900 by omega), (show _ ≤ 5400 by omega)⟩) S (fun r_372 H locs hr_372 S => ?_)
            obtain rfl := (show r_372 = nI (lackN st d) from hr_372.trans (by rw [ed]))
            refine lv_iload X.1 X.2.1 dL_isClock_375 (lv_at hl 1 rfl) ?_
            refine n_ne (a := lackN st d) (b := lackN st d) (tgt := 384) X dL_isClock_377 (by decide) (fun n_377 => by exfalso; omega) (fun n_377 => ?_)
            refine lv_iconst (v := 1) X.1 X.2.1 dL_isClock_380 (by decide) ?_
            refine lv_goto (tgt := 385) X.1 X.2.1 dL_isClock_381 (by decide) ?_
            refine lv_istore (lv' := [(19, .int 1), (17, .long r_315), (16, .int (nI (lackN st d))), (14, .long (lN d)), (0, .ref x), (1, .int (nI z)), (2, .int (nI y)), (3, .ref cc), (4, .ref ee), (5, .ref aa), (6, .int (nI ey)), (7, .int (nI x0)), (8, .int (nI y0)), (9, .int (nI tx)), (10, .int (nI ty)), (11, .int (nI q)), (12, .int (nI (cn (seenP st q ey x0 y0 tx ty) (st 0 0)))), (13, .int (nI (cn (seenP st 1 ey x0 y0 tx ty) (st 0 0))))]) X.1 X.2.1 dL_isClock_385 hl (by decide) rfl (fun ls hl => ?_)
            refine lv_iload X.1 X.2.1 dL_isClock_387 (lv_at hl 2 rfl) ?_
            refine z_le (a := lackN st d) (tgt := 412) X dL_isClock_389 (by decide) (fun n_389 => ?_) (fun n_389 => ?_)
            · obtain ⟨k0, hk0, hd0, hlt0, rfl⟩ := hag1 n_389
              obtain ⟨hu5, hag⟩ := age_all hI hk0 hd0 hlt0
              have hl0 := lack_0 n_389
              obtain ⟨u, eu⟩ : ∃ z9 : Nat, z9 = ageAt st d k0 := ⟨_, rfl⟩
              rw [← eu] at hu5 hag hl
              refine lv_iconst (v := 0) X.1 X.2.1 dL_isClock_412 (by decide) ?_
              refine lv_istore (lv' := [(20, .int 0), (19, .int 1), (17, .long (lN u)), (16, .int (nI (lackN st d))), (14, .long (lN d)), (0, .ref x), (1, .int (nI z)), (2, .int (nI y)), (3, .ref cc), (4, .ref ee), (5, .ref aa), (6, .int (nI ey)), (7, .int (nI x0)), (8, .int (nI y0)), (9, .int (nI tx)), (10, .int (nI ty)), (11, .int (nI q)), (12, .int (nI (cn (seenP st q ey x0 y0 tx ty) (st 0 0)))), (13, .int (nI (cn (seenP st 1 ey x0 y0 tx ty) (st 0 0))))]) X.1 X.2.1 dL_isClock_413 hl (by decide) rfl (fun ls hl => ?_)
              have loop2 : ∀ (N : Nat) (k : Nat) (H : Heap) (locs : List Loc) (ls : Array Slot), k ≤ st 0 3 → st 0 3 < k + N → cxS G s0 f H locs → lv_has ls 21 [(3, .ref cc), (5, .ref aa), (14, .long (lN d)), (17, .long (lN u)), (19, .int 1), (20, .int (nI k))] → W p0 l e0 ({ frames := 10, cells := 900, slots := 5400, locals := 267 } : Room) s0 m0 ([.ref x, .int (nI z), .int (nI y), .ref cc, .ref ee, .ref aa] : List Value).toArray b0 meth0 c0 H locs (ck + 6 + 6 + 6 + 5) (sk + 34 + 34 + 34 + 28) Q9 (F0 m0 415 ls []) := by
                intro N
                induction N with
                | zero =>
                  intro k  H locs ls hk hN S hl
                  exfalso
                  omega
                | succ N ih =>
                  intro k  H locs ls hk hN S hl
                  refine lv_iload X.1 X.2.1 dL_isClock_415 (lv_at hl 5 rfl) ?_
                  refine lv_aload_n X.1 X.2.1 dL_isClock_417 rfl (lv_at hl 0 rfl) ?_
                  refine lv_iconst (v := 4) X.1 X.2.1 dL_isClock_418 (by decide) ?_
                  refine n_iald (i := 4) (v := (nI (st 0 3))) X S hcc hC4 dL_isClock_419 ?_
                  refine n_ge (a := k) (b := st 0 3) (tgt := 518) X dL_isClock_420 (by decide) (fun n_420 => ?_) (fun n_420 => ?_)
                  · have hb0 := hI.2.2.2.2.2.1 0 (by omega)
                    refine lv_iload X.1 X.2.1 dL_isClock_518 (lv_at hl 4 rfl) ?_
                    refine lv_if_eq (x := 1) (tgt := 578) X.1 X.2.1 dL_isClock_520 (by decide) (fun c_520 => by first | exact absurd c_520 (by decide) | exact absurd (by decide) c_520) (fun c_520 => ?_)
                    refine lv_lload X.1 X.2.1 dL_isClock_523 (lv_at hl 3 rfl) ?_
                    refine lv_lconst (v := 0) X.1 X.2.1 dL_isClock_525 (by decide) ?_
                    refine ll_lt (a := u) (b := 0) (tgt := 578) X dL_isClock_526 dL_isClock_527 (by decide) (fun n_526 => by exfalso; omega) (fun n_526 => ?_)
                    refine lv_lload X.1 X.2.1 dL_isClock_530 (lv_at hl 2 rfl) ?_
                    refine lv_lconst (v := 0) X.1 X.2.1 dL_isClock_532 (by decide) ?_
                    refine ll_gt (a := d) (b := 0) (tgt := 544) X dL_isClock_533 dL_isClock_534 (by decide) (fun n_533 => ?_) (fun n_533 => ?_)
                    · refine lv_lload X.1 X.2.1 dL_isClock_544 (lv_at hl 2 rfl) ?_
                      refine lv_aload X.1 X.2.1 dL_isClock_546 (lv_at hl 1 rfl) ?_
                      refine lv_bipush (v := 8) X.1 X.2.1 dL_isClock_548 (by decide) ?_
                      refine n_lald (i := 8) (v := (lN (st 11 0))) X S haa (hA 0 (by omega)).2 dL_isClock_550 ?_
                      refine ll_gt (a := d) (b := st 11 0) (tgt := 574) X dL_isClock_551 dL_isClock_552 (by decide) (fun n_551 => ?_) (fun n_551 => ?_)
                      · refine lv_iconst (v := 1) X.1 X.2.1 dL_isClock_574 (by decide) ?_
                        refine lv_goto (tgt := 579) X.1 X.2.1 dL_isClock_575 (by decide) ?_
                        subst hQ9
                        refine e_zq X hr S (by first | omega | exact Nat.le_of_ble_eq_true rfl) (by first | omega | exact Nat.le_of_ble_eq_true rfl) dL_isClock_579 rfl ?_
                        rfl
                      · refine lv_lload X.1 X.2.1 dL_isClock_555 (lv_at hl 3 rfl) ?_
                        refine lv_aload X.1 X.2.1 dL_isClock_557 (lv_at hl 1 rfl) ?_
                        refine lv_iconst (v := 0) X.1 X.2.1 dL_isClock_559 (by decide) ?_
                        refine n_lald (i := 0) (v := (lN (st 10 0))) X S haa (hA 0 (by omega)).1 dL_isClock_560 ?_
                        refine lv_lload X.1 X.2.1 dL_isClock_561 (lv_at hl 2 rfl) ?_
                        have hm1 : st 10 0 * d ≤ 5000000000 * d := Nat.mul_le_mul_right _ hb0.2.1
                        refine n_lmul (a := st 10 0) (b := d) X dL_isClock_563 ?_
                        refine lv_aload X.1 X.2.1 dL_isClock_564 (lv_at hl 1 rfl) ?_
                        refine lv_bipush (v := 8) X.1 X.2.1 dL_isClock_566 (by decide) ?_
                        refine n_lald (i := 8) (v := (lN (st 11 0))) X S haa (hA 0 (by omega)).2 dL_isClock_568 ?_
                        refine n_ldiv (a := (st 10 0) * d) (b := st 11 0) X dL_isClock_569 ?_
                        have hdv := Nat.div_le_self (st 10 0 * d) (st 11 0)
                        refine ll_ne (a := u) (b := ((st 10 0) * d) / (st 11 0)) (tgt := 578) X dL_isClock_570 dL_isClock_571 (by decide) (fun n_570 => by exact absurd (by rw [eu]; exact age_first hk0 hlt0 (by omega)) n_570) (fun n_570 => ?_)
                        refine lv_iconst (v := 1) X.1 X.2.1 dL_isClock_574 (by decide) ?_
                        refine lv_goto (tgt := 579) X.1 X.2.1 dL_isClock_575 (by decide) ?_
                        subst hQ9
                        refine e_zq X hr S (by first | omega | exact Nat.le_of_ble_eq_true rfl) (by first | omega | exact Nat.le_of_ble_eq_true rfl) dL_isClock_579 rfl ?_
                        rfl
                    · refine lv_lload X.1 X.2.1 dL_isClock_537 (lv_at hl 3 rfl) ?_
                      refine lv_lconst (v := 0) X.1 X.2.1 dL_isClock_539 (by decide) ?_
                      refine ll_ne (a := u) (b := 0) (tgt := 578) X dL_isClock_540 dL_isClock_541 (by decide) (fun n_540 => by exact absurd (by rw [eu, age_first hk0 hlt0 (by omega), show d = 0 by omega, Nat.mul_zero, Nat.zero_div]) n_540) (fun n_540 => ?_)
                      refine lv_lload X.1 X.2.1 dL_isClock_544 (lv_at hl 2 rfl) ?_
                      refine lv_aload X.1 X.2.1 dL_isClock_546 (lv_at hl 1 rfl) ?_
                      refine lv_bipush (v := 8) X.1 X.2.1 dL_isClock_548 (by decide) ?_
                      refine n_lald (i := 8) (v := (lN (st 11 0))) X S haa (hA 0 (by omega)).2 dL_isClock_550 ?_
                      refine ll_gt (a := d) (b := st 11 0) (tgt := 574) X dL_isClock_551 dL_isClock_552 (by decide) (fun n_551 => ?_) (fun n_551 => ?_)
                      · refine lv_iconst (v := 1) X.1 X.2.1 dL_isClock_574 (by decide) ?_
                        refine lv_goto (tgt := 579) X.1 X.2.1 dL_isClock_575 (by decide) ?_
                        subst hQ9
                        refine e_zq X hr S (by first | omega | exact Nat.le_of_ble_eq_true rfl) (by first | omega | exact Nat.le_of_ble_eq_true rfl) dL_isClock_579 rfl ?_
                        rfl
                      · refine lv_lload X.1 X.2.1 dL_isClock_555 (lv_at hl 3 rfl) ?_
                        refine lv_aload X.1 X.2.1 dL_isClock_557 (lv_at hl 1 rfl) ?_
                        refine lv_iconst (v := 0) X.1 X.2.1 dL_isClock_559 (by decide) ?_
                        refine n_lald (i := 0) (v := (lN (st 10 0))) X S haa (hA 0 (by omega)).1 dL_isClock_560 ?_
                        refine lv_lload X.1 X.2.1 dL_isClock_561 (lv_at hl 2 rfl) ?_
                        have hm1 : st 10 0 * d ≤ 5000000000 * d := Nat.mul_le_mul_right _ hb0.2.1
                        refine n_lmul (a := st 10 0) (b := d) X dL_isClock_563 ?_
                        refine lv_aload X.1 X.2.1 dL_isClock_564 (lv_at hl 1 rfl) ?_
                        refine lv_bipush (v := 8) X.1 X.2.1 dL_isClock_566 (by decide) ?_
                        refine n_lald (i := 8) (v := (lN (st 11 0))) X S haa (hA 0 (by omega)).2 dL_isClock_568 ?_
                        refine n_ldiv (a := (st 10 0) * d) (b := st 11 0) X dL_isClock_569 ?_
                        have hdv := Nat.div_le_self (st 10 0 * d) (st 11 0)
                        refine ll_ne (a := u) (b := ((st 10 0) * d) / (st 11 0)) (tgt := 578) X dL_isClock_570 dL_isClock_571 (by decide) (fun n_570 => by exact absurd (by rw [eu]; exact age_first hk0 hlt0 (by omega)) n_570) (fun n_570 => ?_)
                        refine lv_iconst (v := 1) X.1 X.2.1 dL_isClock_574 (by decide) ?_
                        refine lv_goto (tgt := 579) X.1 X.2.1 dL_isClock_575 (by decide) ?_
                        subst hQ9
                        refine e_zq X hr S (by first | omega | exact Nat.le_of_ble_eq_true rfl) (by first | omega | exact Nat.le_of_ble_eq_true rfl) dL_isClock_579 rfl ?_
                        rfl
                  · have hgk := hag k (by omega)
                    have hbk := hI.2.2.2.2.2.1 k (by omega)
                    refine lv_iload X.1 X.2.1 dL_isClock_423 (lv_at hl 4 rfl) ?_
                    refine lv_if_eq (x := 1) (tgt := 518) X.1 X.2.1 dL_isClock_425 (by decide) (fun c_425 => by first | exact absurd c_425 (by decide) | exact absurd (by decide) c_425) (fun c_425 => ?_)
                    refine lv_lload X.1 X.2.1 dL_isClock_428 (lv_at hl 2 rfl) ?_
                    refine lv_aload X.1 X.2.1 dL_isClock_430 (lv_at hl 1 rfl) ?_
                    refine lv_bipush (v := 8) X.1 X.2.1 dL_isClock_432 (by decide) ?_
                    refine lv_iload X.1 X.2.1 dL_isClock_434 (lv_at hl 5 rfl) ?_
                    refine n_add (a := 8) (b := k) X dL_isClock_436 ?_
                    refine n_lald (i := 8 + k) (v := (lN (st 11 k))) X S haa (hA k (by omega)).2 dL_isClock_437 ?_
                    refine ll_ge (a := d) (b := st 11 k) (tgt := 461) X dL_isClock_438 dL_isClock_439 (by decide) (fun n_438 => ?_) (fun n_438 => ?_)
                    · refine lv_lload X.1 X.2.1 dL_isClock_461 (lv_at hl 2 rfl) ?_
                      refine lv_aload X.1 X.2.1 dL_isClock_463 (lv_at hl 1 rfl) ?_
                      refine lv_bipush (v := 8) X.1 X.2.1 dL_isClock_465 (by decide) ?_
                      refine lv_iload X.1 X.2.1 dL_isClock_467 (lv_at hl 5 rfl) ?_
                      refine n_add (a := 8) (b := k) X dL_isClock_469 ?_
                      refine n_lald (i := 8 + k) (v := (lN (st 11 k))) X S haa (hA k (by omega)).2 dL_isClock_470 ?_
                      refine ll_le (a := d) (b := st 11 k) (tgt := 494) X dL_isClock_471 dL_isClock_472 (by decide) (fun n_471 => ?_) (fun n_471 => ?_)
                      · refine lv_lload X.1 X.2.1 dL_isClock_494 (lv_at hl 3 rfl) ?_
                        refine lv_aload X.1 X.2.1 dL_isClock_496 (lv_at hl 1 rfl) ?_
                        refine lv_iload X.1 X.2.1 dL_isClock_498 (lv_at hl 5 rfl) ?_
                        refine n_lald (i := k) (v := (lN (st 10 k))) X S haa (hA k (by omega)).1 dL_isClock_500 ?_
                        refine ll_ne (a := u) (b := st 10 k) (tgt := 509) X dL_isClock_501 dL_isClock_502 (by decide) (fun n_501 => by exfalso; omega) (fun n_501 => ?_)
                        refine lv_iconst (v := 1) X.1 X.2.1 dL_isClock_505 (by decide) ?_
                        refine lv_goto (tgt := 510) X.1 X.2.1 dL_isClock_506 (by decide) ?_
                        refine lv_istore (lv' := [(19, .int 1), (3, .ref cc), (5, .ref aa), (14, .long (lN d)), (17, .long (lN u)), (20, .int (nI k))]) X.1 X.2.1 dL_isClock_510 hl (by decide) rfl (fun ls hl => ?_)
                        refine lv_iinc (v := (nI (k + 1))) (lv' := [(20, .int (nI (k + 1))), (19, .int 1), (3, .ref cc), (5, .ref aa), (14, .long (lN d)), (17, .long (lN u))]) X.1 X.2.1 dL_isClock_512 hl (k := 5) rfl (nI_1 _) (by decide) rfl (fun ls hl => ?_)
                        refine lv_goto (tgt := 415) X.1 X.2.1 dL_isClock_515 (by decide) ?_
                        exact ih (k + 1) H locs ls (by omega) (by omega) S (lv_sub hl [2, 3, 4, 5, 1, 0] rfl)
                      · refine lv_lload X.1 X.2.1 dL_isClock_475 (lv_at hl 3 rfl) ?_
                        refine lv_aload X.1 X.2.1 dL_isClock_477 (lv_at hl 1 rfl) ?_
                        refine lv_iload X.1 X.2.1 dL_isClock_479 (lv_at hl 5 rfl) ?_
                        refine n_lald (i := k) (v := (lN (st 10 k))) X S haa (hA k (by omega)).1 dL_isClock_481 ?_
                        refine ll_lt (a := u) (b := st 10 k) (tgt := 490) X dL_isClock_482 dL_isClock_483 (by decide) (fun n_482 => by exfalso; omega) (fun n_482 => ?_)
                        refine lv_iconst (v := 1) X.1 X.2.1 dL_isClock_486 (by decide) ?_
                        refine lv_goto (tgt := 510) X.1 X.2.1 dL_isClock_487 (by decide) ?_
                        refine lv_istore (lv' := [(19, .int 1), (3, .ref cc), (5, .ref aa), (14, .long (lN d)), (17, .long (lN u)), (20, .int (nI k))]) X.1 X.2.1 dL_isClock_510 hl (by decide) rfl (fun ls hl => ?_)
                        refine lv_iinc (v := (nI (k + 1))) (lv' := [(20, .int (nI (k + 1))), (19, .int 1), (3, .ref cc), (5, .ref aa), (14, .long (lN d)), (17, .long (lN u))]) X.1 X.2.1 dL_isClock_512 hl (k := 5) rfl (nI_1 _) (by decide) rfl (fun ls hl => ?_)
                        refine lv_goto (tgt := 415) X.1 X.2.1 dL_isClock_515 (by decide) ?_
                        exact ih (k + 1) H locs ls (by omega) (by omega) S (lv_sub hl [2, 3, 4, 5, 1, 0] rfl)
                    · refine lv_lload X.1 X.2.1 dL_isClock_442 (lv_at hl 3 rfl) ?_
                      refine lv_aload X.1 X.2.1 dL_isClock_444 (lv_at hl 1 rfl) ?_
                      refine lv_iload X.1 X.2.1 dL_isClock_446 (lv_at hl 5 rfl) ?_
                      refine n_lald (i := k) (v := (lN (st 10 k))) X S haa (hA k (by omega)).1 dL_isClock_448 ?_
                      refine ll_gt (a := u) (b := st 10 k) (tgt := 457) X dL_isClock_449 dL_isClock_450 (by decide) (fun n_449 => by exfalso; omega) (fun n_449 => ?_)
                      refine lv_iconst (v := 1) X.1 X.2.1 dL_isClock_453 (by decide) ?_
                      refine lv_goto (tgt := 510) X.1 X.2.1 dL_isClock_454 (by decide) ?_
                      refine lv_istore (lv' := [(19, .int 1), (3, .ref cc), (5, .ref aa), (14, .long (lN d)), (17, .long (lN u)), (20, .int (nI k))]) X.1 X.2.1 dL_isClock_510 hl (by decide) rfl (fun ls hl => ?_)
                      refine lv_iinc (v := (nI (k + 1))) (lv' := [(20, .int (nI (k + 1))), (19, .int 1), (3, .ref cc), (5, .ref aa), (14, .long (lN d)), (17, .long (lN u))]) X.1 X.2.1 dL_isClock_512 hl (k := 5) rfl (nI_1 _) (by decide) rfl (fun ls hl => ?_)
                      refine lv_goto (tgt := 415) X.1 X.2.1 dL_isClock_515 (by decide) ?_
                      exact ih (k + 1) H locs ls (by omega) (by omega) S (lv_sub hl [2, 3, 4, 5, 1, 0] rfl)
              exact loop2 (st 0 3 + 1) 0 _ _ ls (by omega) (by omega) S (lv_sub hl [8, 10, 4, 2, 1, 0] rfl)
            · obtain rfl := hag2 (by omega)
              refine lv_iload X.1 X.2.1 dL_isClock_392 (lv_at hl 0 rfl) ?_
              refine lv_if_eq (x := 1) (tgt := 410) X.1 X.2.1 dL_isClock_394 (by decide) (fun c_394 => by first | exact absurd c_394 (by decide) | exact absurd (by decide) c_394) (fun c_394 => ?_)
              refine lv_lload X.1 X.2.1 dL_isClock_397 (lv_at hl 1 rfl) ?_
              refine r_ldc2 (v := (-70008)) X (by decide +kernel) dL_isClock_399 ?_
              refine W.lcmp X.1 X.2.1 dL_isClock_402 ?_
              refine r_toi (lgz _) ?_
              refine lv_if_ne (x := 0) (tgt := 410) X.1 X.2.1 dL_isClock_403 (by decide) (fun c_403 => by first | exact absurd c_403 (by decide) | exact absurd (by decide) c_403) (fun c_403 => ?_)
              refine lv_iconst (v := 1) X.1 X.2.1 dL_isClock_406 (by decide) ?_
              refine lv_goto (tgt := 411) X.1 X.2.1 dL_isClock_407 (by decide) ?_
              subst hQ9
              refine e_zq X hr S (by first | omega | exact Nat.le_of_ble_eq_true rfl) (by first | omega | exact Nat.le_of_ble_eq_true rfl) dL_isClock_411 rfl ?_
              rfl
          refine lv_aload_n X.1 X.2.1 dL_isClock_268 rfl (lv_at hl 4 rfl) ?_
          refine lv_iconst (v := 4) X.1 X.2.1 dL_isClock_269 (by decide) ?_
          refine n_iald (i := 4) (v := (nI (st 0 3))) X S hcc hC4 dL_isClock_270 ?_
          refine lv_iconst (v := 2) X.1 X.2.1 dL_isClock_271 (by decide) ?_
          refine n_ge (a := st 0 3) (b := 2) (tgt := 279) X dL_isClock_272 (by decide) (fun n_272 => ?_) (fun n_272 => ?_)
          · have hbx := hI.2.2.2.2.2.1 (st 0 3 - 1) (by omega)
            refine lv_lload X.1 X.2.1 dL_isClock_279 (lv_at hl 0 rfl) ?_
            refine lv_aload X.1 X.2.1 dL_isClock_281 (lv_at hl 6 rfl) ?_
            refine lv_bipush (v := 8) X.1 X.2.1 dL_isClock_283 (by decide) ?_
            refine lv_aload_n X.1 X.2.1 dL_isClock_285 rfl (lv_at hl 4 rfl) ?_
            refine lv_iconst (v := 4) X.1 X.2.1 dL_isClock_286 (by decide) ?_
            refine n_iald (i := 4) (v := (nI (st 0 3))) X S hcc hC4 dL_isClock_287 ?_
            refine n_add (a := 8) (b := st 0 3) X dL_isClock_288 ?_
            refine lv_iconst (v := 1) X.1 X.2.1 dL_isClock_289 (by decide) ?_
            refine n_sub (a := 8 + (st 0 3)) (b := 1) X dL_isClock_290 ?_
            refine n_lald (i := (8 + (st 0 3)) - 1) (v := (lN (st 11 (st 0 3 - 1)))) X S haa (by rw [show 8 + st 0 3 - 1 = 8 + (st 0 3 - 1) by omega]; exact (hA _ (by omega)).2) dL_isClock_291 ?_
            refine ll_le (a := d) (b := st 11 (st 0 3 - 1)) (tgt := 300) X dL_isClock_292 dL_isClock_293 (by decide) (fun n_292 => ?_) (fun n_292 => ?_)
            · refine lv_iconst (v := 0) X.1 X.2.1 dL_isClock_300 (by decide) ?_
              refine r_toi (show (0 : Int32) = nI (lackN st d) from congrArg nI (lack_e.2.2 (by omega) (by omega)).symm) ?_
              exact W.widen (by omega) (by omega) (J301 _ _ ls S (lv_sub hl [0, 1, 2, 3, 4, 5, 6, 7, 8, 9, 10, 11, 12, 13, 14] rfl))
            · refine lv_iconst (v := 2) X.1 X.2.1 dL_isClock_296 (by decide) ?_
              refine lv_goto (tgt := 301) X.1 X.2.1 dL_isClock_297 (by decide) ?_
              refine r_toi (show (2 : Int32) = nI (lackN st d) from congrArg nI (lack_e.2.1 (by omega) (by omega)).symm) ?_
              exact W.widen (by omega) (by omega) (J301 _ _ ls S (lv_sub hl [0, 1, 2, 3, 4, 5, 6, 7, 8, 9, 10, 11, 12, 13, 14] rfl))
          · refine lv_iconst (v := 1) X.1 X.2.1 dL_isClock_275 (by decide) ?_
            refine lv_goto (tgt := 301) X.1 X.2.1 dL_isClock_276 (by decide) ?_
            refine r_toi (show (1 : Int32) = nI (lackN st d) from congrArg nI (lack_e.1 (by omega)).symm) ?_
            exact W.widen (by omega) (by omega) (J301 _ _ ls S (lv_sub hl [0, 1, 2, 3, 4, 5, 6, 7, 8, 9, 10, 11, 12, 13, 14] rfl))
        · have hlt : k < st 0 0 := by omega
          have hc := hI.2.2.1 k hlt
          unfold cIn at hc
          obtain ⟨q1, q2, q3, q4, q5, q6, q7, q8⟩ := hc
          have hse := hI.2.2.2.2.1 ey hey
          have hb1 := cn_le (seenP st 1 ey x0 y0 tx ty) k
          have hb2 := cn_le (seenP st q ey x0 y0 tx ty) k
          by_cases hb : (1 ≤ st 5 k ∧ (x0 ≤ st 2 k ∧ st 2 k ≤ tx ∧ y0 ≤ st 3 k ∧ st 3 k ≤ ty) ∧ 0 < st 7 k ∧ 10 - st 9 ey ≤ st 7 k)
          · refine lv_aload_n X.1 X.2.1 dL_isClock_111 rfl (lv_at hl 0 rfl) ?_
            refine lv_iload X.1 X.2.1 dL_isClock_112 (lv_at hl 14 rfl) ?_
            refine lv_iconst (v := 3) X.1 X.2.1 dL_isClock_114 (by decide) ?_
            refine call_iq (run_V X S (u_about l hst G f st x hI hR0 k 3 hlt (by decide)) 2 gL_isClock_X9_about rfl rfl rfl (by decide +kernel) ⟨(by exact Nat.le_of_ble_eq_true rfl), (by exact Nat.le_of_ble_eq_true rfl)⟩ (RX.obj hR0) rfl rfl rfl hl.1 rfl (by exact Nat.le_of_ble_eq_true rfl) dL_isClock_115 ⟨(show _ ≤ 900 by omega), (show _ ≤ 5400 by omega)⟩) S (fun r_115 H locs hr_115 S => ?_)
            obtain rfl := (show r_115 = nI (st 7 k) from hr_115)
            refine z_le (a := st 7 k) (tgt := 191) X dL_isClock_118 (by decide) (fun n_118 => by exfalso; omega) (fun n_118 => ?_)
            refine lv_aload_n X.1 X.2.1 dL_isClock_121 rfl (lv_at hl 0 rfl) ?_
            refine lv_iload X.1 X.2.1 dL_isClock_122 (lv_at hl 14 rfl) ?_
            refine lv_iconst (v := 3) X.1 X.2.1 dL_isClock_124 (by decide) ?_
            refine call_iq (run_V X S (u_about l hst G f st x hI hR0 k 3 hlt (by decide)) 2 gL_isClock_X9_about rfl rfl rfl (by decide +kernel) ⟨(by exact Nat.le_of_ble_eq_true rfl), (by exact Nat.le_of_ble_eq_true rfl)⟩ (RX.obj hR0) rfl rfl rfl hl.1 rfl (by exact Nat.le_of_ble_eq_true rfl) dL_isClock_125 ⟨(show _ ≤ 900 by omega), (show _ ≤ 5400 by omega)⟩) S (fun r_125 H locs hr_125 S => ?_)
            obtain rfl := (show r_125 = nI (st 7 k) from hr_125)
            refine lv_aload X.1 X.2.1 dL_isClock_128 (lv_at hl 4 rfl) ?_
            refine lv_iload X.1 X.2.1 dL_isClock_130 (lv_at hl 6 rfl) ?_
            refine n_iald (i := ey) (v := (nI (st 9 ey))) X S hee (hE ey (by omega)) dL_isClock_132 ?_
            refine n_add (a := st 7 k) (b := st 9 ey) X dL_isClock_133 ?_
            refine lv_bipush (v := 9) X.1 X.2.1 dL_isClock_134 (by decide) ?_
            refine n_le (a := (st 7 k) + (st 9 ey)) (b := 9) (tgt := 191) X dL_isClock_136 (by decide) (fun n_136 => by exfalso; omega) (fun n_136 => ?_)
            refine lv_aload_n X.1 X.2.1 dL_isClock_139 rfl (lv_at hl 0 rfl) ?_
            refine lv_iload X.1 X.2.1 dL_isClock_140 (lv_at hl 14 rfl) ?_
            refine lv_iconst (v := 0) X.1 X.2.1 dL_isClock_142 (by decide) ?_
            refine call_iq (run_V X S (u_about l hst G f st x hI hR0 k 0 hlt (by decide)) 2 gL_isClock_X9_about rfl rfl rfl (by decide +kernel) ⟨(by exact Nat.le_of_ble_eq_true rfl), (by exact Nat.le_of_ble_eq_true rfl)⟩ (RX.obj hR0) rfl rfl rfl hl.1 rfl (by exact Nat.le_of_ble_eq_true rfl) dL_isClock_143 ⟨(show _ ≤ 900 by omega), (show _ ≤ 5400 by omega)⟩) S (fun r_143 H locs hr_143 S => ?_)
            obtain rfl := (show r_143 = nI (st 2 k) from hr_143)
            refine lv_iload X.1 X.2.1 dL_isClock_146 (lv_at hl 7 rfl) ?_
            refine n_lt (a := st 2 k) (b := x0) (tgt := 191) X dL_isClock_148 (by decide) (fun n_148 => by exfalso; omega) (fun n_148 => ?_)
            refine lv_aload_n X.1 X.2.1 dL_isClock_151 rfl (lv_at hl 0 rfl) ?_
            refine lv_iload X.1 X.2.1 dL_isClock_152 (lv_at hl 14 rfl) ?_
            refine lv_iconst (v := 0) X.1 X.2.1 dL_isClock_154 (by decide) ?_
            refine call_iq (run_V X S (u_about l hst G f st x hI hR0 k 0 hlt (by decide)) 2 gL_isClock_X9_about rfl rfl rfl (by decide +kernel) ⟨(by exact Nat.le_of_ble_eq_true rfl), (by exact Nat.le_of_ble_eq_true rfl)⟩ (RX.obj hR0) rfl rfl rfl hl.1 rfl (by exact Nat.le_of_ble_eq_true rfl) dL_isClock_155 ⟨(show _ ≤ 900 by omega), (show _ ≤ 5400 by omega)⟩) S (fun r_155 H locs hr_155 S => ?_)
            obtain rfl := (show r_155 = nI (st 2 k) from hr_155)
            refine lv_iload X.1 X.2.1 dL_isClock_158 (lv_at hl 9 rfl) ?_
            refine n_gt (a := st 2 k) (b := tx) (tgt := 191) X dL_isClock_160 (by decide) (fun n_160 => by exfalso; omega) (fun n_160 => ?_)
            refine lv_aload_n X.1 X.2.1 dL_isClock_163 rfl (lv_at hl 0 rfl) ?_
            refine lv_iload X.1 X.2.1 dL_isClock_164 (lv_at hl 14 rfl) ?_
            refine lv_iconst (v := 1) X.1 X.2.1 dL_isClock_166 (by decide) ?_
            refine call_iq (run_V X S (u_about l hst G f st x hI hR0 k 1 hlt (by decide)) 2 gL_isClock_X9_about rfl rfl rfl (by decide +kernel) ⟨(by exact Nat.le_of_ble_eq_true rfl), (by exact Nat.le_of_ble_eq_true rfl)⟩ (RX.obj hR0) rfl rfl rfl hl.1 rfl (by exact Nat.le_of_ble_eq_true rfl) dL_isClock_167 ⟨(show _ ≤ 900 by omega), (show _ ≤ 5400 by omega)⟩) S (fun r_167 H locs hr_167 S => ?_)
            obtain rfl := (show r_167 = nI (st 3 k) from hr_167)
            refine lv_iload X.1 X.2.1 dL_isClock_170 (lv_at hl 8 rfl) ?_
            refine n_lt (a := st 3 k) (b := y0) (tgt := 191) X dL_isClock_172 (by decide) (fun n_172 => by exfalso; omega) (fun n_172 => ?_)
            refine lv_aload_n X.1 X.2.1 dL_isClock_175 rfl (lv_at hl 0 rfl) ?_
            refine lv_iload X.1 X.2.1 dL_isClock_176 (lv_at hl 14 rfl) ?_
            refine lv_iconst (v := 1) X.1 X.2.1 dL_isClock_178 (by decide) ?_
            refine call_iq (run_V X S (u_about l hst G f st x hI hR0 k 1 hlt (by decide)) 2 gL_isClock_X9_about rfl rfl rfl (by decide +kernel) ⟨(by exact Nat.le_of_ble_eq_true rfl), (by exact Nat.le_of_ble_eq_true rfl)⟩ (RX.obj hR0) rfl rfl rfl hl.1 rfl (by exact Nat.le_of_ble_eq_true rfl) dL_isClock_179 ⟨(show _ ≤ 900 by omega), (show _ ≤ 5400 by omega)⟩) S (fun r_179 H locs hr_179 S => ?_)
            obtain rfl := (show r_179 = nI (st 3 k) from hr_179)
            refine lv_iload X.1 X.2.1 dL_isClock_182 (lv_at hl 10 rfl) ?_
            refine n_gt (a := st 3 k) (b := ty) (tgt := 191) X dL_isClock_184 (by decide) (fun n_184 => by exfalso; omega) (fun n_184 => ?_)
            refine lv_iconst (v := 1) X.1 X.2.1 dL_isClock_187 (by decide) ?_
            refine lv_goto (tgt := 192) X.1 X.2.1 dL_isClock_188 (by decide) ?_
            refine lv_istore (lv' := [(15, .int 1), (0, .ref x), (1, .int (nI z)), (2, .int (nI y)), (3, .ref cc), (4, .ref ee), (5, .ref aa), (6, .int (nI ey)), (7, .int (nI x0)), (8, .int (nI y0)), (9, .int (nI tx)), (10, .int (nI ty)), (11, .int (nI q)), (12, .int (nI (cn (seenP st q ey x0 y0 tx ty) k))), (13, .int (nI (cn (seenP st 1 ey x0 y0 tx ty) k))), (14, .int (nI k))]) X.1 X.2.1 dL_isClock_192 hl (by decide) rfl (fun ls hl => ?_)
            refine lv_iload X.1 X.2.1 dL_isClock_194 (lv_at hl 14 rfl) ?_
            refine lv_iload X.1 X.2.1 dL_isClock_196 (lv_at hl 0 rfl) ?_
            refine lv_if_eq (x := 1) (tgt := 205) X.1 X.2.1 dL_isClock_198 (by decide) (fun c_198 => by first | exact absurd c_198 (by decide) | exact absurd (by decide) c_198) (fun c_198 => ?_)
            refine lv_iconst (v := 1) X.1 X.2.1 dL_isClock_201 (by decide) ?_
            refine lv_goto (tgt := 206) X.1 X.2.1 dL_isClock_202 (by decide) ?_
            refine n_add (a := cn (seenP st 1 ey x0 y0 tx ty) k) (b := 1) X dL_isClock_206 ?_
            refine lv_istore (lv' := [(13, .int (nI ((cn (seenP st 1 ey x0 y0 tx ty) k) + 1))), (15, .int 1), (0, .ref x), (1, .int (nI z)), (2, .int (nI y)), (3, .ref cc), (4, .ref ee), (5, .ref aa), (6, .int (nI ey)), (7, .int (nI x0)), (8, .int (nI y0)), (9, .int (nI tx)), (10, .int (nI ty)), (11, .int (nI q)), (12, .int (nI (cn (seenP st q ey x0 y0 tx ty) k))), (14, .int (nI k))]) X.1 X.2.1 dL_isClock_207 hl (by decide) rfl (fun ls hl => ?_)
            refine lv_iload X.1 X.2.1 dL_isClock_209 (lv_at hl 14 rfl) ?_
            refine lv_iload X.1 X.2.1 dL_isClock_211 (lv_at hl 1 rfl) ?_
            refine lv_if_eq (x := 1) (tgt := 232) X.1 X.2.1 dL_isClock_213 (by decide) (fun c_213 => by first | exact absurd c_213 (by decide) | exact absurd (by decide) c_213) (fun c_213 => ?_)
            refine lv_aload_n X.1 X.2.1 dL_isClock_216 rfl (lv_at hl 2 rfl) ?_
            refine lv_iload X.1 X.2.1 dL_isClock_217 (lv_at hl 15 rfl) ?_
            refine lv_iconst (v := 2) X.1 X.2.1 dL_isClock_219 (by decide) ?_
            refine call_iq (run_V X S (u_about l hst G f st x hI hR0 k 2 hlt (by decide)) 2 gL_isClock_X9_about rfl rfl rfl (by decide +kernel) ⟨(by exact Nat.le_of_ble_eq_true rfl), (by exact Nat.le_of_ble_eq_true rfl)⟩ (RX.obj hR0) rfl rfl rfl hl.1 rfl (by exact Nat.le_of_ble_eq_true rfl) dL_isClock_220 ⟨(show _ ≤ 900 by omega), (show _ ≤ 5400 by omega)⟩) S (fun r_220 H locs hr_220 S => ?_)
            obtain rfl := (show r_220 = nI (st 5 k) from hr_220)
            refine lv_iload X.1 X.2.1 dL_isClock_223 (lv_at hl 13 rfl) ?_
            refine n_lt (a := st 5 k) (b := q) (tgt := 232) X dL_isClock_225 (by decide) (fun n_225 => ?_) (fun n_225 => ?_)
            · refine lv_iconst (v := 0) X.1 X.2.1 dL_isClock_232 (by decide) ?_
              refine n_add (a := cn (seenP st q ey x0 y0 tx ty) k) (b := 0) X dL_isClock_233 ?_
              refine lv_istore (lv' := [(12, .int (nI ((cn (seenP st q ey x0 y0 tx ty) k) + 0))), (13, .int (nI ((cn (seenP st 1 ey x0 y0 tx ty) k) + 1))), (15, .int 1), (0, .ref x), (1, .int (nI z)), (2, .int (nI y)), (3, .ref cc), (4, .ref ee), (5, .ref aa), (6, .int (nI ey)), (7, .int (nI x0)), (8, .int (nI y0)), (9, .int (nI tx)), (10, .int (nI ty)), (11, .int (nI q)), (14, .int (nI k))]) X.1 X.2.1 dL_isClock_234 hl (by decide) rfl (fun ls hl => ?_)
              refine lv_iinc (v := (nI (k + 1))) (lv' := [(14, .int (nI (k + 1))), (12, .int (nI ((cn (seenP st q ey x0 y0 tx ty) k) + 0))), (13, .int (nI ((cn (seenP st 1 ey x0 y0 tx ty) k) + 1))), (15, .int 1), (0, .ref x), (1, .int (nI z)), (2, .int (nI y)), (3, .ref cc), (4, .ref ee), (5, .ref aa), (6, .int (nI ey)), (7, .int (nI x0)), (8, .int (nI y0)), (9, .int (nI tx)), (10, .int (nI ty)), (11, .int (nI q))]) X.1 X.2.1 dL_isClock_236 hl (k := 15) rfl (nI_1 _) (by decide) rfl (fun ls hl => ?_)
              refine lv_goto (tgt := 103) X.1 X.2.1 dL_isClock_239 (by decide) ?_
              have e1 : (cn (seenP st 1 ey x0 y0 tx ty) (k + 1)) = (cn (seenP st 1 ey x0 y0 tx ty) k) + 1 := seen_t (by omega)
              have e2 : (cn (seenP st q ey x0 y0 tx ty) (k + 1)) = (cn (seenP st q ey x0 y0 tx ty) k) + 0 := seen_f (by omega)
              exact ih (k + 1) _ _ H locs ls (by omega) (by omega) (by omega) (by omega) S (by rw [e1, e2]; exact lv_sub hl [4, 5, 6, 7, 8, 9, 10, 11, 12, 13, 14, 15, 1, 2, 0] rfl)
            · refine lv_iconst (v := 1) X.1 X.2.1 dL_isClock_228 (by decide) ?_
              refine lv_goto (tgt := 233) X.1 X.2.1 dL_isClock_229 (by decide) ?_
              refine n_add (a := cn (seenP st q ey x0 y0 tx ty) k) (b := 1) X dL_isClock_233 ?_
              refine lv_istore (lv' := [(12, .int (nI ((cn (seenP st q ey x0 y0 tx ty) k) + 1))), (13, .int (nI ((cn (seenP st 1 ey x0 y0 tx ty) k) + 1))), (15, .int 1), (0, .ref x), (1, .int (nI z)), (2, .int (nI y)), (3, .ref cc), (4, .ref ee), (5, .ref aa), (6, .int (nI ey)), (7, .int (nI x0)), (8, .int (nI y0)), (9, .int (nI tx)), (10, .int (nI ty)), (11, .int (nI q)), (14, .int (nI k))]) X.1 X.2.1 dL_isClock_234 hl (by decide) rfl (fun ls hl => ?_)
              refine lv_iinc (v := (nI (k + 1))) (lv' := [(14, .int (nI (k + 1))), (12, .int (nI ((cn (seenP st q ey x0 y0 tx ty) k) + 1))), (13, .int (nI ((cn (seenP st 1 ey x0 y0 tx ty) k) + 1))), (15, .int 1), (0, .ref x), (1, .int (nI z)), (2, .int (nI y)), (3, .ref cc), (4, .ref ee), (5, .ref aa), (6, .int (nI ey)), (7, .int (nI x0)), (8, .int (nI y0)), (9, .int (nI tx)), (10, .int (nI ty)), (11, .int (nI q))]) X.1 X.2.1 dL_isClock_236 hl (k := 15) rfl (nI_1 _) (by decide) rfl (fun ls hl => ?_)
              refine lv_goto (tgt := 103) X.1 X.2.1 dL_isClock_239 (by decide) ?_
              have e1 : (cn (seenP st 1 ey x0 y0 tx ty) (k + 1)) = (cn (seenP st 1 ey x0 y0 tx ty) k) + 1 := seen_t (by omega)
              have e2 : (cn (seenP st q ey x0 y0 tx ty) (k + 1)) = (cn (seenP st q ey x0 y0 tx ty) k) + 1 := seen_t (by omega)
              exact ih (k + 1) _ _ H locs ls (by omega) (by omega) (by omega) (by omega) S (by rw [e1, e2]; exact lv_sub hl [4, 5, 6, 7, 8, 9, 10, 11, 12, 13, 14, 15, 1, 2, 0] rfl)
          · have J192 : ∀ (H : Heap) (locs : List Loc) (ls : Array Slot), cxS G s0 f H locs → lv_has ls 21 [(0, .ref x), (1, .int (nI z)), (2, .int (nI y)), (3, .ref cc), (4, .ref ee), (5, .ref aa), (6, .int (nI ey)), (7, .int (nI x0)), (8, .int (nI y0)), (9, .int (nI tx)), (10, .int (nI ty)), (11, .int (nI q)), (12, .int (nI (cn (seenP st q ey x0 y0 tx ty) k))), (13, .int (nI (cn (seenP st 1 ey x0 y0 tx ty) k))), (14, .int (nI k))] → W p0 l e0 ({ frames := 10, cells := 900, slots := 5400, locals := 267 } : Room) s0 m0 ([.ref x, .int (nI z), .int (nI y), .ref cc, .ref ee, .ref aa] : List Value).toArray b0 meth0 c0 H locs (ck + 14) (sk + 84) Q9 (F0 m0 192 ls [.int 0]) := by
              intro H locs ls S hl
              refine lv_istore (lv' := [(15, .int 0), (0, .ref x), (1, .int (nI z)), (2, .int (nI y)), (3, .ref cc), (4, .ref ee), (5, .ref aa), (6, .int (nI ey)), (7, .int (nI x0)), (8, .int (nI y0)), (9, .int (nI tx)), (10, .int (nI ty)), (11, .int (nI q)), (12, .int (nI (cn (seenP st q ey x0 y0 tx ty) k))), (13, .int (nI (cn (seenP st 1 ey x0 y0 tx ty) k))), (14, .int (nI k))]) X.1 X.2.1 dL_isClock_192 hl (by decide) rfl (fun ls hl => ?_)
              refine lv_iload X.1 X.2.1 dL_isClock_194 (lv_at hl 14 rfl) ?_
              refine lv_iload X.1 X.2.1 dL_isClock_196 (lv_at hl 0 rfl) ?_
              refine lv_if_eq (x := 0) (tgt := 205) X.1 X.2.1 dL_isClock_198 (by decide) (fun c_198 => ?_) (fun c_198 => by first | exact absurd c_198 (by decide) | exact absurd (by decide) c_198)
              refine lv_iconst (v := 0) X.1 X.2.1 dL_isClock_205 (by decide) ?_
              refine n_add (a := cn (seenP st 1 ey x0 y0 tx ty) k) (b := 0) X dL_isClock_206 ?_
              refine lv_istore (lv' := [(13, .int (nI ((cn (seenP st 1 ey x0 y0 tx ty) k) + 0))), (15, .int 0), (0, .ref x), (1, .int (nI z)), (2, .int (nI y)), (3, .ref cc), (4, .ref ee), (5, .ref aa), (6, .int (nI ey)), (7, .int (nI x0)), (8, .int (nI y0)), (9, .int (nI tx)), (10, .int (nI ty)), (11, .int (nI q)), (12, .int (nI (cn (seenP st q ey x0 y0 tx ty) k))), (14, .int (nI k))]) X.1 X.2.1 dL_isClock_207 hl (by decide) rfl (fun ls hl => ?_)
              refine lv_iload X.1 X.2.1 dL_isClock_209 (lv_at hl 14 rfl) ?_
              refine lv_iload X.1 X.2.1 dL_isClock_211 (lv_at hl 1 rfl) ?_
              refine lv_if_eq (x := 0) (tgt := 232) X.1 X.2.1 dL_isClock_213 (by decide) (fun c_213 => ?_) (fun c_213 => by first | exact absurd c_213 (by decide) | exact absurd (by decide) c_213)
              refine lv_iconst (v := 0) X.1 X.2.1 dL_isClock_232 (by decide) ?_
              refine n_add (a := cn (seenP st q ey x0 y0 tx ty) k) (b := 0) X dL_isClock_233 ?_
              refine lv_istore (lv' := [(12, .int (nI ((cn (seenP st q ey x0 y0 tx ty) k) + 0))), (13, .int (nI ((cn (seenP st 1 ey x0 y0 tx ty) k) + 0))), (15, .int 0), (0, .ref x), (1, .int (nI z)), (2, .int (nI y)), (3, .ref cc), (4, .ref ee), (5, .ref aa), (6, .int (nI ey)), (7, .int (nI x0)), (8, .int (nI y0)), (9, .int (nI tx)), (10, .int (nI ty)), (11, .int (nI q)), (14, .int (nI k))]) X.1 X.2.1 dL_isClock_234 hl (by decide) rfl (fun ls hl => ?_)
              refine lv_iinc (v := (nI (k + 1))) (lv' := [(14, .int (nI (k + 1))), (12, .int (nI ((cn (seenP st q ey x0 y0 tx ty) k) + 0))), (13, .int (nI ((cn (seenP st 1 ey x0 y0 tx ty) k) + 0))), (15, .int 0), (0, .ref x), (1, .int (nI z)), (2, .int (nI y)), (3, .ref cc), (4, .ref ee), (5, .ref aa), (6, .int (nI ey)), (7, .int (nI x0)), (8, .int (nI y0)), (9, .int (nI tx)), (10, .int (nI ty)), (11, .int (nI q))]) X.1 X.2.1 dL_isClock_236 hl (k := 15) rfl (nI_1 _) (by decide) rfl (fun ls hl => ?_)
              refine lv_goto (tgt := 103) X.1 X.2.1 dL_isClock_239 (by decide) ?_
              have e1 : (cn (seenP st 1 ey x0 y0 tx ty) (k + 1)) = (cn (seenP st 1 ey x0 y0 tx ty) k) + 0 := seen_f (by omega)
              have e2 : (cn (seenP st q ey x0 y0 tx ty) (k + 1)) = (cn (seenP st q ey x0 y0 tx ty) k) + 0 := seen_f (by omega)
              exact ih (k + 1) _ _ H locs ls (by omega) (by omega) (by omega) (by omega) S (by rw [e1, e2]; exact lv_sub hl [4, 5, 6, 7, 8, 9, 10, 11, 12, 13, 14, 15, 1, 2, 0] rfl)
            refine lv_aload_n X.1 X.2.1 dL_isClock_111 rfl (lv_at hl 0 rfl) ?_
            refine lv_iload X.1 X.2.1 dL_isClock_112 (lv_at hl 14 rfl) ?_
            refine lv_iconst (v := 3) X.1 X.2.1 dL_isClock_114 (by decide) ?_
            refine call_iq (run_V X S (u_about l hst G f st x hI hR0 k 3 hlt (by decide)) 2 gL_isClock_X9_about rfl rfl rfl (by decide +kernel) ⟨(by exact Nat.le_of_ble_eq_true rfl), (by exact Nat.le_of_ble_eq_true rfl)⟩ (RX.obj hR0) rfl rfl rfl hl.1 rfl (by exact Nat.le_of_ble_eq_true rfl) dL_isClock_115 ⟨(show _ ≤ 900 by omega), (show _ ≤ 5400 by omega)⟩) S (fun r_115 H locs hr_115 S => ?_)
            obtain rfl := (show r_115 = nI (st 7 k) from hr_115)
            refine z_le (a := st 7 k) (tgt := 191) X dL_isClock_118 (by decide) (fun n_118 => ?_) (fun n_118 => ?_)
            · refine lv_iconst (v := 0) X.1 X.2.1 dL_isClock_191 (by decide) ?_
              exact W.widen (by omega) (by omega) (J192 _ _ ls S (lv_sub hl [0, 1, 2, 3, 4, 5, 6, 7, 8, 9, 10, 11, 12, 13, 14] rfl))
            · refine lv_aload_n X.1 X.2.1 dL_isClock_121 rfl (lv_at hl 0 rfl) ?_
              refine lv_iload X.1 X.2.1 dL_isClock_122 (lv_at hl 14 rfl) ?_
              refine lv_iconst (v := 3) X.1 X.2.1 dL_isClock_124 (by decide) ?_
              refine call_iq (run_V X S (u_about l hst G f st x hI hR0 k 3 hlt (by decide)) 2 gL_isClock_X9_about rfl rfl rfl (by decide +kernel) ⟨(by exact Nat.le_of_ble_eq_true rfl), (by exact Nat.le_of_ble_eq_true rfl)⟩ (RX.obj hR0) rfl rfl rfl hl.1 rfl (by exact Nat.le_of_ble_eq_true rfl) dL_isClock_125 ⟨(show _ ≤ 900 by omega), (show _ ≤ 5400 by omega)⟩) S (fun r_125 H locs hr_125 S => ?_)
              obtain rfl := (show r_125 = nI (st 7 k) from hr_125)
              refine lv_aload X.1 X.2.1 dL_isClock_128 (lv_at hl 4 rfl) ?_
              refine lv_iload X.1 X.2.1 dL_isClock_130 (lv_at hl 6 rfl) ?_
              refine n_iald (i := ey) (v := (nI (st 9 ey))) X S hee (hE ey (by omega)) dL_isClock_132 ?_
              refine n_add (a := st 7 k) (b := st 9 ey) X dL_isClock_133 ?_
              refine lv_bipush (v := 9) X.1 X.2.1 dL_isClock_134 (by decide) ?_
              refine n_le (a := (st 7 k) + (st 9 ey)) (b := 9) (tgt := 191) X dL_isClock_136 (by decide) (fun n_136 => ?_) (fun n_136 => ?_)
              · refine lv_iconst (v := 0) X.1 X.2.1 dL_isClock_191 (by decide) ?_
                exact W.widen (by omega) (by omega) (J192 _ _ ls S (lv_sub hl [0, 1, 2, 3, 4, 5, 6, 7, 8, 9, 10, 11, 12, 13, 14] rfl))
              · refine lv_aload_n X.1 X.2.1 dL_isClock_139 rfl (lv_at hl 0 rfl) ?_
                refine lv_iload X.1 X.2.1 dL_isClock_140 (lv_at hl 14 rfl) ?_
                refine lv_iconst (v := 0) X.1 X.2.1 dL_isClock_142 (by decide) ?_
                refine call_iq (run_V X S (u_about l hst G f st x hI hR0 k 0 hlt (by decide)) 2 gL_isClock_X9_about rfl rfl rfl (by decide +kernel) ⟨(by exact Nat.le_of_ble_eq_true rfl), (by exact Nat.le_of_ble_eq_true rfl)⟩ (RX.obj hR0) rfl rfl rfl hl.1 rfl (by exact Nat.le_of_ble_eq_true rfl) dL_isClock_143 ⟨(show _ ≤ 900 by omega), (show _ ≤ 5400 by omega)⟩) S (fun r_143 H locs hr_143 S => ?_)
                obtain rfl := (show r_143 = nI (st 2 k) from hr_143)
                refine lv_iload X.1 X.2.1 dL_isClock_146 (lv_at hl 7 rfl) ?_
                refine n_lt (a := st 2 k) (b := x0) (tgt := 191) X dL_isClock_148 (by decide) (fun n_148 => ?_) (fun n_148 => ?_)
                · refine lv_iconst (v := 0) X.1 X.2.1 dL_isClock_191 (by decide) ?_
                  exact W.widen (by omega) (by omega) (J192 _ _ ls S (lv_sub hl [0, 1, 2, 3, 4, 5, 6, 7, 8, 9, 10, 11, 12, 13, 14] rfl))
                · refine lv_aload_n X.1 X.2.1 dL_isClock_151 rfl (lv_at hl 0 rfl) ?_
                  refine lv_iload X.1 X.2.1 dL_isClock_152 (lv_at hl 14 rfl) ?_
                  refine lv_iconst (v := 0) X.1 X.2.1 dL_isClock_154 (by decide) ?_
                  refine call_iq (run_V X S (u_about l hst G f st x hI hR0 k 0 hlt (by decide)) 2 gL_isClock_X9_about rfl rfl rfl (by decide +kernel) ⟨(by exact Nat.le_of_ble_eq_true rfl), (by exact Nat.le_of_ble_eq_true rfl)⟩ (RX.obj hR0) rfl rfl rfl hl.1 rfl (by exact Nat.le_of_ble_eq_true rfl) dL_isClock_155 ⟨(show _ ≤ 900 by omega), (show _ ≤ 5400 by omega)⟩) S (fun r_155 H locs hr_155 S => ?_)
                  obtain rfl := (show r_155 = nI (st 2 k) from hr_155)
                  refine lv_iload X.1 X.2.1 dL_isClock_158 (lv_at hl 9 rfl) ?_
                  refine n_gt (a := st 2 k) (b := tx) (tgt := 191) X dL_isClock_160 (by decide) (fun n_160 => ?_) (fun n_160 => ?_)
                  · refine lv_iconst (v := 0) X.1 X.2.1 dL_isClock_191 (by decide) ?_
                    exact W.widen (by omega) (by omega) (J192 _ _ ls S (lv_sub hl [0, 1, 2, 3, 4, 5, 6, 7, 8, 9, 10, 11, 12, 13, 14] rfl))
                  · refine lv_aload_n X.1 X.2.1 dL_isClock_163 rfl (lv_at hl 0 rfl) ?_
                    refine lv_iload X.1 X.2.1 dL_isClock_164 (lv_at hl 14 rfl) ?_
                    refine lv_iconst (v := 1) X.1 X.2.1 dL_isClock_166 (by decide) ?_
                    refine call_iq (run_V X S (u_about l hst G f st x hI hR0 k 1 hlt (by decide)) 2 gL_isClock_X9_about rfl rfl rfl (by decide +kernel) ⟨(by exact Nat.le_of_ble_eq_true rfl), (by exact Nat.le_of_ble_eq_true rfl)⟩ (RX.obj hR0) rfl rfl rfl hl.1 rfl (by exact Nat.le_of_ble_eq_true rfl) dL_isClock_167 ⟨(show _ ≤ 900 by omega), (show _ ≤ 5400 by omega)⟩) S (fun r_167 H locs hr_167 S => ?_)
                    obtain rfl := (show r_167 = nI (st 3 k) from hr_167)
                    refine lv_iload X.1 X.2.1 dL_isClock_170 (lv_at hl 8 rfl) ?_
                    refine n_lt (a := st 3 k) (b := y0) (tgt := 191) X dL_isClock_172 (by decide) (fun n_172 => ?_) (fun n_172 => ?_)
                    · refine lv_iconst (v := 0) X.1 X.2.1 dL_isClock_191 (by decide) ?_
                      exact W.widen (by omega) (by omega) (J192 _ _ ls S (lv_sub hl [0, 1, 2, 3, 4, 5, 6, 7, 8, 9, 10, 11, 12, 13, 14] rfl))
                    · refine lv_aload_n X.1 X.2.1 dL_isClock_175 rfl (lv_at hl 0 rfl) ?_
                      refine lv_iload X.1 X.2.1 dL_isClock_176 (lv_at hl 14 rfl) ?_
                      refine lv_iconst (v := 1) X.1 X.2.1 dL_isClock_178 (by decide) ?_
                      refine call_iq (run_V X S (u_about l hst G f st x hI hR0 k 1 hlt (by decide)) 2 gL_isClock_X9_about rfl rfl rfl (by decide +kernel) ⟨(by exact Nat.le_of_ble_eq_true rfl), (by exact Nat.le_of_ble_eq_true rfl)⟩ (RX.obj hR0) rfl rfl rfl hl.1 rfl (by exact Nat.le_of_ble_eq_true rfl) dL_isClock_179 ⟨(show _ ≤ 900 by omega), (show _ ≤ 5400 by omega)⟩) S (fun r_179 H locs hr_179 S => ?_)
                      obtain rfl := (show r_179 = nI (st 3 k) from hr_179)
                      refine lv_iload X.1 X.2.1 dL_isClock_182 (lv_at hl 10 rfl) ?_
                      refine n_gt (a := st 3 k) (b := ty) (tgt := 191) X dL_isClock_184 (by decide) (fun n_184 => ?_) (fun n_184 => ?_)
                      · refine lv_iconst (v := 0) X.1 X.2.1 dL_isClock_191 (by decide) ?_
                        exact W.widen (by omega) (by omega) (J192 _ _ ls S (lv_sub hl [0, 1, 2, 3, 4, 5, 6, 7, 8, 9, 10, 11, 12, 13, 14] rfl))
                      · exfalso
                        omega
    exact loop (st 0 0 + 1) 0 _ _ _ _ ls (by omega) (by omega) (by omega) (by omega) S (lv_sub hl [9, 10, 11, 12, 13, 14, 8, 7, 6, 5, 4, 3, 2, 1, 0] rfl)
  · refine lv_aload_n X.1 X.2.1 dL_isClock_6 rfl (lv_at hl 0 rfl) ?_
    refine lv_iconst (v := 0) X.1 X.2.1 dL_isClock_7 (by decide) ?_
    refine lv_iconst (v := 0) X.1 X.2.1 dL_isClock_8 (by decide) ?_
    refine lv_iconst (v := 0) X.1 X.2.1 dL_isClock_9 (by decide) ?_
    refine lv_iconst (v := 0) X.1 X.2.1 dL_isClock_10 (by decide) ?_
    refine lv_iconst (v := 0) X.1 X.2.1 dL_isClock_11 (by decide) ?_
    refine lv_iconst (v := 0) X.1 X.2.1 dL_isClock_12 (by decide) ?_
    refine acall_l (xrun_SX X S (a_age0 l hst G f st x hI hR0 n_3) 7 gL_isClock_L_asks rfl rfl rfl (by decide +kernel) ⟨(by exact Nat.le_of_ble_eq_true rfl), (by exact Nat.le_of_ble_eq_true rfl)⟩ rfl hl.1 rfl (by exact Nat.le_of_ble_eq_true rfl) dL_isClock_13 ⟨(by exact Nat.le_of_ble_eq_true rfl), (by exact Nat.le_of_ble_eq_true rfl)⟩) S (fun r_13 f_13 H locs hr_13 S => ?_)
    obtain ⟨rfl, ef9⟩ := hr_13
    rw [ef9] at S
    refine r_ldc2 (v := (-70007)) X (by decide +kernel) dL_isClock_16 ?_
    refine W.lcmp X.1 X.2.1 dL_isClock_19 ?_
    refine r_toi (lgz _) ?_
    refine lv_if_ne (x := 0) (tgt := 27) X.1 X.2.1 dL_isClock_20 (by decide) (fun c_20 => by first | exact absurd c_20 (by decide) | exact absurd (by decide) c_20) (fun c_20 => ?_)
    refine lv_iconst (v := 1) X.1 X.2.1 dL_isClock_23 (by decide) ?_
    refine lv_goto (tgt := 28) X.1 X.2.1 dL_isClock_24 (by decide) ?_
    refine e_zq X hr S (by first | omega | exact Nat.le_of_ble_eq_true rfl) (by first | omega | exact Nat.le_of_ble_eq_true rfl) dL_isClock_28 rfl ?_
    rfl
