/-! the law: lessens -/
theorem flo_e {st : St} {x0 y0 tx ty v k : Nat} (h1 : st 2 k < 16) (h2 : st 3 k < 16) : (x0 ≤ st 2 k ∧ st 2 k ≤ tx ∧ y0 ≤ st 3 k ∧ st 3 k ≤ ty → v = lessC st (floodφ x0 y0 tx ty v) k) ∧ (¬ (x0 ≤ st 2 k ∧ st 2 k ≤ tx ∧ y0 ≤ st 3 k ∧ st 3 k ≤ ty) → 0 = lessC st (floodφ x0 y0 tx ty v) k) := by
  unfold lessC floodφ
  rw [show (16 * st 3 k + st 2 k) % 16 = st 2 k by omega, show (16 * st 3 k + st 2 k) / 16 = st 3 k by omega]
  exact ⟨fun h => (if_pos h).symm, fun h => (if_neg h).symm⟩
theorem sof_e {st : St} {v k g : Nat} (hg : g = st 1 (16 * st 3 k + st 2 k)) (h2 : g ≤ 2) : (g = 0 → v / 2 = lessC st (softφ (st 1) v) k) ∧ (¬ g = 0 → g = 1 → v = lessC st (softφ (st 1) v) k) ∧ (¬ g = 0 → ¬ g = 1 → 2 * v = lessC st (softφ (st 1) v) k) := by
  unfold lessC softφ
  rw [← hg]
  refine ⟨fun h => ?_, fun _ h => ?_, fun h i => ?_⟩
  · rw [if_neg (by omega), if_neg (by omega)]
  · rw [if_pos h]
  · rw [if_neg i, if_pos (by omega)]
theorem gonL_t {st : St} {φ : Nat → Nat} {k : Nat} (h : 0 < st 7 k ∧ st 7 k - lessC st φ k = 0) : cn (goneL st φ) (k + 1) = cn (goneL st φ) k + 1 := cn_t (decide_eq_true ⟨h.1, by omega⟩)
theorem gonL_f {st : St} {φ : Nat → Nat} {k : Nat} (h : ¬ (0 < st 7 k ∧ st 7 k - lessC st φ k = 0)) : cn (goneL st φ) (k + 1) = cn (goneL st φ) k := cn_f (decide_eq_false (fun q => h ⟨q.1, by omega⟩))
set_option maxRecDepth 100000 in
set_option maxHeartbeats 4000000 in
/-- lessens -/
theorem m_lessens (l : Launch) (hst : l.stackTraces = false) (G : cx_G) (f : Wd) (st : St) (x : Nat) (cc gg dd ee aa : Nat) (C w D E : Nat → Int32) (A : Nat → Int64) (h0 : LA G f st x cc gg dd ee aa C w D E A) (j : Nat) (hB : LB st j) (hj : j < 100) (z y : Nat) (hz : z < 2 ^ 30) (hy : y < 2 ^ 30) : MI l G yL_lessens wsL_lessens 10 267 500 3300 [.ref x, .int (nI z), .int (nI y), .ref cc, .ref gg, .ref dd] f (fun r f' => r = 1 ∧ LSt G x cc gg dd ee aa (j + 1) f') := by
  refine cx_body (cc := cL_lessens) (n := 22) (ret := (some .boolean)) (by decide +kernel) rfl (Nat.le_of_ble_eq_true rfl) ?_
  intro p0 e0 s0 m0 b0 meth0 c0 ls X hr hnm S hl
  have X : cxC G p0 l _ c0 cL_lessens 22 m0 meth0 s0 _ RL wsL_lessens := X
  have hl : lv_has ls 22 [(0, .ref x), (1, .int (nI z)), (2, .int (nI y)), (3, .ref cc), (4, .ref gg), (5, .ref dd)] := hl
  obtain ⟨hI, hR0, hcc, hgg, hdd, hee, haa, ⟨hC0, hC1, hC3, hC4⟩, hgr, hE, hA⟩ := id h0
  obtain ⟨h57, hbt, hbA⟩ := id hB
  have hn200 := hI.1.1
  refine lv_iload_n X.1 X.2.1 dL_lessens_0 rfl (lv_at hl 1 rfl) ?_
  refine lv_bipush (v := 16) X.1 X.2.1 dL_lessens_1 (by decide) ?_
  refine n_rem (a := z) (b := 16) X dL_lessens_3 ?_
  obtain ⟨x0, hx0, ex0⟩ : ∃ z9 : Nat, (z9 < 16) ∧ nI (z % 16) = nI z9 := ⟨_, Nat.mod_lt _ (by omega), rfl⟩
  refine r_toi ex0 ?_
  refine lv_istore (lv' := [(6, .int (nI x0)), (0, .ref x), (1, .int (nI z)), (2, .int (nI y)), (3, .ref cc), (4, .ref gg), (5, .ref dd)]) X.1 X.2.1 dL_lessens_4 hl (by decide) rfl (fun ls hl => ?_)
  refine lv_iload_n X.1 X.2.1 dL_lessens_6 rfl (lv_at hl 2 rfl) ?_
  refine lv_bipush (v := 16) X.1 X.2.1 dL_lessens_7 (by decide) ?_
  refine n_div (a := z) (b := 16) X dL_lessens_9 ?_
  refine lv_bipush (v := 16) X.1 X.2.1 dL_lessens_10 (by decide) ?_
  refine n_rem (a := z / 16) (b := 16) X dL_lessens_12 ?_
  obtain ⟨y0, hy0, ey0⟩ : ∃ z9 : Nat, (z9 < 16) ∧ nI ((z / 16) % 16) = nI z9 := ⟨_, Nat.mod_lt _ (by omega), rfl⟩
  refine r_toi ey0 ?_
  refine lv_istore (lv' := [(7, .int (nI y0)), (6, .int (nI x0)), (0, .ref x), (1, .int (nI z)), (2, .int (nI y)), (3, .ref cc), (4, .ref gg), (5, .ref dd)]) X.1 X.2.1 dL_lessens_13 hl (by decide) rfl (fun ls hl => ?_)
  refine lv_iload X.1 X.2.1 dL_lessens_15 (lv_at hl 1 rfl) ?_
  refine lv_iload_n X.1 X.2.1 dL_lessens_17 rfl (lv_at hl 3 rfl) ?_
  refine lv_sipush (v := 256) X.1 X.2.1 dL_lessens_18 (by decide) ?_
  refine n_div (a := z) (b := 256) X dL_lessens_21 ?_
  refine lv_bipush (v := 16) X.1 X.2.1 dL_lessens_22 (by decide) ?_
  refine lv_iload X.1 X.2.1 dL_lessens_24 (lv_at hl 1 rfl) ?_
  refine n_sub (a := 16) (b := x0) X dL_lessens_26 ?_
  refine n_rem (a := z / 256) (b := 16 - x0) X dL_lessens_27 ?_
  refine n_add (a := x0) (b := (z / 256) % (16 - x0)) X dL_lessens_28 ?_
  have htx0 := Nat.mod_lt (z / 256) (show 0 < 16 - x0 by omega)
  obtain ⟨tx, htx, etx⟩ : ∃ z9 : Nat, (x0 ≤ z9 ∧ z9 < 16) ∧ nI (x0 + ((z / 256) % (16 - x0))) = nI z9 := ⟨_, ⟨by omega, by omega⟩, rfl⟩
  refine r_toi etx ?_
  refine lv_istore (lv' := [(8, .int (nI tx)), (7, .int (nI y0)), (6, .int (nI x0)), (0, .ref x), (1, .int (nI z)), (2, .int (nI y)), (3, .ref cc), (4, .ref gg), (5, .ref dd)]) X.1 X.2.1 dL_lessens_29 hl (by decide) rfl (fun ls hl => ?_)
  refine lv_iload X.1 X.2.1 dL_lessens_31 (lv_at hl 1 rfl) ?_
  refine lv_iload_n X.1 X.2.1 dL_lessens_33 rfl (lv_at hl 4 rfl) ?_
  refine lv_sipush (v := 4096) X.1 X.2.1 dL_lessens_34 (by decide) ?_
  refine n_div (a := z) (b := 4096) X dL_lessens_37 ?_
  refine lv_bipush (v := 16) X.1 X.2.1 dL_lessens_38 (by decide) ?_
  refine lv_iload X.1 X.2.1 dL_lessens_40 (lv_at hl 1 rfl) ?_
  refine n_sub (a := 16) (b := y0) X dL_lessens_42 ?_
  refine n_rem (a := z / 4096) (b := 16 - y0) X dL_lessens_43 ?_
  refine n_add (a := y0) (b := (z / 4096) % (16 - y0)) X dL_lessens_44 ?_
  have hty0 := Nat.mod_lt (z / 4096) (show 0 < 16 - y0 by omega)
  obtain ⟨ty, hty, ety⟩ : ∃ z9 : Nat, (y0 ≤ z9 ∧ z9 < 16) ∧ nI (y0 + ((z / 4096) % (16 - y0))) = nI z9 := ⟨_, ⟨by omega, by omega⟩, rfl⟩
  refine r_toi ety ?_
  refine lv_istore (lv' := [(9, .int (nI ty)), (8, .int (nI tx)), (7, .int (nI y0)), (6, .int (nI x0)), (0, .ref x), (1, .int (nI z)), (2, .int (nI y)), (3, .ref cc), (4, .ref gg), (5, .ref dd)]) X.1 X.2.1 dL_lessens_45 hl (by decide) rfl (fun ls hl => ?_)
  refine lv_iconst (v := 1) X.1 X.2.1 dL_lessens_47 (by decide) ?_
  refine lv_iload_n X.1 X.2.1 dL_lessens_48 rfl (lv_at hl 6 rfl) ?_
  refine lv_iconst (v := 2) X.1 X.2.1 dL_lessens_49 (by decide) ?_
  refine n_div (a := y) (b := 2) X dL_lessens_50 ?_
  refine lv_bipush (v := 40) X.1 X.2.1 dL_lessens_51 (by decide) ?_
  refine n_rem (a := y / 2) (b := 40) X dL_lessens_53 ?_
  refine n_add (a := 1) (b := (y / 2) % 40) X dL_lessens_54 ?_
  obtain ⟨v, hv, ev⟩ : ∃ z9 : Nat, (1 ≤ z9 ∧ z9 ≤ 40) ∧ nI (1 + ((y / 2) % 40)) = nI z9 := ⟨_, ⟨by omega, by omega⟩, rfl⟩
  refine r_toi ev ?_
  obtain ⟨htx1, htx2⟩ := htx
  obtain ⟨hty1, hty2⟩ := hty
  obtain ⟨hv1, hv40⟩ := hv
  refine lv_istore (lv' := [(10, .int (nI v)), (9, .int (nI ty)), (8, .int (nI tx)), (7, .int (nI y0)), (6, .int (nI x0)), (0, .ref x), (1, .int (nI z)), (2, .int (nI y)), (3, .ref cc), (4, .ref gg), (5, .ref dd)]) X.1 X.2.1 dL_lessens_55 hl (by decide) rfl (fun ls hl => ?_)
  refine lv_iconst (v := 0) X.1 X.2.1 dL_lessens_57 (by decide) ?_
  refine lv_istore (lv' := [(11, .int 0), (10, .int (nI v)), (9, .int (nI ty)), (8, .int (nI tx)), (7, .int (nI y0)), (6, .int (nI x0)), (0, .ref x), (1, .int (nI z)), (2, .int (nI y)), (3, .ref cc), (4, .ref gg), (5, .ref dd)]) X.1 X.2.1 dL_lessens_58 hl (by decide) rfl (fun ls hl => ?_)
  refine W_genQ (fun Q9 hQ9 => ?_)
  have loopD : ∀ (N : Nat) (k : Nat) (fk : Wd) (Dk : Nat → Int32) (ck : Nat) (sk : Nat) (H : Heap) (locs : List Loc) (ls : Array Slot), k ≤ st 0 0 → st 0 0 < k + N → fk dd = some (2003, eI G 64 Dk) → md (fun t => t = 2003) f fk → (∀ i, i < k → Dk i = nI (st 7 i)) → ck ≤ 2 * k → sk ≤ 12 * k → cxS G s0 fk H locs → lv_has ls 22 [(10, .int (nI v)), (9, .int (nI ty)), (8, .int (nI tx)), (7, .int (nI y0)), (6, .int (nI x0)), (0, .ref x), (1, .int (nI z)), (2, .int (nI y)), (3, .ref cc), (4, .ref gg), (5, .ref dd), (11, .int (nI k))] → W p0 l e0 ({ frames := 10, cells := 500, slots := 3300, locals := 267 } : Room) s0 m0 ([.ref x, .int (nI z), .int (nI y), .ref cc, .ref gg, .ref dd] : List Value).toArray b0 meth0 c0 H locs ck sk Q9 (F0 m0 60 ls []) := by
    intro N
    induction N with
    | zero =>
      intro k fk Dk ck sk  H locs ls hk hN hdk hmd hDk hck hsk S hl
      exfalso
      omega
    | succ N ih =>
      intro k fk Dk ck sk  H locs ls hk hN hdk hmd hDk hck hsk S hl
      have hRk := hR0.kept (md_mono hmd (fun t q => by subst q; unfold tX; omega)) hn200
      have hcc_k := hmd _ _ _ hcc (by omega)
      have hgg_k := hmd _ _ _ hgg (by omega)
      have hee_k := hmd _ _ _ hee (by omega)
      have haa_k := hmd _ _ _ haa (by omega)
      refine lv_iload X.1 X.2.1 dL_lessens_60 (lv_at hl 11 rfl) ?_
      refine lv_aload_n X.1 X.2.1 dL_lessens_62 rfl (lv_at hl 8 rfl) ?_
      refine lv_iconst (v := 0) X.1 X.2.1 dL_lessens_63 (by decide) ?_
      refine n_iald (i := 0) (v := (nI (st 0 0))) X S hcc_k hC0 dL_lessens_64 ?_
      refine n_ge (a := k) (b := st 0 0) (tgt := 86) X dL_lessens_65 (by decide) (fun n_65 => ?_) (fun n_65 => ?_)
      · have hkn : k = st 0 0 := by omega
        rw [hkn] at hck hsk hDk
        clear ih
        refine lv_iload_n X.1 X.2.1 dL_lessens_86 rfl (lv_at hl 7 rfl) ?_
        refine lv_iconst (v := 2) X.1 X.2.1 dL_lessens_87 (by decide) ?_
        refine n_rem (a := y) (b := 2) X dL_lessens_88 ?_
        refine z_ne (a := y % 2) (tgt := 110) X dL_lessens_89 (by decide) (fun n_89 => ?_) (fun n_89 => ?_)
        · refine lv_aload_n X.1 X.2.1 dL_lessens_110 rfl (lv_at hl 5 rfl) ?_
          refine lv_iconst (v := 2) X.1 X.2.1 dL_lessens_111 (by decide) ?_
          refine lv_iload X.1 X.2.1 dL_lessens_112 (lv_at hl 0 rfl) ?_
          refine lv_iconst (v := 0) X.1 X.2.1 dL_lessens_114 (by decide) ?_
          refine lv_iconst (v := 0) X.1 X.2.1 dL_lessens_115 (by decide) ?_
          refine lv_iconst (v := 0) X.1 X.2.1 dL_lessens_116 (by decide) ?_
          refine lv_iconst (v := 0) X.1 X.2.1 dL_lessens_117 (by decide) ?_
          refine acall_l (xrun_SX X S (a_soften l hst G fk st x hI hRk v hv1 hv40 (by omega)) 7 gL_lessens_L_asks rfl rfl rfl (by decide +kernel) ⟨(by exact Nat.le_of_ble_eq_true rfl), (by exact Nat.le_of_ble_eq_true rfl)⟩ rfl hl.1 rfl (by exact Nat.le_of_ble_eq_true rfl) dL_lessens_118 ⟨(show _ ≤ 500 by omega), (show _ ≤ 3300 by omega)⟩) S (fun r_118 f_118 H locs hr_118 S => ?_)
          obtain ⟨hr118, hRc_118, hmc_118⟩ := hr_118
          have hcc_k_118 := hmc_118 _ _ _ hcc_k (by unfold tX; omega)
          have hgg_k_118 := hmc_118 _ _ _ hgg_k (by unfold tX; omega)
          have hee_k_118 := hmc_118 _ _ _ hee_k (by unfold tX; omega)
          have haa_k_118 := hmc_118 _ _ _ haa_k (by unfold tX; omega)
          have hdk_118 := hmc_118 _ _ _ hdk (by unfold tX; omega)
          have hI_118 : sInv (lessSt st (softφ (st 1) v)) := sInv_less hI (by omega) (soft_le (by omega))
          obtain rfl := (show r_118 = lN (cn (goneL st (softφ (st 1) v)) (st 0 0)) from hr118)
          obtain ⟨st1, est1⟩ : ∃ z9 : St, z9 = lessSt st (softφ (st 1) v) := ⟨_, rfl⟩
          rw [← est1] at hRc_118 hI_118
          have ho : ∀ (B i : Nat), (B = 0 ∧ i ≠ 1) ∨ (1 ≤ B ∧ B ≤ 6) ∨ (9 ≤ B ∧ B < 1000) → st1 B i = st B i := fun B i h => by rw [est1]; exact less_e _ _ (by omega)
          have hn1 : st1 0 0 = st 0 0 := ho 0 0 (by omega)
          have ht1 : st1 0 1 = st 0 1 + 1 := by rw [est1]; exact less_t _ _
          have he7 : ∀ i, i < st 0 0 → st1 7 i = st 7 i - lessC st (softφ (st 1) v) i := fun i h => by rw [est1]; exact less_d _ _ h
          have hbc := cn_le (goneL st (softφ (st 1) v)) (st 0 0)
          refine lv_lstore (lv' := [(11, .long (lN (cn (goneL st (softφ (st 1) v)) (st 0 0)))), (10, .int (nI v)), (9, .int (nI ty)), (8, .int (nI tx)), (7, .int (nI y0)), (6, .int (nI x0)), (0, .ref x), (1, .int (nI z)), (2, .int (nI y)), (3, .ref cc), (4, .ref gg), (5, .ref dd)]) X.1 X.2.1 dL_lessens_121 hl (by decide) rfl (fun ls hl => ?_)
          refine lv_lconst (v := 0) X.1 X.2.1 dL_lessens_123 (by decide) ?_
          refine lv_lstore (lv' := [(13, .long 0), (11, .long (lN (cn (goneL st (softφ (st 1) v)) (st 0 0)))), (10, .int (nI v)), (9, .int (nI ty)), (8, .int (nI tx)), (7, .int (nI y0)), (6, .int (nI x0)), (0, .ref x), (1, .int (nI z)), (2, .int (nI y)), (3, .ref cc), (4, .ref gg), (5, .ref dd)]) X.1 X.2.1 dL_lessens_124 hl (by decide) rfl (fun ls hl => ?_)
          refine lv_iconst (v := 1) X.1 X.2.1 dL_lessens_126 (by decide) ?_
          refine lv_istore (lv' := [(15, .int 1), (13, .long 0), (11, .long (lN (cn (goneL st (softφ (st 1) v)) (st 0 0)))), (10, .int (nI v)), (9, .int (nI ty)), (8, .int (nI tx)), (7, .int (nI y0)), (6, .int (nI x0)), (0, .ref x), (1, .int (nI z)), (2, .int (nI y)), (3, .ref cc), (4, .ref gg), (5, .ref dd)]) X.1 X.2.1 dL_lessens_127 hl (by decide) rfl (fun ls hl => ?_)
          refine lv_iconst (v := 0) X.1 X.2.1 dL_lessens_129 (by decide) ?_
          refine lv_istore (lv' := [(16, .int 0), (15, .int 1), (13, .long 0), (11, .long (lN (cn (goneL st (softφ (st 1) v)) (st 0 0)))), (10, .int (nI v)), (9, .int (nI ty)), (8, .int (nI tx)), (7, .int (nI y0)), (6, .int (nI x0)), (0, .ref x), (1, .int (nI z)), (2, .int (nI y)), (3, .ref cc), (4, .ref gg), (5, .ref dd)]) X.1 X.2.1 dL_lessens_130 hl (by decide) rfl (fun ls hl => ?_)
          obtain ⟨ck0, eck0⟩ : ∃ z9 : Nat, z9 = ck + 6 := ⟨_, rfl⟩
          obtain ⟨sk0, esk0⟩ : ∃ z9 : Nat, z9 = sk + 332 := ⟨_, rfl⟩
          have loop2 : ∀ (N : Nat) (k : Nat) (ck : Nat) (sk : Nat) (H : Heap) (locs : List Loc) (ls : Array Slot), k ≤ st 0 0 → st 0 0 < k + N → ck ≤ ck0 + 6 * k → sk ≤ sk0 + 36 * k → cxS G s0 f_118 H locs → lv_has ls 22 [(0, .ref x), (2, .int (nI y)), (3, .ref cc), (4, .ref gg), (5, .ref dd), (6, .int (nI x0)), (7, .int (nI y0)), (8, .int (nI tx)), (9, .int (nI ty)), (10, .int (nI v)), (11, .long (lN (cn (goneL st (softφ (st 1) v)) (st 0 0)))), (13, .long (lN (cn (goneL st (softφ (st 1) v)) k))), (15, .int 1), (16, .int (nI k))] → W p0 l e0 ({ frames := 10, cells := 500, slots := 3300, locals := 267 } : Room) s0 m0 ([.ref x, .int (nI z), .int (nI y), .ref cc, .ref gg, .ref dd] : List Value).toArray b0 meth0 c0 H locs ck sk Q9 (F0 m0 132 ls []) := by
            intro N
            induction N with
            | zero =>
              intro k ck sk  H locs ls hk hN hck hsk S hl
              exfalso
              omega
            | succ N ih =>
              intro k ck sk  H locs ls hk hN hck hsk S hl
              refine lv_iload X.1 X.2.1 dL_lessens_132 (lv_at hl 13 rfl) ?_
              refine lv_aload_n X.1 X.2.1 dL_lessens_134 rfl (lv_at hl 2 rfl) ?_
              refine lv_iconst (v := 0) X.1 X.2.1 dL_lessens_135 (by decide) ?_
              refine n_iald (i := 0) (v := (nI (st 0 0))) X S hcc_k_118 hC0 dL_lessens_136 ?_
              refine n_ge (a := k) (b := st 0 0) (tgt := 318) X dL_lessens_137 (by decide) (fun n_137 => ?_) (fun n_137 => ?_)
              · have hkn : k = st 0 0 := by omega
                rw [hkn] at hl
                clear ih
                have hn1x : st1 0 0 ≤ 200 := hI_118.1.1
                refine lv_aload_n X.1 X.2.1 dL_lessens_318 rfl (lv_at hl 2 rfl) ?_
                refine lv_iconst (v := 2) X.1 X.2.1 dL_lessens_319 (by decide) ?_
                refine lv_dup2_11 X.1 X.2.1 dL_lessens_320 rfl rfl ?_
                refine n_iald (i := 2) (v := (C 2)) X S hcc_k_118 rfl dL_lessens_321 ?_
                refine lv_iconst (v := 1) X.1 X.2.1 dL_lessens_322 (by decide) ?_
                refine lv_iadd X.1 X.2.1 dL_lessens_323 ?_
                refine n_iast (i := 2) (v := ((C 2) + 1)) X S hcc_k_118 (by decide) dL_lessens_324 (fun f_324 H locs ef_324 S => ?_)
                have hcc_k_324 : f_324 cc = some (2001, eI G 5 (upd C 2 ((C 2) + 1))) := by rw [ef_324]; exact wu_self _ _ _ _
                have hgg_k_324 : f_324 gg = some (2002, eI G 16 w) := by rw [ef_324]; exact wu_get hcc_k_118 hgg_k_118 (by decide)
                have hee_k_324 : f_324 ee = some (2004, eI G 6 E) := by rw [ef_324]; exact wu_get hcc_k_118 hee_k_118 (by decide)
                have haa_k_324 : f_324 aa = some (2005, eJ G 16 A) := by rw [ef_324]; exact wu_get hcc_k_118 haa_k_118 (by decide)
                have hdk_324 : f_324 dd = some (2003, eI G 64 Dk) := by rw [ef_324]; exact wu_get hcc_k_118 hdk_118 (by decide)
                have hR_324 : RX G f_324 st1 x := hRc_118.kept (by rw [ef_324]; exact md_mono (md_put hcc_k_118) (fun t q => by subst q; unfold tX; omega)) hn1x
                refine lv_iload X.1 X.2.1 dL_lessens_325 (lv_at hl 12 rfl) ?_
                refine lv_if_eq (x := 1) (tgt := 342) X.1 X.2.1 dL_lessens_327 (by decide) (fun c_327 => by first | exact absurd c_327 (by decide) | exact absurd (by decide) c_327) (fun c_327 => ?_)
                refine lv_lload X.1 X.2.1 dL_lessens_330 (lv_at hl 10 rfl) ?_
                refine lv_lload X.1 X.2.1 dL_lessens_332 (lv_at hl 11 rfl) ?_
                refine ll_ne (a := cn (goneL st (softφ (st 1) v)) (st 0 0)) (b := cn (goneL st (softφ (st 1) v)) (st 0 0)) (tgt := 342) X dL_lessens_334 dL_lessens_335 (by decide) (fun n_334 => by exfalso; omega) (fun n_334 => ?_)
                refine lv_iconst (v := 1) X.1 X.2.1 dL_lessens_338 (by decide) ?_
                refine lv_goto (tgt := 343) X.1 X.2.1 dL_lessens_339 (by decide) ?_
                subst hQ9
                refine e_z X hr S (by omega) (by omega) dL_lessens_343 rfl ?_
                refine ⟨rfl, st1, ⟨_, _, _, _, _, hI_118, hR_324, hcc_k_324, hgg_k_324, hdk_324, hee_k_324, haa_k_324, ⟨by rw [pk_un (by omega), hC0, hn1], by rw [pk_un (by omega), hC1, ho 0 4 (by omega)], by rw [pk_un (by omega), hC3, ho 0 2 (by omega)], by rw [pk_un (by omega), hC4, ho 0 3 (by omega)]⟩, grdL_cong hgr (fun c _ => ho 1 c (by omega)), ?_, ?_⟩, by omega, by omega, ?_⟩
                · rw [ho 0 2 (by omega)]
                  exact fun i hi => by rw [ho 9 i (by omega)]; exact hE i hi
                · rw [ho 0 3 (by omega)]
                  exact fun i hi => by rw [ho 10 i (by omega), ho 11 i (by omega)]; exact hA i hi
                · rw [ho 0 3 (by omega)]
                  exact fun i hi => by rw [ho 10 i (by omega), ho 11 i (by omega)]; exact hbA i hi
              · have hlt : k < st 0 0 := by omega
                have hc := hI.2.2.1 k hlt
                unfold cIn at hc
                obtain ⟨q1, q2, q3, q4, q5, q6, q7, q8⟩ := hc
                have hbk := cn_le (goneL st (softφ (st 1) v)) k
                obtain ⟨g, eg⟩ : ∃ z9 : Nat, z9 = st 1 (16 * st 3 k + st 2 k) := ⟨_, rfl⟩
                have hg2 : g ≤ 2 := by rw [eg]; exact hI.2.1 _ (by omega)
                have hle := sof_e (st := st) (v := v) (k := k) (g := g) eg hg2
                refine lv_iload X.1 X.2.1 dL_lessens_140 (lv_at hl 12 rfl) ?_
                refine lv_if_eq (x := 1) (tgt := 318) X.1 X.2.1 dL_lessens_142 (by decide) (fun c_142 => by first | exact absurd c_142 (by decide) | exact absurd (by decide) c_142) (fun c_142 => ?_)
                refine lv_aload_n X.1 X.2.1 dL_lessens_145 rfl (lv_at hl 0 rfl) ?_
                refine lv_iload X.1 X.2.1 dL_lessens_146 (lv_at hl 13 rfl) ?_
                refine lv_iconst (v := 0) X.1 X.2.1 dL_lessens_148 (by decide) ?_
                refine call_iq (run_V X S (u_about l hst G f_118 st1 x hI_118 hRc_118 k 0 (by omega) (by decide)) 2 gL_lessens_X9_about rfl rfl rfl (by decide +kernel) ⟨(by exact Nat.le_of_ble_eq_true rfl), (by exact Nat.le_of_ble_eq_true rfl)⟩ (RX.obj hRc_118) rfl rfl rfl hl.1 rfl (by exact Nat.le_of_ble_eq_true rfl) dL_lessens_149 ⟨(show _ ≤ 500 by omega), (show _ ≤ 3300 by omega)⟩) S (fun r_149 H locs hr_149 S => ?_)
                obtain rfl := (show r_149 = nI (st 2 k) from hr_149.trans (congrArg nI (ho 2 k (by omega))))
                refine lv_istore (lv' := [(17, .int (nI (st 2 k))), (0, .ref x), (2, .int (nI y)), (3, .ref cc), (4, .ref gg), (5, .ref dd), (6, .int (nI x0)), (7, .int (nI y0)), (8, .int (nI tx)), (9, .int (nI ty)), (10, .int (nI v)), (11, .long (lN (cn (goneL st (softφ (st 1) v)) (st 0 0)))), (13, .long (lN (cn (goneL st (softφ (st 1) v)) k))), (15, .int 1), (16, .int (nI k))]) X.1 X.2.1 dL_lessens_152 hl (by decide) rfl (fun ls hl => ?_)
                refine lv_aload_n X.1 X.2.1 dL_lessens_154 rfl (lv_at hl 1 rfl) ?_
                refine lv_iload X.1 X.2.1 dL_lessens_155 (lv_at hl 14 rfl) ?_
                refine lv_iconst (v := 1) X.1 X.2.1 dL_lessens_157 (by decide) ?_
                refine call_iq (run_V X S (u_about l hst G f_118 st1 x hI_118 hRc_118 k 1 (by omega) (by decide)) 2 gL_lessens_X9_about rfl rfl rfl (by decide +kernel) ⟨(by exact Nat.le_of_ble_eq_true rfl), (by exact Nat.le_of_ble_eq_true rfl)⟩ (RX.obj hRc_118) rfl rfl rfl hl.1 rfl (by exact Nat.le_of_ble_eq_true rfl) dL_lessens_158 ⟨(show _ ≤ 500 by omega), (show _ ≤ 3300 by omega)⟩) S (fun r_158 H locs hr_158 S => ?_)
                obtain rfl := (show r_158 = nI (st 3 k) from hr_158.trans (congrArg nI (ho 3 k (by omega))))
                refine lv_istore (lv' := [(18, .int (nI (st 3 k))), (17, .int (nI (st 2 k))), (0, .ref x), (2, .int (nI y)), (3, .ref cc), (4, .ref gg), (5, .ref dd), (6, .int (nI x0)), (7, .int (nI y0)), (8, .int (nI tx)), (9, .int (nI ty)), (10, .int (nI v)), (11, .long (lN (cn (goneL st (softφ (st 1) v)) (st 0 0)))), (13, .long (lN (cn (goneL st (softφ (st 1) v)) k))), (15, .int 1), (16, .int (nI k))]) X.1 X.2.1 dL_lessens_161 hl (by decide) rfl (fun ls hl => ?_)
                refine lv_aload X.1 X.2.1 dL_lessens_163 (lv_at hl 5 rfl) ?_
                refine lv_iload X.1 X.2.1 dL_lessens_165 (lv_at hl 1 rfl) ?_
                refine lv_iload X.1 X.2.1 dL_lessens_167 (lv_at hl 0 rfl) ?_
                refine call_ip (run_S X S (m_groundOf l G f_118 gg 2002 w (st 1) hgg_k_118 hgr (st 2 k) (st 3 k) q1 q2) 3 gL_lessens_L_groundOf rfl rfl rfl (by decide +kernel) ⟨(by exact Nat.le_of_ble_eq_true rfl), (by exact Nat.le_of_ble_eq_true rfl)⟩ rfl hl.1 rfl (by exact Nat.le_of_ble_eq_true rfl) dL_lessens_169 ⟨(show _ ≤ 500 by omega), (show _ ≤ 3300 by omega)⟩) S (fun r_169 H locs hr_169 S => ?_)
                obtain rfl := (show r_169 = nI g from hr_169.trans (by rw [eg]))
                refine lv_istore (lv' := [(19, .int (nI g)), (18, .int (nI (st 3 k))), (17, .int (nI (st 2 k))), (0, .ref x), (2, .int (nI y)), (3, .ref cc), (4, .ref gg), (5, .ref dd), (6, .int (nI x0)), (7, .int (nI y0)), (8, .int (nI tx)), (9, .int (nI ty)), (10, .int (nI v)), (11, .long (lN (cn (goneL st (softφ (st 1) v)) (st 0 0)))), (13, .long (lN (cn (goneL st (softφ (st 1) v)) k))), (15, .int 1), (16, .int (nI k))]) X.1 X.2.1 dL_lessens_172 hl (by decide) rfl (fun ls hl => ?_)
                have J244 : ∀ (H : Heap) (locs : List Loc) (ls : Array Slot), cxS G s0 f_118 H locs → lv_has ls 22 [(19, .int (nI g)), (18, .int (nI (st 3 k))), (17, .int (nI (st 2 k))), (0, .ref x), (2, .int (nI y)), (3, .ref cc), (4, .ref gg), (5, .ref dd), (6, .int (nI x0)), (7, .int (nI y0)), (8, .int (nI tx)), (9, .int (nI ty)), (10, .int (nI v)), (11, .long (lN (cn (goneL st (softφ (st 1) v)) (st 0 0)))), (13, .long (lN (cn (goneL st (softφ (st 1) v)) k))), (15, .int 1), (16, .int (nI k))] → W p0 l e0 ({ frames := 10, cells := 500, slots := 3300, locals := 267 } : Room) s0 m0 ([.ref x, .int (nI z), .int (nI y), .ref cc, .ref gg, .ref dd] : List Value).toArray b0 meth0 c0 H locs (ck + 2 + 2 + 0) (sk + 12 + 12 + 0) Q9 (F0 m0 244 ls [.int (nI (lessC st (softφ (st 1) v) k))]) := by
                  intro H locs ls S hl
                  obtain ⟨le, ele⟩ : ∃ z9 : Nat, z9 = lessC st (softφ (st 1) v) k := ⟨_, rfl⟩
                  rw [← ele]
                  have hle80 : le ≤ 80 := by rw [ele]; exact soft_le (by omega) _ (by omega)
                  refine lv_istore (lv' := [(20, .int (nI le)), (19, .int (nI g)), (18, .int (nI (st 3 k))), (17, .int (nI (st 2 k))), (0, .ref x), (2, .int (nI y)), (3, .ref cc), (4, .ref gg), (5, .ref dd), (6, .int (nI x0)), (7, .int (nI y0)), (8, .int (nI tx)), (9, .int (nI ty)), (10, .int (nI v)), (11, .long (lN (cn (goneL st (softφ (st 1) v)) (st 0 0)))), (13, .long (lN (cn (goneL st (softφ (st 1) v)) k))), (15, .int 1), (16, .int (nI k))]) X.1 X.2.1 dL_lessens_244 hl (by decide) rfl (fun ls hl => ?_)
                  have J268 : ∀ (H : Heap) (locs : List Loc) (ls : Array Slot), cxS G s0 f_118 H locs → lv_has ls 22 [(20, .int (nI le)), (19, .int (nI g)), (18, .int (nI (st 3 k))), (17, .int (nI (st 2 k))), (0, .ref x), (2, .int (nI y)), (3, .ref cc), (4, .ref gg), (5, .ref dd), (6, .int (nI x0)), (7, .int (nI y0)), (8, .int (nI tx)), (9, .int (nI ty)), (10, .int (nI v)), (11, .long (lN (cn (goneL st (softφ (st 1) v)) (st 0 0)))), (13, .long (lN (cn (goneL st (softφ (st 1) v)) k))), (15, .int 1), (16, .int (nI k))] → W p0 l e0 ({ frames := 10, cells := 500, slots := 3300, locals := 267 } : Room) s0 m0 ([.ref x, .int (nI z), .int (nI y), .ref cc, .ref gg, .ref dd] : List Value).toArray b0 meth0 c0 H locs (ck + 2 + 2 + 0) (sk + 12 + 12 + 0) Q9 (F0 m0 268 ls [.int (nI (st 7 k - le))]) := by
                    intro H locs ls S hl
                    refine lv_istore (lv' := [(21, .int (nI (st 7 k - le))), (20, .int (nI le)), (19, .int (nI g)), (18, .int (nI (st 3 k))), (17, .int (nI (st 2 k))), (0, .ref x), (2, .int (nI y)), (3, .ref cc), (4, .ref gg), (5, .ref dd), (6, .int (nI x0)), (7, .int (nI y0)), (8, .int (nI tx)), (9, .int (nI ty)), (10, .int (nI v)), (11, .long (lN (cn (goneL st (softφ (st 1) v)) (st 0 0)))), (13, .long (lN (cn (goneL st (softφ (st 1) v)) k))), (15, .int 1), (16, .int (nI k))]) X.1 X.2.1 dL_lessens_268 hl (by decide) rfl (fun ls hl => ?_)
                    by_cases hgo : 0 < st 7 k ∧ st 7 k - le = 0
                    · refine lv_lload X.1 X.2.1 dL_lessens_270 (lv_at hl 16 rfl) ?_
                      refine lv_aload X.1 X.2.1 dL_lessens_272 (lv_at hl 9 rfl) ?_
                      refine lv_iload X.1 X.2.1 dL_lessens_274 (lv_at hl 18 rfl) ?_
                      refine n_iald (i := k) (v := (nI (st 7 k))) X S hdk_118 (hDk k hlt) dL_lessens_276 ?_
                      refine z_le (a := st 7 k) (tgt := 289) X dL_lessens_277 (by decide) (fun n_277 => by exfalso; omega) (fun n_277 => ?_)
                      refine lv_iload X.1 X.2.1 dL_lessens_280 (lv_at hl 0 rfl) ?_
                      refine z_ne (a := st 7 k - le) (tgt := 289) X dL_lessens_282 (by decide) (fun n_282 => by exfalso; omega) (fun n_282 => ?_)
                      refine lv_lconst (v := 1) X.1 X.2.1 dL_lessens_285 (by decide) ?_
                      refine lv_goto (tgt := 290) X.1 X.2.1 dL_lessens_286 (by decide) ?_
                      refine n_ladd (a := cn (goneL st (softφ (st 1) v)) k) (b := 1) X dL_lessens_290 ?_
                      refine lv_lstore (lv' := [(13, .long (lN ((cn (goneL st (softφ (st 1) v)) k) + 1))), (21, .int (nI (st 7 k - le))), (20, .int (nI le)), (19, .int (nI g)), (18, .int (nI (st 3 k))), (17, .int (nI (st 2 k))), (0, .ref x), (2, .int (nI y)), (3, .ref cc), (4, .ref gg), (5, .ref dd), (6, .int (nI x0)), (7, .int (nI y0)), (8, .int (nI tx)), (9, .int (nI ty)), (10, .int (nI v)), (11, .long (lN (cn (goneL st (softφ (st 1) v)) (st 0 0)))), (15, .int 1), (16, .int (nI k))]) X.1 X.2.1 dL_lessens_291 hl (by decide) rfl (fun ls hl => ?_)
                      refine lv_aload_n X.1 X.2.1 dL_lessens_293 rfl (lv_at hl 6 rfl) ?_
                      refine lv_iload X.1 X.2.1 dL_lessens_294 (lv_at hl 18 rfl) ?_
                      refine lv_iconst (v := 3) X.1 X.2.1 dL_lessens_296 (by decide) ?_
                      refine call_iq (run_V X S (u_about l hst G f_118 st1 x hI_118 hRc_118 k 3 (by omega) (by decide)) 2 gL_lessens_X9_about rfl rfl rfl (by decide +kernel) ⟨(by exact Nat.le_of_ble_eq_true rfl), (by exact Nat.le_of_ble_eq_true rfl)⟩ (RX.obj hRc_118) rfl rfl rfl hl.1 rfl (by exact Nat.le_of_ble_eq_true rfl) dL_lessens_297 ⟨(show _ ≤ 500 by omega), (show _ ≤ 3300 by omega)⟩) S (fun r_297 H locs hr_297 S => ?_)
                      obtain rfl := (show r_297 = nI (st 7 k - le) from hr_297.trans (congrArg nI ((he7 k hlt).trans (by rw [ele]))))
                      refine lv_iload X.1 X.2.1 dL_lessens_300 (lv_at hl 1 rfl) ?_
                      refine n_ne (a := st 7 k - le) (b := st 7 k - le) (tgt := 309) X dL_lessens_302 (by decide) (fun n_302 => by exfalso; omega) (fun n_302 => ?_)
                      refine lv_iconst (v := 1) X.1 X.2.1 dL_lessens_305 (by decide) ?_
                      refine lv_goto (tgt := 310) X.1 X.2.1 dL_lessens_306 (by decide) ?_
                      refine lv_istore (lv' := [(15, .int 1), (13, .long (lN ((cn (goneL st (softφ (st 1) v)) k) + 1))), (21, .int (nI (st 7 k - le))), (20, .int (nI le)), (19, .int (nI g)), (18, .int (nI (st 3 k))), (17, .int (nI (st 2 k))), (0, .ref x), (2, .int (nI y)), (3, .ref cc), (4, .ref gg), (5, .ref dd), (6, .int (nI x0)), (7, .int (nI y0)), (8, .int (nI tx)), (9, .int (nI ty)), (10, .int (nI v)), (11, .long (lN (cn (goneL st (softφ (st 1) v)) (st 0 0)))), (16, .int (nI k))]) X.1 X.2.1 dL_lessens_310 hl (by decide) rfl (fun ls hl => ?_)
                      refine lv_iinc (v := (nI (k + 1))) (lv' := [(16, .int (nI (k + 1))), (15, .int 1), (13, .long (lN ((cn (goneL st (softφ (st 1) v)) k) + 1))), (21, .int (nI (st 7 k - le))), (20, .int (nI le)), (19, .int (nI g)), (18, .int (nI (st 3 k))), (17, .int (nI (st 2 k))), (0, .ref x), (2, .int (nI y)), (3, .ref cc), (4, .ref gg), (5, .ref dd), (6, .int (nI x0)), (7, .int (nI y0)), (8, .int (nI tx)), (9, .int (nI ty)), (10, .int (nI v)), (11, .long (lN (cn (goneL st (softφ (st 1) v)) (st 0 0))))]) X.1 X.2.1 dL_lessens_312 hl (k := 18) rfl (nI_1 _) (by decide) rfl (fun ls hl => ?_)
                      refine lv_goto (tgt := 132) X.1 X.2.1 dL_lessens_315 (by decide) ?_
                      have e1 : (cn (goneL st (softφ (st 1) v)) (k + 1)) = (cn (goneL st (softφ (st 1) v)) k) + 1 := gonL_t (by rw [← ele]; exact hgo)
                      exact ih (k + 1) _ _ H locs ls (by omega) (by omega) (by omega) (by omega) S (by rw [e1]; exact lv_sub hl [8, 9, 10, 11, 12, 13, 14, 15, 16, 17, 18, 2, 1, 0] rfl)
                    · refine lv_lload X.1 X.2.1 dL_lessens_270 (lv_at hl 16 rfl) ?_
                      have J290 : ∀ (H : Heap) (locs : List Loc) (ls : Array Slot), cxS G s0 f_118 H locs → lv_has ls 22 [(21, .int (nI (st 7 k - le))), (20, .int (nI le)), (19, .int (nI g)), (18, .int (nI (st 3 k))), (17, .int (nI (st 2 k))), (0, .ref x), (2, .int (nI y)), (3, .ref cc), (4, .ref gg), (5, .ref dd), (6, .int (nI x0)), (7, .int (nI y0)), (8, .int (nI tx)), (9, .int (nI ty)), (10, .int (nI v)), (11, .long (lN (cn (goneL st (softφ (st 1) v)) (st 0 0)))), (13, .long (lN (cn (goneL st (softφ (st 1) v)) k))), (15, .int 1), (16, .int (nI k))] → W p0 l e0 ({ frames := 10, cells := 500, slots := 3300, locals := 267 } : Room) s0 m0 ([.ref x, .int (nI z), .int (nI y), .ref cc, .ref gg, .ref dd] : List Value).toArray b0 meth0 c0 H locs (ck + 2 + 2 + 0) (sk + 12 + 12 + 0) Q9 (F0 m0 290 ls [.long 0, .long (lN (cn (goneL st (softφ (st 1) v)) k))]) := by
                        intro H locs ls S hl
                        refine n_ladd (a := cn (goneL st (softφ (st 1) v)) k) (b := 0) X dL_lessens_290 ?_
                        refine lv_lstore (lv' := [(13, .long (lN ((cn (goneL st (softφ (st 1) v)) k) + 0))), (21, .int (nI (st 7 k - le))), (20, .int (nI le)), (19, .int (nI g)), (18, .int (nI (st 3 k))), (17, .int (nI (st 2 k))), (0, .ref x), (2, .int (nI y)), (3, .ref cc), (4, .ref gg), (5, .ref dd), (6, .int (nI x0)), (7, .int (nI y0)), (8, .int (nI tx)), (9, .int (nI ty)), (10, .int (nI v)), (11, .long (lN (cn (goneL st (softφ (st 1) v)) (st 0 0)))), (15, .int 1), (16, .int (nI k))]) X.1 X.2.1 dL_lessens_291 hl (by decide) rfl (fun ls hl => ?_)
                        refine lv_aload_n X.1 X.2.1 dL_lessens_293 rfl (lv_at hl 6 rfl) ?_
                        refine lv_iload X.1 X.2.1 dL_lessens_294 (lv_at hl 18 rfl) ?_
                        refine lv_iconst (v := 3) X.1 X.2.1 dL_lessens_296 (by decide) ?_
                        refine call_iq (run_V X S (u_about l hst G f_118 st1 x hI_118 hRc_118 k 3 (by omega) (by decide)) 2 gL_lessens_X9_about rfl rfl rfl (by decide +kernel) ⟨(by exact Nat.le_of_ble_eq_true rfl), (by exact Nat.le_of_ble_eq_true rfl)⟩ (RX.obj hRc_118) rfl rfl rfl hl.1 rfl (by exact Nat.le_of_ble_eq_true rfl) dL_lessens_297 ⟨(show _ ≤ 500 by omega), (show _ ≤ 3300 by omega)⟩) S (fun r_297 H locs hr_297 S => ?_)
                        obtain rfl := (show r_297 = nI (st 7 k - le) from hr_297.trans (congrArg nI ((he7 k hlt).trans (by rw [ele]))))
                        refine lv_iload X.1 X.2.1 dL_lessens_300 (lv_at hl 1 rfl) ?_
                        refine n_ne (a := st 7 k - le) (b := st 7 k - le) (tgt := 309) X dL_lessens_302 (by decide) (fun n_302 => by exfalso; omega) (fun n_302 => ?_)
                        refine lv_iconst (v := 1) X.1 X.2.1 dL_lessens_305 (by decide) ?_
                        refine lv_goto (tgt := 310) X.1 X.2.1 dL_lessens_306 (by decide) ?_
                        refine lv_istore (lv' := [(15, .int 1), (13, .long (lN ((cn (goneL st (softφ (st 1) v)) k) + 0))), (21, .int (nI (st 7 k - le))), (20, .int (nI le)), (19, .int (nI g)), (18, .int (nI (st 3 k))), (17, .int (nI (st 2 k))), (0, .ref x), (2, .int (nI y)), (3, .ref cc), (4, .ref gg), (5, .ref dd), (6, .int (nI x0)), (7, .int (nI y0)), (8, .int (nI tx)), (9, .int (nI ty)), (10, .int (nI v)), (11, .long (lN (cn (goneL st (softφ (st 1) v)) (st 0 0)))), (16, .int (nI k))]) X.1 X.2.1 dL_lessens_310 hl (by decide) rfl (fun ls hl => ?_)
                        refine lv_iinc (v := (nI (k + 1))) (lv' := [(16, .int (nI (k + 1))), (15, .int 1), (13, .long (lN ((cn (goneL st (softφ (st 1) v)) k) + 0))), (21, .int (nI (st 7 k - le))), (20, .int (nI le)), (19, .int (nI g)), (18, .int (nI (st 3 k))), (17, .int (nI (st 2 k))), (0, .ref x), (2, .int (nI y)), (3, .ref cc), (4, .ref gg), (5, .ref dd), (6, .int (nI x0)), (7, .int (nI y0)), (8, .int (nI tx)), (9, .int (nI ty)), (10, .int (nI v)), (11, .long (lN (cn (goneL st (softφ (st 1) v)) (st 0 0))))]) X.1 X.2.1 dL_lessens_312 hl (k := 18) rfl (nI_1 _) (by decide) rfl (fun ls hl => ?_)
                        refine lv_goto (tgt := 132) X.1 X.2.1 dL_lessens_315 (by decide) ?_
                        have e1 : (cn (goneL st (softφ (st 1) v)) (k + 1)) = (cn (goneL st (softφ (st 1) v)) k) + 0 := gonL_f (by rw [← ele]; exact hgo)
                        exact ih (k + 1) _ _ H locs ls (by omega) (by omega) (by omega) (by omega) S (by rw [e1]; exact lv_sub hl [8, 9, 10, 11, 12, 13, 14, 15, 16, 17, 18, 2, 1, 0] rfl)
                      refine lv_aload X.1 X.2.1 dL_lessens_272 (lv_at hl 9 rfl) ?_
                      refine lv_iload X.1 X.2.1 dL_lessens_274 (lv_at hl 18 rfl) ?_
                      refine n_iald (i := k) (v := (nI (st 7 k))) X S hdk_118 (hDk k hlt) dL_lessens_276 ?_
                      refine z_le (a := st 7 k) (tgt := 289) X dL_lessens_277 (by decide) (fun n_277 => ?_) (fun n_277 => ?_)
                      · refine lv_lconst (v := 0) X.1 X.2.1 dL_lessens_289 (by decide) ?_
                        exact W.widen (by omega) (by omega) (J290 _ _ ls S (lv_sub hl [0, 1, 2, 3, 4, 5, 6, 7, 8, 9, 10, 11, 12, 13, 14, 15, 16, 17, 18] rfl))
                      · refine lv_iload X.1 X.2.1 dL_lessens_280 (lv_at hl 0 rfl) ?_
                        refine z_ne (a := st 7 k - le) (tgt := 289) X dL_lessens_282 (by decide) (fun n_282 => ?_) (fun n_282 => ?_)
                        · refine lv_lconst (v := 0) X.1 X.2.1 dL_lessens_289 (by decide) ?_
                          exact W.widen (by omega) (by omega) (J290 _ _ ls S (lv_sub hl [0, 1, 2, 3, 4, 5, 6, 7, 8, 9, 10, 11, 12, 13, 14, 15, 16, 17, 18] rfl))
                        · exfalso
                          omega
                  refine lv_aload X.1 X.2.1 dL_lessens_246 (lv_at hl 8 rfl) ?_
                  refine lv_iload X.1 X.2.1 dL_lessens_248 (lv_at hl 17 rfl) ?_
                  refine n_iald (i := k) (v := (nI (st 7 k))) X S hdk_118 (hDk k hlt) dL_lessens_250 ?_
                  refine lv_iload X.1 X.2.1 dL_lessens_251 (lv_at hl 0 rfl) ?_
                  refine n_le (a := st 7 k) (b := le) (tgt := 267) X dL_lessens_253 (by decide) (fun n_253 => ?_) (fun n_253 => ?_)
                  · refine lv_iconst (v := 0) X.1 X.2.1 dL_lessens_267 (by decide) ?_
                    refine r_toi (show (0 : Int32) = nI (st 7 k - le) from congrArg nI (show 0 = st 7 k - le by omega)) ?_
                    exact W.widen (by omega) (by omega) (J268 _ _ ls S (lv_sub hl [0, 1, 2, 3, 4, 5, 6, 7, 8, 9, 10, 11, 12, 13, 14, 15, 16, 17] rfl))
                  · refine lv_aload X.1 X.2.1 dL_lessens_256 (lv_at hl 8 rfl) ?_
                    refine lv_iload X.1 X.2.1 dL_lessens_258 (lv_at hl 17 rfl) ?_
                    refine n_iald (i := k) (v := (nI (st 7 k))) X S hdk_118 (hDk k hlt) dL_lessens_260 ?_
                    refine lv_iload X.1 X.2.1 dL_lessens_261 (lv_at hl 0 rfl) ?_
                    refine n_sub (a := st 7 k) (b := le) X dL_lessens_263 ?_
                    refine lv_goto (tgt := 268) X.1 X.2.1 dL_lessens_264 (by decide) ?_
                    refine r_toi (show (nI ((st 7 k) - le) : Int32) = nI (st 7 k - le) from rfl) ?_
                    exact W.widen (by omega) (by omega) (J268 _ _ ls S (lv_sub hl [0, 1, 2, 3, 4, 5, 6, 7, 8, 9, 10, 11, 12, 13, 14, 15, 16, 17] rfl))
                refine lv_iload_n X.1 X.2.1 dL_lessens_174 rfl (lv_at hl 4 rfl) ?_
                refine lv_iconst (v := 2) X.1 X.2.1 dL_lessens_175 (by decide) ?_
                refine n_rem (a := y) (b := 2) X dL_lessens_176 ?_
                refine z_ne (a := y % 2) (tgt := 217) X dL_lessens_177 (by decide) (fun n_177 => ?_) (fun n_177 => by exfalso; omega)
                refine lv_iload X.1 X.2.1 dL_lessens_217 (lv_at hl 0 rfl) ?_
                refine z_ne (a := g) (tgt := 229) X dL_lessens_219 (by decide) (fun n_219 => ?_) (fun n_219 => ?_)
                · refine lv_iload X.1 X.2.1 dL_lessens_229 (lv_at hl 0 rfl) ?_
                  refine lv_iconst (v := 1) X.1 X.2.1 dL_lessens_231 (by decide) ?_
                  refine n_ne (a := g) (b := 1) (tgt := 240) X dL_lessens_232 (by decide) (fun n_232 => ?_) (fun n_232 => ?_)
                  · refine lv_iconst (v := 2) X.1 X.2.1 dL_lessens_240 (by decide) ?_
                    refine lv_iload X.1 X.2.1 dL_lessens_241 (lv_at hl 12 rfl) ?_
                    refine n_mul (a := 2) (b := v) X dL_lessens_243 ?_
                    refine r_toi (show (nI (2 * v) : Int32) = nI (lessC st (softφ (st 1) v) k) from congrArg nI (hle.2.2 n_219 n_232)) ?_
                    exact W.widen (by omega) (by omega) (J244 _ _ ls S (lv_sub hl [0, 1, 2, 3, 4, 5, 6, 7, 8, 9, 10, 11, 12, 13, 14, 15, 16] rfl))
                  · refine lv_iload X.1 X.2.1 dL_lessens_235 (lv_at hl 12 rfl) ?_
                    refine lv_goto (tgt := 244) X.1 X.2.1 dL_lessens_237 (by decide) ?_
                    refine r_toi (show (nI v : Int32) = nI (lessC st (softφ (st 1) v) k) from congrArg nI (hle.2.1 n_219 n_232)) ?_
                    exact W.widen (by omega) (by omega) (J244 _ _ ls S (lv_sub hl [0, 1, 2, 3, 4, 5, 6, 7, 8, 9, 10, 11, 12, 13, 14, 15, 16] rfl))
                · refine lv_iload X.1 X.2.1 dL_lessens_222 (lv_at hl 12 rfl) ?_
                  refine lv_iconst (v := 2) X.1 X.2.1 dL_lessens_224 (by decide) ?_
                  refine n_div (a := v) (b := 2) X dL_lessens_225 ?_
                  refine lv_goto (tgt := 244) X.1 X.2.1 dL_lessens_226 (by decide) ?_
                  refine r_toi (show (nI (v / 2) : Int32) = nI (lessC st (softφ (st 1) v) k) from congrArg nI (hle.1 n_219)) ?_
                  exact W.widen (by omega) (by omega) (J244 _ _ ls S (lv_sub hl [0, 1, 2, 3, 4, 5, 6, 7, 8, 9, 10, 11, 12, 13, 14, 15, 16] rfl))
          exact loop2 (st 0 0 + 1) 0 _ _ _ _ ls (by omega) (by omega) (by omega) (by omega) S (lv_sub hl [9, 11, 12, 13, 14, 8, 7, 6, 5, 4, 3, 2, 1, 0] rfl)
        · refine lv_aload_n X.1 X.2.1 dL_lessens_92 rfl (lv_at hl 5 rfl) ?_
          refine lv_iconst (v := 3) X.1 X.2.1 dL_lessens_93 (by decide) ?_
          refine lv_iload X.1 X.2.1 dL_lessens_94 (lv_at hl 4 rfl) ?_
          refine lv_iload X.1 X.2.1 dL_lessens_96 (lv_at hl 3 rfl) ?_
          refine lv_iload X.1 X.2.1 dL_lessens_98 (lv_at hl 2 rfl) ?_
          refine lv_iload X.1 X.2.1 dL_lessens_100 (lv_at hl 1 rfl) ?_
          refine lv_iload X.1 X.2.1 dL_lessens_102 (lv_at hl 0 rfl) ?_
          refine acall_l (xrun_SX X S (a_flood l hst G fk st x hI hRk x0 y0 tx ty v htx1 hty1 htx2 hty2 hv1 hv40 (by omega)) 7 gL_lessens_L_asks rfl rfl rfl (by decide +kernel) ⟨(by exact Nat.le_of_ble_eq_true rfl), (by exact Nat.le_of_ble_eq_true rfl)⟩ rfl hl.1 rfl (by exact Nat.le_of_ble_eq_true rfl) dL_lessens_104 ⟨(show _ ≤ 500 by omega), (show _ ≤ 3300 by omega)⟩) S (fun r_104 f_104 H locs hr_104 S => ?_)
          obtain ⟨hr104, hRc_104, hmc_104⟩ := hr_104
          have hcc_k_104 := hmc_104 _ _ _ hcc_k (by unfold tX; omega)
          have hgg_k_104 := hmc_104 _ _ _ hgg_k (by unfold tX; omega)
          have hee_k_104 := hmc_104 _ _ _ hee_k (by unfold tX; omega)
          have haa_k_104 := hmc_104 _ _ _ haa_k (by unfold tX; omega)
          have hdk_104 := hmc_104 _ _ _ hdk (by unfold tX; omega)
          have hI_104 : sInv (lessSt st (floodφ x0 y0 tx ty v)) := sInv_less hI (by omega) (flood_le (by omega))
          obtain rfl := (show r_104 = lN (cn (goneL st (floodφ x0 y0 tx ty v)) (st 0 0)) from hr104)
          obtain ⟨st1, est1⟩ : ∃ z9 : St, z9 = lessSt st (floodφ x0 y0 tx ty v) := ⟨_, rfl⟩
          rw [← est1] at hRc_104 hI_104
          have ho : ∀ (B i : Nat), (B = 0 ∧ i ≠ 1) ∨ (1 ≤ B ∧ B ≤ 6) ∨ (9 ≤ B ∧ B < 1000) → st1 B i = st B i := fun B i h => by rw [est1]; exact less_e _ _ (by omega)
          have hn1 : st1 0 0 = st 0 0 := ho 0 0 (by omega)
          have ht1 : st1 0 1 = st 0 1 + 1 := by rw [est1]; exact less_t _ _
          have he7 : ∀ i, i < st 0 0 → st1 7 i = st 7 i - lessC st (floodφ x0 y0 tx ty v) i := fun i h => by rw [est1]; exact less_d _ _ h
          have hbc := cn_le (goneL st (floodφ x0 y0 tx ty v)) (st 0 0)
          refine lv_goto (tgt := 121) X.1 X.2.1 dL_lessens_107 (by decide) ?_
          refine lv_lstore (lv' := [(11, .long (lN (cn (goneL st (floodφ x0 y0 tx ty v)) (st 0 0)))), (10, .int (nI v)), (9, .int (nI ty)), (8, .int (nI tx)), (7, .int (nI y0)), (6, .int (nI x0)), (0, .ref x), (1, .int (nI z)), (2, .int (nI y)), (3, .ref cc), (4, .ref gg), (5, .ref dd)]) X.1 X.2.1 dL_lessens_121 hl (by decide) rfl (fun ls hl => ?_)
          refine lv_lconst (v := 0) X.1 X.2.1 dL_lessens_123 (by decide) ?_
          refine lv_lstore (lv' := [(13, .long 0), (11, .long (lN (cn (goneL st (floodφ x0 y0 tx ty v)) (st 0 0)))), (10, .int (nI v)), (9, .int (nI ty)), (8, .int (nI tx)), (7, .int (nI y0)), (6, .int (nI x0)), (0, .ref x), (1, .int (nI z)), (2, .int (nI y)), (3, .ref cc), (4, .ref gg), (5, .ref dd)]) X.1 X.2.1 dL_lessens_124 hl (by decide) rfl (fun ls hl => ?_)
          refine lv_iconst (v := 1) X.1 X.2.1 dL_lessens_126 (by decide) ?_
          refine lv_istore (lv' := [(15, .int 1), (13, .long 0), (11, .long (lN (cn (goneL st (floodφ x0 y0 tx ty v)) (st 0 0)))), (10, .int (nI v)), (9, .int (nI ty)), (8, .int (nI tx)), (7, .int (nI y0)), (6, .int (nI x0)), (0, .ref x), (1, .int (nI z)), (2, .int (nI y)), (3, .ref cc), (4, .ref gg), (5, .ref dd)]) X.1 X.2.1 dL_lessens_127 hl (by decide) rfl (fun ls hl => ?_)
          refine lv_iconst (v := 0) X.1 X.2.1 dL_lessens_129 (by decide) ?_
          refine lv_istore (lv' := [(16, .int 0), (15, .int 1), (13, .long 0), (11, .long (lN (cn (goneL st (floodφ x0 y0 tx ty v)) (st 0 0)))), (10, .int (nI v)), (9, .int (nI ty)), (8, .int (nI tx)), (7, .int (nI y0)), (6, .int (nI x0)), (0, .ref x), (1, .int (nI z)), (2, .int (nI y)), (3, .ref cc), (4, .ref gg), (5, .ref dd)]) X.1 X.2.1 dL_lessens_130 hl (by decide) rfl (fun ls hl => ?_)
          obtain ⟨ck0, eck0⟩ : ∃ z9 : Nat, z9 = ck + 8 := ⟨_, rfl⟩
          obtain ⟨sk0, esk0⟩ : ∃ z9 : Nat, z9 = sk + 337 := ⟨_, rfl⟩
          have loop2 : ∀ (N : Nat) (k : Nat) (ck : Nat) (sk : Nat) (H : Heap) (locs : List Loc) (ls : Array Slot), k ≤ st 0 0 → st 0 0 < k + N → ck ≤ ck0 + 6 * k → sk ≤ sk0 + 36 * k → cxS G s0 f_104 H locs → lv_has ls 22 [(0, .ref x), (2, .int (nI y)), (3, .ref cc), (4, .ref gg), (5, .ref dd), (6, .int (nI x0)), (7, .int (nI y0)), (8, .int (nI tx)), (9, .int (nI ty)), (10, .int (nI v)), (11, .long (lN (cn (goneL st (floodφ x0 y0 tx ty v)) (st 0 0)))), (13, .long (lN (cn (goneL st (floodφ x0 y0 tx ty v)) k))), (15, .int 1), (16, .int (nI k))] → W p0 l e0 ({ frames := 10, cells := 500, slots := 3300, locals := 267 } : Room) s0 m0 ([.ref x, .int (nI z), .int (nI y), .ref cc, .ref gg, .ref dd] : List Value).toArray b0 meth0 c0 H locs ck sk Q9 (F0 m0 132 ls []) := by
            intro N
            induction N with
            | zero =>
              intro k ck sk  H locs ls hk hN hck hsk S hl
              exfalso
              omega
            | succ N ih =>
              intro k ck sk  H locs ls hk hN hck hsk S hl
              refine lv_iload X.1 X.2.1 dL_lessens_132 (lv_at hl 13 rfl) ?_
              refine lv_aload_n X.1 X.2.1 dL_lessens_134 rfl (lv_at hl 2 rfl) ?_
              refine lv_iconst (v := 0) X.1 X.2.1 dL_lessens_135 (by decide) ?_
              refine n_iald (i := 0) (v := (nI (st 0 0))) X S hcc_k_104 hC0 dL_lessens_136 ?_
              refine n_ge (a := k) (b := st 0 0) (tgt := 318) X dL_lessens_137 (by decide) (fun n_137 => ?_) (fun n_137 => ?_)
              · have hkn : k = st 0 0 := by omega
                rw [hkn] at hl
                clear ih
                have hn1x : st1 0 0 ≤ 200 := hI_104.1.1
                refine lv_aload_n X.1 X.2.1 dL_lessens_318 rfl (lv_at hl 2 rfl) ?_
                refine lv_iconst (v := 2) X.1 X.2.1 dL_lessens_319 (by decide) ?_
                refine lv_dup2_11 X.1 X.2.1 dL_lessens_320 rfl rfl ?_
                refine n_iald (i := 2) (v := (C 2)) X S hcc_k_104 rfl dL_lessens_321 ?_
                refine lv_iconst (v := 1) X.1 X.2.1 dL_lessens_322 (by decide) ?_
                refine lv_iadd X.1 X.2.1 dL_lessens_323 ?_
                refine n_iast (i := 2) (v := ((C 2) + 1)) X S hcc_k_104 (by decide) dL_lessens_324 (fun f_324 H locs ef_324 S => ?_)
                have hcc_k_324 : f_324 cc = some (2001, eI G 5 (upd C 2 ((C 2) + 1))) := by rw [ef_324]; exact wu_self _ _ _ _
                have hgg_k_324 : f_324 gg = some (2002, eI G 16 w) := by rw [ef_324]; exact wu_get hcc_k_104 hgg_k_104 (by decide)
                have hee_k_324 : f_324 ee = some (2004, eI G 6 E) := by rw [ef_324]; exact wu_get hcc_k_104 hee_k_104 (by decide)
                have haa_k_324 : f_324 aa = some (2005, eJ G 16 A) := by rw [ef_324]; exact wu_get hcc_k_104 haa_k_104 (by decide)
                have hdk_324 : f_324 dd = some (2003, eI G 64 Dk) := by rw [ef_324]; exact wu_get hcc_k_104 hdk_104 (by decide)
                have hR_324 : RX G f_324 st1 x := hRc_104.kept (by rw [ef_324]; exact md_mono (md_put hcc_k_104) (fun t q => by subst q; unfold tX; omega)) hn1x
                refine lv_iload X.1 X.2.1 dL_lessens_325 (lv_at hl 12 rfl) ?_
                refine lv_if_eq (x := 1) (tgt := 342) X.1 X.2.1 dL_lessens_327 (by decide) (fun c_327 => by first | exact absurd c_327 (by decide) | exact absurd (by decide) c_327) (fun c_327 => ?_)
                refine lv_lload X.1 X.2.1 dL_lessens_330 (lv_at hl 10 rfl) ?_
                refine lv_lload X.1 X.2.1 dL_lessens_332 (lv_at hl 11 rfl) ?_
                refine ll_ne (a := cn (goneL st (floodφ x0 y0 tx ty v)) (st 0 0)) (b := cn (goneL st (floodφ x0 y0 tx ty v)) (st 0 0)) (tgt := 342) X dL_lessens_334 dL_lessens_335 (by decide) (fun n_334 => by exfalso; omega) (fun n_334 => ?_)
                refine lv_iconst (v := 1) X.1 X.2.1 dL_lessens_338 (by decide) ?_
                refine lv_goto (tgt := 343) X.1 X.2.1 dL_lessens_339 (by decide) ?_
                subst hQ9
                refine e_z X hr S (by omega) (by omega) dL_lessens_343 rfl ?_
                refine ⟨rfl, st1, ⟨_, _, _, _, _, hI_104, hR_324, hcc_k_324, hgg_k_324, hdk_324, hee_k_324, haa_k_324, ⟨by rw [pk_un (by omega), hC0, hn1], by rw [pk_un (by omega), hC1, ho 0 4 (by omega)], by rw [pk_un (by omega), hC3, ho 0 2 (by omega)], by rw [pk_un (by omega), hC4, ho 0 3 (by omega)]⟩, grdL_cong hgr (fun c _ => ho 1 c (by omega)), ?_, ?_⟩, by omega, by omega, ?_⟩
                · rw [ho 0 2 (by omega)]
                  exact fun i hi => by rw [ho 9 i (by omega)]; exact hE i hi
                · rw [ho 0 3 (by omega)]
                  exact fun i hi => by rw [ho 10 i (by omega), ho 11 i (by omega)]; exact hA i hi
                · rw [ho 0 3 (by omega)]
                  exact fun i hi => by rw [ho 10 i (by omega), ho 11 i (by omega)]; exact hbA i hi
              · have hlt : k < st 0 0 := by omega
                have hc := hI.2.2.1 k hlt
                unfold cIn at hc
                obtain ⟨q1, q2, q3, q4, q5, q6, q7, q8⟩ := hc
                have hbk := cn_le (goneL st (floodφ x0 y0 tx ty v)) k
                obtain ⟨g, eg⟩ : ∃ z9 : Nat, z9 = st 1 (16 * st 3 k + st 2 k) := ⟨_, rfl⟩
                have hg2 : g ≤ 2 := by rw [eg]; exact hI.2.1 _ (by omega)
                have hle := flo_e (st := st) (x0 := x0) (y0 := y0) (tx := tx) (ty := ty) (v := v) (k := k) q1 q2
                refine lv_iload X.1 X.2.1 dL_lessens_140 (lv_at hl 12 rfl) ?_
                refine lv_if_eq (x := 1) (tgt := 318) X.1 X.2.1 dL_lessens_142 (by decide) (fun c_142 => by first | exact absurd c_142 (by decide) | exact absurd (by decide) c_142) (fun c_142 => ?_)
                refine lv_aload_n X.1 X.2.1 dL_lessens_145 rfl (lv_at hl 0 rfl) ?_
                refine lv_iload X.1 X.2.1 dL_lessens_146 (lv_at hl 13 rfl) ?_
                refine lv_iconst (v := 0) X.1 X.2.1 dL_lessens_148 (by decide) ?_
                refine call_iq (run_V X S (u_about l hst G f_104 st1 x hI_104 hRc_104 k 0 (by omega) (by decide)) 2 gL_lessens_X9_about rfl rfl rfl (by decide +kernel) ⟨(by exact Nat.le_of_ble_eq_true rfl), (by exact Nat.le_of_ble_eq_true rfl)⟩ (RX.obj hRc_104) rfl rfl rfl hl.1 rfl (by exact Nat.le_of_ble_eq_true rfl) dL_lessens_149 ⟨(show _ ≤ 500 by omega), (show _ ≤ 3300 by omega)⟩) S (fun r_149 H locs hr_149 S => ?_)
                obtain rfl := (show r_149 = nI (st 2 k) from hr_149.trans (congrArg nI (ho 2 k (by omega))))
                refine lv_istore (lv' := [(17, .int (nI (st 2 k))), (0, .ref x), (2, .int (nI y)), (3, .ref cc), (4, .ref gg), (5, .ref dd), (6, .int (nI x0)), (7, .int (nI y0)), (8, .int (nI tx)), (9, .int (nI ty)), (10, .int (nI v)), (11, .long (lN (cn (goneL st (floodφ x0 y0 tx ty v)) (st 0 0)))), (13, .long (lN (cn (goneL st (floodφ x0 y0 tx ty v)) k))), (15, .int 1), (16, .int (nI k))]) X.1 X.2.1 dL_lessens_152 hl (by decide) rfl (fun ls hl => ?_)
                refine lv_aload_n X.1 X.2.1 dL_lessens_154 rfl (lv_at hl 1 rfl) ?_
                refine lv_iload X.1 X.2.1 dL_lessens_155 (lv_at hl 14 rfl) ?_
                refine lv_iconst (v := 1) X.1 X.2.1 dL_lessens_157 (by decide) ?_
                refine call_iq (run_V X S (u_about l hst G f_104 st1 x hI_104 hRc_104 k 1 (by omega) (by decide)) 2 gL_lessens_X9_about rfl rfl rfl (by decide +kernel) ⟨(by exact Nat.le_of_ble_eq_true rfl), (by exact Nat.le_of_ble_eq_true rfl)⟩ (RX.obj hRc_104) rfl rfl rfl hl.1 rfl (by exact Nat.le_of_ble_eq_true rfl) dL_lessens_158 ⟨(show _ ≤ 500 by omega), (show _ ≤ 3300 by omega)⟩) S (fun r_158 H locs hr_158 S => ?_)
                obtain rfl := (show r_158 = nI (st 3 k) from hr_158.trans (congrArg nI (ho 3 k (by omega))))
                refine lv_istore (lv' := [(18, .int (nI (st 3 k))), (17, .int (nI (st 2 k))), (0, .ref x), (2, .int (nI y)), (3, .ref cc), (4, .ref gg), (5, .ref dd), (6, .int (nI x0)), (7, .int (nI y0)), (8, .int (nI tx)), (9, .int (nI ty)), (10, .int (nI v)), (11, .long (lN (cn (goneL st (floodφ x0 y0 tx ty v)) (st 0 0)))), (13, .long (lN (cn (goneL st (floodφ x0 y0 tx ty v)) k))), (15, .int 1), (16, .int (nI k))]) X.1 X.2.1 dL_lessens_161 hl (by decide) rfl (fun ls hl => ?_)
                refine lv_aload X.1 X.2.1 dL_lessens_163 (lv_at hl 5 rfl) ?_
                refine lv_iload X.1 X.2.1 dL_lessens_165 (lv_at hl 1 rfl) ?_
                refine lv_iload X.1 X.2.1 dL_lessens_167 (lv_at hl 0 rfl) ?_
                refine call_ip (run_S X S (m_groundOf l G f_104 gg 2002 w (st 1) hgg_k_104 hgr (st 2 k) (st 3 k) q1 q2) 3 gL_lessens_L_groundOf rfl rfl rfl (by decide +kernel) ⟨(by exact Nat.le_of_ble_eq_true rfl), (by exact Nat.le_of_ble_eq_true rfl)⟩ rfl hl.1 rfl (by exact Nat.le_of_ble_eq_true rfl) dL_lessens_169 ⟨(show _ ≤ 500 by omega), (show _ ≤ 3300 by omega)⟩) S (fun r_169 H locs hr_169 S => ?_)
                obtain rfl := (show r_169 = nI g from hr_169.trans (by rw [eg]))
                refine lv_istore (lv' := [(19, .int (nI g)), (18, .int (nI (st 3 k))), (17, .int (nI (st 2 k))), (0, .ref x), (2, .int (nI y)), (3, .ref cc), (4, .ref gg), (5, .ref dd), (6, .int (nI x0)), (7, .int (nI y0)), (8, .int (nI tx)), (9, .int (nI ty)), (10, .int (nI v)), (11, .long (lN (cn (goneL st (floodφ x0 y0 tx ty v)) (st 0 0)))), (13, .long (lN (cn (goneL st (floodφ x0 y0 tx ty v)) k))), (15, .int 1), (16, .int (nI k))]) X.1 X.2.1 dL_lessens_172 hl (by decide) rfl (fun ls hl => ?_)
                have J244 : ∀ (H : Heap) (locs : List Loc) (ls : Array Slot), cxS G s0 f_104 H locs → lv_has ls 22 [(19, .int (nI g)), (18, .int (nI (st 3 k))), (17, .int (nI (st 2 k))), (0, .ref x), (2, .int (nI y)), (3, .ref cc), (4, .ref gg), (5, .ref dd), (6, .int (nI x0)), (7, .int (nI y0)), (8, .int (nI tx)), (9, .int (nI ty)), (10, .int (nI v)), (11, .long (lN (cn (goneL st (floodφ x0 y0 tx ty v)) (st 0 0)))), (13, .long (lN (cn (goneL st (floodφ x0 y0 tx ty v)) k))), (15, .int 1), (16, .int (nI k))] → W p0 l e0 ({ frames := 10, cells := 500, slots := 3300, locals := 267 } : Room) s0 m0 ([.ref x, .int (nI z), .int (nI y), .ref cc, .ref gg, .ref dd] : List Value).toArray b0 meth0 c0 H locs (ck + 2 + 2 + 0) (sk + 12 + 12 + 0) Q9 (F0 m0 244 ls [.int (nI (lessC st (floodφ x0 y0 tx ty v) k))]) := by
                  intro H locs ls S hl
                  obtain ⟨le, ele⟩ : ∃ z9 : Nat, z9 = lessC st (floodφ x0 y0 tx ty v) k := ⟨_, rfl⟩
                  rw [← ele]
                  have hle80 : le ≤ 80 := by rw [ele]; exact flood_le (by omega) _ (by omega)
                  refine lv_istore (lv' := [(20, .int (nI le)), (19, .int (nI g)), (18, .int (nI (st 3 k))), (17, .int (nI (st 2 k))), (0, .ref x), (2, .int (nI y)), (3, .ref cc), (4, .ref gg), (5, .ref dd), (6, .int (nI x0)), (7, .int (nI y0)), (8, .int (nI tx)), (9, .int (nI ty)), (10, .int (nI v)), (11, .long (lN (cn (goneL st (floodφ x0 y0 tx ty v)) (st 0 0)))), (13, .long (lN (cn (goneL st (floodφ x0 y0 tx ty v)) k))), (15, .int 1), (16, .int (nI k))]) X.1 X.2.1 dL_lessens_244 hl (by decide) rfl (fun ls hl => ?_)
                  have J268 : ∀ (H : Heap) (locs : List Loc) (ls : Array Slot), cxS G s0 f_104 H locs → lv_has ls 22 [(20, .int (nI le)), (19, .int (nI g)), (18, .int (nI (st 3 k))), (17, .int (nI (st 2 k))), (0, .ref x), (2, .int (nI y)), (3, .ref cc), (4, .ref gg), (5, .ref dd), (6, .int (nI x0)), (7, .int (nI y0)), (8, .int (nI tx)), (9, .int (nI ty)), (10, .int (nI v)), (11, .long (lN (cn (goneL st (floodφ x0 y0 tx ty v)) (st 0 0)))), (13, .long (lN (cn (goneL st (floodφ x0 y0 tx ty v)) k))), (15, .int 1), (16, .int (nI k))] → W p0 l e0 ({ frames := 10, cells := 500, slots := 3300, locals := 267 } : Room) s0 m0 ([.ref x, .int (nI z), .int (nI y), .ref cc, .ref gg, .ref dd] : List Value).toArray b0 meth0 c0 H locs (ck + 2 + 2 + 0) (sk + 12 + 12 + 0) Q9 (F0 m0 268 ls [.int (nI (st 7 k - le))]) := by
                    intro H locs ls S hl
                    refine lv_istore (lv' := [(21, .int (nI (st 7 k - le))), (20, .int (nI le)), (19, .int (nI g)), (18, .int (nI (st 3 k))), (17, .int (nI (st 2 k))), (0, .ref x), (2, .int (nI y)), (3, .ref cc), (4, .ref gg), (5, .ref dd), (6, .int (nI x0)), (7, .int (nI y0)), (8, .int (nI tx)), (9, .int (nI ty)), (10, .int (nI v)), (11, .long (lN (cn (goneL st (floodφ x0 y0 tx ty v)) (st 0 0)))), (13, .long (lN (cn (goneL st (floodφ x0 y0 tx ty v)) k))), (15, .int 1), (16, .int (nI k))]) X.1 X.2.1 dL_lessens_268 hl (by decide) rfl (fun ls hl => ?_)
                    by_cases hgo : 0 < st 7 k ∧ st 7 k - le = 0
                    · refine lv_lload X.1 X.2.1 dL_lessens_270 (lv_at hl 16 rfl) ?_
                      refine lv_aload X.1 X.2.1 dL_lessens_272 (lv_at hl 9 rfl) ?_
                      refine lv_iload X.1 X.2.1 dL_lessens_274 (lv_at hl 18 rfl) ?_
                      refine n_iald (i := k) (v := (nI (st 7 k))) X S hdk_104 (hDk k hlt) dL_lessens_276 ?_
                      refine z_le (a := st 7 k) (tgt := 289) X dL_lessens_277 (by decide) (fun n_277 => by exfalso; omega) (fun n_277 => ?_)
                      refine lv_iload X.1 X.2.1 dL_lessens_280 (lv_at hl 0 rfl) ?_
                      refine z_ne (a := st 7 k - le) (tgt := 289) X dL_lessens_282 (by decide) (fun n_282 => by exfalso; omega) (fun n_282 => ?_)
                      refine lv_lconst (v := 1) X.1 X.2.1 dL_lessens_285 (by decide) ?_
                      refine lv_goto (tgt := 290) X.1 X.2.1 dL_lessens_286 (by decide) ?_
                      refine n_ladd (a := cn (goneL st (floodφ x0 y0 tx ty v)) k) (b := 1) X dL_lessens_290 ?_
                      refine lv_lstore (lv' := [(13, .long (lN ((cn (goneL st (floodφ x0 y0 tx ty v)) k) + 1))), (21, .int (nI (st 7 k - le))), (20, .int (nI le)), (19, .int (nI g)), (18, .int (nI (st 3 k))), (17, .int (nI (st 2 k))), (0, .ref x), (2, .int (nI y)), (3, .ref cc), (4, .ref gg), (5, .ref dd), (6, .int (nI x0)), (7, .int (nI y0)), (8, .int (nI tx)), (9, .int (nI ty)), (10, .int (nI v)), (11, .long (lN (cn (goneL st (floodφ x0 y0 tx ty v)) (st 0 0)))), (15, .int 1), (16, .int (nI k))]) X.1 X.2.1 dL_lessens_291 hl (by decide) rfl (fun ls hl => ?_)
                      refine lv_aload_n X.1 X.2.1 dL_lessens_293 rfl (lv_at hl 6 rfl) ?_
                      refine lv_iload X.1 X.2.1 dL_lessens_294 (lv_at hl 18 rfl) ?_
                      refine lv_iconst (v := 3) X.1 X.2.1 dL_lessens_296 (by decide) ?_
                      refine call_iq (run_V X S (u_about l hst G f_104 st1 x hI_104 hRc_104 k 3 (by omega) (by decide)) 2 gL_lessens_X9_about rfl rfl rfl (by decide +kernel) ⟨(by exact Nat.le_of_ble_eq_true rfl), (by exact Nat.le_of_ble_eq_true rfl)⟩ (RX.obj hRc_104) rfl rfl rfl hl.1 rfl (by exact Nat.le_of_ble_eq_true rfl) dL_lessens_297 ⟨(show _ ≤ 500 by omega), (show _ ≤ 3300 by omega)⟩) S (fun r_297 H locs hr_297 S => ?_)
                      obtain rfl := (show r_297 = nI (st 7 k - le) from hr_297.trans (congrArg nI ((he7 k hlt).trans (by rw [ele]))))
                      refine lv_iload X.1 X.2.1 dL_lessens_300 (lv_at hl 1 rfl) ?_
                      refine n_ne (a := st 7 k - le) (b := st 7 k - le) (tgt := 309) X dL_lessens_302 (by decide) (fun n_302 => by exfalso; omega) (fun n_302 => ?_)
                      refine lv_iconst (v := 1) X.1 X.2.1 dL_lessens_305 (by decide) ?_
                      refine lv_goto (tgt := 310) X.1 X.2.1 dL_lessens_306 (by decide) ?_
                      refine lv_istore (lv' := [(15, .int 1), (13, .long (lN ((cn (goneL st (floodφ x0 y0 tx ty v)) k) + 1))), (21, .int (nI (st 7 k - le))), (20, .int (nI le)), (19, .int (nI g)), (18, .int (nI (st 3 k))), (17, .int (nI (st 2 k))), (0, .ref x), (2, .int (nI y)), (3, .ref cc), (4, .ref gg), (5, .ref dd), (6, .int (nI x0)), (7, .int (nI y0)), (8, .int (nI tx)), (9, .int (nI ty)), (10, .int (nI v)), (11, .long (lN (cn (goneL st (floodφ x0 y0 tx ty v)) (st 0 0)))), (16, .int (nI k))]) X.1 X.2.1 dL_lessens_310 hl (by decide) rfl (fun ls hl => ?_)
                      refine lv_iinc (v := (nI (k + 1))) (lv' := [(16, .int (nI (k + 1))), (15, .int 1), (13, .long (lN ((cn (goneL st (floodφ x0 y0 tx ty v)) k) + 1))), (21, .int (nI (st 7 k - le))), (20, .int (nI le)), (19, .int (nI g)), (18, .int (nI (st 3 k))), (17, .int (nI (st 2 k))), (0, .ref x), (2, .int (nI y)), (3, .ref cc), (4, .ref gg), (5, .ref dd), (6, .int (nI x0)), (7, .int (nI y0)), (8, .int (nI tx)), (9, .int (nI ty)), (10, .int (nI v)), (11, .long (lN (cn (goneL st (floodφ x0 y0 tx ty v)) (st 0 0))))]) X.1 X.2.1 dL_lessens_312 hl (k := 18) rfl (nI_1 _) (by decide) rfl (fun ls hl => ?_)
                      refine lv_goto (tgt := 132) X.1 X.2.1 dL_lessens_315 (by decide) ?_
                      have e1 : (cn (goneL st (floodφ x0 y0 tx ty v)) (k + 1)) = (cn (goneL st (floodφ x0 y0 tx ty v)) k) + 1 := gonL_t (by rw [← ele]; exact hgo)
                      exact ih (k + 1) _ _ H locs ls (by omega) (by omega) (by omega) (by omega) S (by rw [e1]; exact lv_sub hl [8, 9, 10, 11, 12, 13, 14, 15, 16, 17, 18, 2, 1, 0] rfl)
                    · refine lv_lload X.1 X.2.1 dL_lessens_270 (lv_at hl 16 rfl) ?_
                      have J290 : ∀ (H : Heap) (locs : List Loc) (ls : Array Slot), cxS G s0 f_104 H locs → lv_has ls 22 [(21, .int (nI (st 7 k - le))), (20, .int (nI le)), (19, .int (nI g)), (18, .int (nI (st 3 k))), (17, .int (nI (st 2 k))), (0, .ref x), (2, .int (nI y)), (3, .ref cc), (4, .ref gg), (5, .ref dd), (6, .int (nI x0)), (7, .int (nI y0)), (8, .int (nI tx)), (9, .int (nI ty)), (10, .int (nI v)), (11, .long (lN (cn (goneL st (floodφ x0 y0 tx ty v)) (st 0 0)))), (13, .long (lN (cn (goneL st (floodφ x0 y0 tx ty v)) k))), (15, .int 1), (16, .int (nI k))] → W p0 l e0 ({ frames := 10, cells := 500, slots := 3300, locals := 267 } : Room) s0 m0 ([.ref x, .int (nI z), .int (nI y), .ref cc, .ref gg, .ref dd] : List Value).toArray b0 meth0 c0 H locs (ck + 2 + 2 + 0) (sk + 12 + 12 + 0) Q9 (F0 m0 290 ls [.long 0, .long (lN (cn (goneL st (floodφ x0 y0 tx ty v)) k))]) := by
                        intro H locs ls S hl
                        refine n_ladd (a := cn (goneL st (floodφ x0 y0 tx ty v)) k) (b := 0) X dL_lessens_290 ?_
                        refine lv_lstore (lv' := [(13, .long (lN ((cn (goneL st (floodφ x0 y0 tx ty v)) k) + 0))), (21, .int (nI (st 7 k - le))), (20, .int (nI le)), (19, .int (nI g)), (18, .int (nI (st 3 k))), (17, .int (nI (st 2 k))), (0, .ref x), (2, .int (nI y)), (3, .ref cc), (4, .ref gg), (5, .ref dd), (6, .int (nI x0)), (7, .int (nI y0)), (8, .int (nI tx)), (9, .int (nI ty)), (10, .int (nI v)), (11, .long (lN (cn (goneL st (floodφ x0 y0 tx ty v)) (st 0 0)))), (15, .int 1), (16, .int (nI k))]) X.1 X.2.1 dL_lessens_291 hl (by decide) rfl (fun ls hl => ?_)
                        refine lv_aload_n X.1 X.2.1 dL_lessens_293 rfl (lv_at hl 6 rfl) ?_
                        refine lv_iload X.1 X.2.1 dL_lessens_294 (lv_at hl 18 rfl) ?_
                        refine lv_iconst (v := 3) X.1 X.2.1 dL_lessens_296 (by decide) ?_
                        refine call_iq (run_V X S (u_about l hst G f_104 st1 x hI_104 hRc_104 k 3 (by omega) (by decide)) 2 gL_lessens_X9_about rfl rfl rfl (by decide +kernel) ⟨(by exact Nat.le_of_ble_eq_true rfl), (by exact Nat.le_of_ble_eq_true rfl)⟩ (RX.obj hRc_104) rfl rfl rfl hl.1 rfl (by exact Nat.le_of_ble_eq_true rfl) dL_lessens_297 ⟨(show _ ≤ 500 by omega), (show _ ≤ 3300 by omega)⟩) S (fun r_297 H locs hr_297 S => ?_)
                        obtain rfl := (show r_297 = nI (st 7 k - le) from hr_297.trans (congrArg nI ((he7 k hlt).trans (by rw [ele]))))
                        refine lv_iload X.1 X.2.1 dL_lessens_300 (lv_at hl 1 rfl) ?_
                        refine n_ne (a := st 7 k - le) (b := st 7 k - le) (tgt := 309) X dL_lessens_302 (by decide) (fun n_302 => by exfalso; omega) (fun n_302 => ?_)
                        refine lv_iconst (v := 1) X.1 X.2.1 dL_lessens_305 (by decide) ?_
                        refine lv_goto (tgt := 310) X.1 X.2.1 dL_lessens_306 (by decide) ?_
                        refine lv_istore (lv' := [(15, .int 1), (13, .long (lN ((cn (goneL st (floodφ x0 y0 tx ty v)) k) + 0))), (21, .int (nI (st 7 k - le))), (20, .int (nI le)), (19, .int (nI g)), (18, .int (nI (st 3 k))), (17, .int (nI (st 2 k))), (0, .ref x), (2, .int (nI y)), (3, .ref cc), (4, .ref gg), (5, .ref dd), (6, .int (nI x0)), (7, .int (nI y0)), (8, .int (nI tx)), (9, .int (nI ty)), (10, .int (nI v)), (11, .long (lN (cn (goneL st (floodφ x0 y0 tx ty v)) (st 0 0)))), (16, .int (nI k))]) X.1 X.2.1 dL_lessens_310 hl (by decide) rfl (fun ls hl => ?_)
                        refine lv_iinc (v := (nI (k + 1))) (lv' := [(16, .int (nI (k + 1))), (15, .int 1), (13, .long (lN ((cn (goneL st (floodφ x0 y0 tx ty v)) k) + 0))), (21, .int (nI (st 7 k - le))), (20, .int (nI le)), (19, .int (nI g)), (18, .int (nI (st 3 k))), (17, .int (nI (st 2 k))), (0, .ref x), (2, .int (nI y)), (3, .ref cc), (4, .ref gg), (5, .ref dd), (6, .int (nI x0)), (7, .int (nI y0)), (8, .int (nI tx)), (9, .int (nI ty)), (10, .int (nI v)), (11, .long (lN (cn (goneL st (floodφ x0 y0 tx ty v)) (st 0 0))))]) X.1 X.2.1 dL_lessens_312 hl (k := 18) rfl (nI_1 _) (by decide) rfl (fun ls hl => ?_)
                        refine lv_goto (tgt := 132) X.1 X.2.1 dL_lessens_315 (by decide) ?_
                        have e1 : (cn (goneL st (floodφ x0 y0 tx ty v)) (k + 1)) = (cn (goneL st (floodφ x0 y0 tx ty v)) k) + 0 := gonL_f (by rw [← ele]; exact hgo)
                        exact ih (k + 1) _ _ H locs ls (by omega) (by omega) (by omega) (by omega) S (by rw [e1]; exact lv_sub hl [8, 9, 10, 11, 12, 13, 14, 15, 16, 17, 18, 2, 1, 0] rfl)
                      refine lv_aload X.1 X.2.1 dL_lessens_272 (lv_at hl 9 rfl) ?_
                      refine lv_iload X.1 X.2.1 dL_lessens_274 (lv_at hl 18 rfl) ?_
                      refine n_iald (i := k) (v := (nI (st 7 k))) X S hdk_104 (hDk k hlt) dL_lessens_276 ?_
                      refine z_le (a := st 7 k) (tgt := 289) X dL_lessens_277 (by decide) (fun n_277 => ?_) (fun n_277 => ?_)
                      · refine lv_lconst (v := 0) X.1 X.2.1 dL_lessens_289 (by decide) ?_
                        exact W.widen (by omega) (by omega) (J290 _ _ ls S (lv_sub hl [0, 1, 2, 3, 4, 5, 6, 7, 8, 9, 10, 11, 12, 13, 14, 15, 16, 17, 18] rfl))
                      · refine lv_iload X.1 X.2.1 dL_lessens_280 (lv_at hl 0 rfl) ?_
                        refine z_ne (a := st 7 k - le) (tgt := 289) X dL_lessens_282 (by decide) (fun n_282 => ?_) (fun n_282 => ?_)
                        · refine lv_lconst (v := 0) X.1 X.2.1 dL_lessens_289 (by decide) ?_
                          exact W.widen (by omega) (by omega) (J290 _ _ ls S (lv_sub hl [0, 1, 2, 3, 4, 5, 6, 7, 8, 9, 10, 11, 12, 13, 14, 15, 16, 17, 18] rfl))
                        · exfalso
                          omega
                  refine lv_aload X.1 X.2.1 dL_lessens_246 (lv_at hl 8 rfl) ?_
                  refine lv_iload X.1 X.2.1 dL_lessens_248 (lv_at hl 17 rfl) ?_
                  refine n_iald (i := k) (v := (nI (st 7 k))) X S hdk_104 (hDk k hlt) dL_lessens_250 ?_
                  refine lv_iload X.1 X.2.1 dL_lessens_251 (lv_at hl 0 rfl) ?_
                  refine n_le (a := st 7 k) (b := le) (tgt := 267) X dL_lessens_253 (by decide) (fun n_253 => ?_) (fun n_253 => ?_)
                  · refine lv_iconst (v := 0) X.1 X.2.1 dL_lessens_267 (by decide) ?_
                    refine r_toi (show (0 : Int32) = nI (st 7 k - le) from congrArg nI (show 0 = st 7 k - le by omega)) ?_
                    exact W.widen (by omega) (by omega) (J268 _ _ ls S (lv_sub hl [0, 1, 2, 3, 4, 5, 6, 7, 8, 9, 10, 11, 12, 13, 14, 15, 16, 17] rfl))
                  · refine lv_aload X.1 X.2.1 dL_lessens_256 (lv_at hl 8 rfl) ?_
                    refine lv_iload X.1 X.2.1 dL_lessens_258 (lv_at hl 17 rfl) ?_
                    refine n_iald (i := k) (v := (nI (st 7 k))) X S hdk_104 (hDk k hlt) dL_lessens_260 ?_
                    refine lv_iload X.1 X.2.1 dL_lessens_261 (lv_at hl 0 rfl) ?_
                    refine n_sub (a := st 7 k) (b := le) X dL_lessens_263 ?_
                    refine lv_goto (tgt := 268) X.1 X.2.1 dL_lessens_264 (by decide) ?_
                    refine r_toi (show (nI ((st 7 k) - le) : Int32) = nI (st 7 k - le) from rfl) ?_
                    exact W.widen (by omega) (by omega) (J268 _ _ ls S (lv_sub hl [0, 1, 2, 3, 4, 5, 6, 7, 8, 9, 10, 11, 12, 13, 14, 15, 16, 17] rfl))
                refine lv_iload_n X.1 X.2.1 dL_lessens_174 rfl (lv_at hl 4 rfl) ?_
                refine lv_iconst (v := 2) X.1 X.2.1 dL_lessens_175 (by decide) ?_
                refine n_rem (a := y) (b := 2) X dL_lessens_176 ?_
                refine z_ne (a := y % 2) (tgt := 217) X dL_lessens_177 (by decide) (fun n_177 => by exfalso; omega) (fun n_177 => ?_)
                refine lv_iload X.1 X.2.1 dL_lessens_180 (lv_at hl 2 rfl) ?_
                refine lv_iload X.1 X.2.1 dL_lessens_182 (lv_at hl 8 rfl) ?_
                refine n_lt (a := st 2 k) (b := x0) (tgt := 213) X dL_lessens_184 (by decide) (fun n_184 => ?_) (fun n_184 => ?_)
                · refine lv_iconst (v := 0) X.1 X.2.1 dL_lessens_213 (by decide) ?_
                  refine lv_goto (tgt := 244) X.1 X.2.1 dL_lessens_214 (by decide) ?_
                  refine r_toi (show (0 : Int32) = nI (lessC st (floodφ x0 y0 tx ty v) k) from congrArg nI (hle.2 (by omega))) ?_
                  exact W.widen (by omega) (by omega) (J244 _ _ ls S (lv_sub hl [0, 1, 2, 3, 4, 5, 6, 7, 8, 9, 10, 11, 12, 13, 14, 15, 16] rfl))
                · refine lv_iload X.1 X.2.1 dL_lessens_187 (lv_at hl 2 rfl) ?_
                  refine lv_iload X.1 X.2.1 dL_lessens_189 (lv_at hl 10 rfl) ?_
                  refine n_gt (a := st 2 k) (b := tx) (tgt := 213) X dL_lessens_191 (by decide) (fun n_191 => ?_) (fun n_191 => ?_)
                  · refine lv_iconst (v := 0) X.1 X.2.1 dL_lessens_213 (by decide) ?_
                    refine lv_goto (tgt := 244) X.1 X.2.1 dL_lessens_214 (by decide) ?_
                    refine r_toi (show (0 : Int32) = nI (lessC st (floodφ x0 y0 tx ty v) k) from congrArg nI (hle.2 (by omega))) ?_
                    exact W.widen (by omega) (by omega) (J244 _ _ ls S (lv_sub hl [0, 1, 2, 3, 4, 5, 6, 7, 8, 9, 10, 11, 12, 13, 14, 15, 16] rfl))
                  · refine lv_iload X.1 X.2.1 dL_lessens_194 (lv_at hl 1 rfl) ?_
                    refine lv_iload X.1 X.2.1 dL_lessens_196 (lv_at hl 9 rfl) ?_
                    refine n_lt (a := st 3 k) (b := y0) (tgt := 213) X dL_lessens_198 (by decide) (fun n_198 => ?_) (fun n_198 => ?_)
                    · refine lv_iconst (v := 0) X.1 X.2.1 dL_lessens_213 (by decide) ?_
                      refine lv_goto (tgt := 244) X.1 X.2.1 dL_lessens_214 (by decide) ?_
                      refine r_toi (show (0 : Int32) = nI (lessC st (floodφ x0 y0 tx ty v) k) from congrArg nI (hle.2 (by omega))) ?_
                      exact W.widen (by omega) (by omega) (J244 _ _ ls S (lv_sub hl [0, 1, 2, 3, 4, 5, 6, 7, 8, 9, 10, 11, 12, 13, 14, 15, 16] rfl))
                    · refine lv_iload X.1 X.2.1 dL_lessens_201 (lv_at hl 1 rfl) ?_
                      refine lv_iload X.1 X.2.1 dL_lessens_203 (lv_at hl 11 rfl) ?_
                      refine n_gt (a := st 3 k) (b := ty) (tgt := 213) X dL_lessens_205 (by decide) (fun n_205 => ?_) (fun n_205 => ?_)
                      · refine lv_iconst (v := 0) X.1 X.2.1 dL_lessens_213 (by decide) ?_
                        refine lv_goto (tgt := 244) X.1 X.2.1 dL_lessens_214 (by decide) ?_
                        refine r_toi (show (0 : Int32) = nI (lessC st (floodφ x0 y0 tx ty v) k) from congrArg nI (hle.2 (by omega))) ?_
                        exact W.widen (by omega) (by omega) (J244 _ _ ls S (lv_sub hl [0, 1, 2, 3, 4, 5, 6, 7, 8, 9, 10, 11, 12, 13, 14, 15, 16] rfl))
                      · refine lv_iload X.1 X.2.1 dL_lessens_208 (lv_at hl 12 rfl) ?_
                        refine lv_goto (tgt := 244) X.1 X.2.1 dL_lessens_210 (by decide) ?_
                        refine r_toi (show (nI v : Int32) = nI (lessC st (floodφ x0 y0 tx ty v) k) from congrArg nI (hle.1 (by omega))) ?_
                        exact W.widen (by omega) (by omega) (J244 _ _ ls S (lv_sub hl [0, 1, 2, 3, 4, 5, 6, 7, 8, 9, 10, 11, 12, 13, 14, 15, 16] rfl))
          exact loop2 (st 0 0 + 1) 0 _ _ _ _ ls (by omega) (by omega) (by omega) (by omega) S (lv_sub hl [9, 11, 12, 13, 14, 8, 7, 6, 5, 4, 3, 2, 1, 0] rfl)
      · have hlt : k < st 0 0 := by omega
        have hc := hI.2.2.1 k hlt
        unfold cIn at hc
        obtain ⟨q1, q2, q3, q4, q5, q6, q7, q8⟩ := hc
        refine lv_aload X.1 X.2.1 dL_lessens_68 (lv_at hl 10 rfl) ?_
        refine lv_iload X.1 X.2.1 dL_lessens_70 (lv_at hl 11 rfl) ?_
        refine lv_aload_n X.1 X.2.1 dL_lessens_72 rfl (lv_at hl 5 rfl) ?_
        refine lv_iload X.1 X.2.1 dL_lessens_73 (lv_at hl 11 rfl) ?_
        refine lv_iconst (v := 3) X.1 X.2.1 dL_lessens_75 (by decide) ?_
        refine call_iq (run_V X S (u_about l hst G fk st x hI hRk k 3 hlt (by decide)) 2 gL_lessens_X9_about rfl rfl rfl (by decide +kernel) ⟨(by exact Nat.le_of_ble_eq_true rfl), (by exact Nat.le_of_ble_eq_true rfl)⟩ (RX.obj hRk) rfl rfl rfl hl.1 rfl (by exact Nat.le_of_ble_eq_true rfl) dL_lessens_76 ⟨(show _ ≤ 500 by omega), (show _ ≤ 3300 by omega)⟩) S (fun r_76 H locs hr_76 S => ?_)
        obtain rfl := (show r_76 = nI (st 7 k) from hr_76)
        refine n_iast (i := k) (v := (nI (st 7 k))) X S hdk (by decide) dL_lessens_79 (fun f_79 H locs ef_79 S => ?_)
        have hcc_k_79 : f_79 cc = some (2001, eI G 5 C) := by rw [ef_79]; exact wu_get hdk hcc_k (by decide)
        have hgg_k_79 : f_79 gg = some (2002, eI G 16 w) := by rw [ef_79]; exact wu_get hdk hgg_k (by decide)
        have hee_k_79 : f_79 ee = some (2004, eI G 6 E) := by rw [ef_79]; exact wu_get hdk hee_k (by decide)
        have haa_k_79 : f_79 aa = some (2005, eJ G 16 A) := by rw [ef_79]; exact wu_get hdk haa_k (by decide)
        have hdk_79 : f_79 dd = some (2003, eI G 64 (upd Dk k (nI (st 7 k)))) := by rw [ef_79]; exact wu_self _ _ _ _
        refine lv_iinc (v := (nI (k + 1))) (lv' := [(11, .int (nI (k + 1))), (10, .int (nI v)), (9, .int (nI ty)), (8, .int (nI tx)), (7, .int (nI y0)), (6, .int (nI x0)), (0, .ref x), (1, .int (nI z)), (2, .int (nI y)), (3, .ref cc), (4, .ref gg), (5, .ref dd)]) X.1 X.2.1 dL_lessens_80 hl (k := 11) rfl (nI_1 _) (by decide) rfl (fun ls hl => ?_)
        refine lv_goto (tgt := 60) X.1 X.2.1 dL_lessens_83 (by decide) ?_
        exact ih (k + 1) f_79 (upd Dk k (nI (st 7 k))) _ _ H locs ls (by omega) (by omega) hdk_79 (md_tr hmd (by rw [ef_79]; exact md_put hdk) (fun t q => q) (fun t q => q)) (fun i hi => by rcases Nat.lt_or_ge i k with q | q; rw [pk_un (by omega)]; exact hDk i q; rw [show i = k by omega, pk_us]) (by omega) (by omega) S (lv_sub hl [1, 2, 3, 4, 5, 6, 7, 8, 9, 10, 11, 0] rfl)
  exact loopD (st 0 0 + 1) 0 f D _ _ _ _ ls (by omega) (by omega) hdd (md_rf _ _) (fun i hi => absurd hi (Nat.not_lt_zero i)) (by first | omega | exact Nat.le_of_ble_eq_true rfl) (by first | omega | exact Nat.le_of_ble_eq_true rfl) S (lv_sub hl [1, 2, 3, 4, 5, 6, 7, 8, 9, 10, 11, 0] rfl)
