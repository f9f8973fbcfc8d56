/-! the law: what its rows hold of the state; stones -/
def LA (G : cx_G) (f : Wd) (st : St) (x cc gg dd ee aa : Nat) (C w D E : Nat → Int32) (A : Nat → Int64) : Prop :=
  sInv st ∧ RX G f st x ∧ f cc = some (2001, eI G 5 C) ∧ f gg = some (2002, eI G 16 w) ∧ f dd = some (2003, eI G 64 D) ∧ f ee = some (2004, eI G 6 E) ∧ f aa = some (2005, eJ G 16 A) ∧
  (C 0 = nI (st 0 0) ∧ C 1 = nI (st 0 4) ∧ C 3 = nI (st 0 2) ∧ C 4 = nI (st 0 3)) ∧ grdL w (st 1) ∧ (∀ i, i < st 0 2 → E i = nI (st 9 i)) ∧ (∀ i, i < st 0 3 → A i = lN (st 10 i) ∧ A (8 + i) = lN (st 11 i))
def LAe (G : cx_G) (f : Wd) (st : St) (x cc gg dd ee aa : Nat) : Prop := ∃ (C w D E : Nat → Int32) (A : Nat → Int64), LA G f st x cc gg dd ee aa C w D E A
def LB (st : St) (j : Nat) : Prop := st 0 0 ≤ 57 ∧ st 0 1 ≤ j ∧ ∀ i, i < st 0 3 → st 10 i ≤ 400000000 * (i + 1) ∧ st 11 i ≤ 100000 * (i + 1)
def LSt (G : cx_G) (x cc gg dd ee aa j : Nat) (f' : Wd) : Prop := ∃ st' : St, LAe G f' st' x cc gg dd ee aa ∧ LB st' j
theorem rad_e {g z : Nat} (h1 : 1 ≤ z) : (g = 0 → z = radOn g z) ∧ (g = 2 → z + 1 = radOn g z) ∧ (¬ g = 0 → ¬ g = 2 → g ≤ 2 → 1 < z → z - 1 = radOn g z) ∧ (¬ g = 0 → ¬ g = 2 → g ≤ 2 → ¬ 1 < z → 1 = radOn g z) := by
  unfold radOn
  refine ⟨fun h => ?_, fun h => ?_, fun a b c d => ?_, fun a b c d => ?_⟩
  · subst h; rfl
  · subst h; rfl
  · rw [if_pos (by omega), if_neg (by omega)]
  · rw [if_pos (by omega), if_pos (by omega)]
theorem dep_e {g z : Nat} : (g = 0 → depOn g z = z * 4) ∧ (g = 1 → depOn g z = z * 3) ∧ (g = 2 → depOn g z = z * 5) := by
  unfold depOn
  refine ⟨fun h => ?_, fun h => ?_, fun h => ?_⟩ <;> subst h <;> simp <;> omega
theorem los_e {st : St} {k a b z w : Nat} (hw : w = radOn (st 1 (16 * b + a)) z) :
    (st 5 k ≤ w → sq (st 2 k) a + sq (st 3 k) b ≤ w * w → lossB st k a b z = st 6 k) ∧
    (¬ (st 5 k ≤ w ∧ sq (st 2 k) a + sq (st 3 k) b ≤ w * w) → sq (st 2 k) a + sq (st 3 k) b ≤ (st 5 k + w) * (st 5 k + w) → lossB st k a b z = z) ∧
    (¬ (st 5 k ≤ w ∧ sq (st 2 k) a + sq (st 3 k) b ≤ w * w) → ¬ sq (st 2 k) a + sq (st 3 k) b ≤ (st 5 k + w) * (st 5 k + w) → lossB st k a b z = 0) := by
  unfold lossB lossN
  rw [← hw, sq_comm a, sq_comm b]
  exact ⟨fun h i => if_pos ⟨h, i⟩, fun h i => by rw [if_neg h, if_pos i], fun h i => by rw [if_neg h, if_neg i]⟩
theorem sq_self (a : Nat) : sq a a = 0 := by unfold sq; simp
theorem top_fall {st : St} {a b z : Nat} (h1 : 1 ≤ z) (h6 : z ≤ 6) : tpI (topP (fallSt st a b z) a b) (fallSt st a b z 0 0) = nI (st 0 0) := by
  rw [fall_n]
  refine tpI_t (decide_eq_true ?_)
  rw [fall_7, fall_2, fall_3, sq_self, sq_self]
  exact ⟨by have := depOn_in (g := st 1 (16 * b + a)) h1 h6; omega, Nat.zero_le _⟩
theorem gone_t {st : St} {a b z k : Nat} (h : 0 < st 7 k ∧ st 7 k - lossB st k a b z = 0) : cn (goneB st a b z) (k + 1) = cn (goneB st a b z) k + 1 := cn_t (decide_eq_true ⟨h.1, by omega⟩)
theorem gone_f {st : St} {a b z k : Nat} (h : ¬ (0 < st 7 k ∧ st 7 k - lossB st k a b z = 0)) : cn (goneB st a b z) (k + 1) = cn (goneB st a b z) k := cn_f (decide_eq_false (fun q => h ⟨q.1, by omega⟩))
set_option maxRecDepth 100000 in
set_option maxHeartbeats 4000000 in
/-- stones -/
theorem m_stones (l : Launch) (hst : l.stackTraces = false) (G : cx_G) (f : Wd) (st : St) (x : Nat) (cc gg dd ee aa : Nat) (C w D E : Nat → Int32) (A : Nat → Int64) (h0 : LA G f st x cc gg dd ee aa C w D E A) (j : Nat) (hB : LB st j) (h50 : st 0 0 < 50) (z y : Nat) (hz : z < 2 ^ 30) (hy : y < 2 ^ 30) : MI l G yL_stones wsL_stones 9 241 800 4900 [.ref x, .int (nI z), .int (nI y), .ref cc, .ref gg, .ref dd] f (fun r f' => r = 1 ∧ LSt G x cc gg dd ee aa (j + 1) f') := by
  refine cx_body (cc := cL_stones) (n := 18) (ret := (some .boolean)) (by decide +kernel) rfl (Nat.le_of_ble_eq_true rfl) ?_
  intro p0 e0 s0 m0 b0 meth0 c0 ls X hr hnm S hl
  have X : cxC G p0 l _ c0 cL_stones 18 m0 meth0 s0 _ RL wsL_stones := X
  have hl : lv_has ls 18 [(0, .ref x), (1, .int (nI z)), (2, .int (nI y)), (3, .ref cc), (4, .ref gg), (5, .ref dd)] := hl
  obtain ⟨hI, hR0, hcc, hgg, hdd, hee, haa, ⟨hC0, hC1, hC3, hC4⟩, hgr, hE, hA⟩ := id h0
  obtain ⟨h57, hbt, hbA⟩ := id hB
  have hn200 := hI.1.1
  refine lv_iload_n X.1 X.2.1 dL_stones_0 rfl (lv_at hl 1 rfl) ?_
  refine lv_bipush (v := 16) X.1 X.2.1 dL_stones_1 (by decide) ?_
  refine n_rem (a := z) (b := 16) X dL_stones_3 ?_
  obtain ⟨a, ha, ea⟩ : ∃ z9 : Nat, (z9 < 16) ∧ nI (z % 16) = nI z9 := ⟨_, Nat.mod_lt _ (by omega), rfl⟩
  refine r_toi ea ?_
  refine lv_istore (lv' := [(6, .int (nI a)), (0, .ref x), (1, .int (nI z)), (2, .int (nI y)), (3, .ref cc), (4, .ref gg), (5, .ref dd)]) X.1 X.2.1 dL_stones_4 hl (by decide) rfl (fun ls hl => ?_)
  refine lv_iload_n X.1 X.2.1 dL_stones_6 rfl (lv_at hl 2 rfl) ?_
  refine lv_bipush (v := 16) X.1 X.2.1 dL_stones_7 (by decide) ?_
  refine n_div (a := z) (b := 16) X dL_stones_9 ?_
  refine lv_bipush (v := 16) X.1 X.2.1 dL_stones_10 (by decide) ?_
  refine n_rem (a := z / 16) (b := 16) X dL_stones_12 ?_
  obtain ⟨b, hb, eb⟩ : ∃ z9 : Nat, (z9 < 16) ∧ nI ((z / 16) % 16) = nI z9 := ⟨_, Nat.mod_lt _ (by omega), rfl⟩
  refine r_toi eb ?_
  refine lv_istore (lv' := [(7, .int (nI b)), (6, .int (nI a)), (0, .ref x), (1, .int (nI z)), (2, .int (nI y)), (3, .ref cc), (4, .ref gg), (5, .ref dd)]) X.1 X.2.1 dL_stones_13 hl (by decide) rfl (fun ls hl => ?_)
  refine lv_iconst (v := 1) X.1 X.2.1 dL_stones_15 (by decide) ?_
  refine lv_iload_n X.1 X.2.1 dL_stones_16 rfl (lv_at hl 4 rfl) ?_
  refine lv_bipush (v := 6) X.1 X.2.1 dL_stones_17 (by decide) ?_
  refine n_rem (a := y) (b := 6) X dL_stones_19 ?_
  refine n_add (a := 1) (b := y % 6) X dL_stones_20 ?_
  obtain ⟨s, hs, es⟩ : ∃ z9 : Nat, (1 ≤ z9 ∧ z9 ≤ 6) ∧ nI (1 + (y % 6)) = nI z9 := ⟨_, ⟨by omega, by omega⟩, rfl⟩
  refine r_toi es ?_
  obtain ⟨hs1, hs6⟩ := hs
  obtain ⟨g, eg⟩ : ∃ z9 : Nat, z9 = st 1 (16 * b + a) := ⟨_, rfl⟩
  have hg2 : g ≤ 2 := by rw [eg]; exact hI.2.1 _ (by omega)
  refine lv_istore (lv' := [(8, .int (nI s)), (7, .int (nI b)), (6, .int (nI a)), (0, .ref x), (1, .int (nI z)), (2, .int (nI y)), (3, .ref cc), (4, .ref gg), (5, .ref dd)]) X.1 X.2.1 dL_stones_21 hl (by decide) rfl (fun ls hl => ?_)
  refine lv_aload X.1 X.2.1 dL_stones_23 (lv_at hl 7 rfl) ?_
  refine lv_iload X.1 X.2.1 dL_stones_25 (lv_at hl 2 rfl) ?_
  refine lv_iload X.1 X.2.1 dL_stones_27 (lv_at hl 1 rfl) ?_
  refine call_ip (run_S X S (m_groundOf l G f gg 2002 w (st 1) hgg hgr a b ha hb) 3 gL_stones_L_groundOf rfl rfl rfl (by decide +kernel) ⟨(by exact Nat.le_of_ble_eq_true rfl), (by exact Nat.le_of_ble_eq_true rfl)⟩ rfl hl.1 rfl (by exact Nat.le_of_ble_eq_true rfl) dL_stones_29 ⟨(by exact Nat.le_of_ble_eq_true rfl), (by exact Nat.le_of_ble_eq_true rfl)⟩) S (fun r_29 H locs hr_29 S => ?_)
  obtain rfl := (show r_29 = nI g from hr_29.trans (by rw [eg]))
  refine lv_istore (lv' := [(9, .int (nI g)), (8, .int (nI s)), (7, .int (nI b)), (6, .int (nI a)), (0, .ref x), (1, .int (nI z)), (2, .int (nI y)), (3, .ref cc), (4, .ref gg), (5, .ref dd)]) X.1 X.2.1 dL_stones_32 hl (by decide) rfl (fun ls hl => ?_)
  refine W_genQ (fun Q9 hQ9 => ?_)
  have J71 : ∀ (H : Heap) (locs : List Loc) (ls : Array Slot), cxS G s0 f H locs → lv_has ls 18 [(9, .int (nI g)), (8, .int (nI s)), (7, .int (nI b)), (6, .int (nI a)), (0, .ref x), (1, .int (nI z)), (2, .int (nI y)), (3, .ref cc), (4, .ref gg), (5, .ref dd)] → W p0 l e0 ({ frames := 9, cells := 800, slots := 4900, locals := 241 } : Room) s0 m0 ([.ref x, .int (nI z), .int (nI y), .ref cc, .ref gg, .ref dd] : List Value).toArray b0 meth0 c0 H locs 0 0 Q9 (F0 m0 71 ls [.int (nI (radOn g s))]) := by
    intro H locs ls S hl
    obtain ⟨wd, ewd⟩ : ∃ z9 : Nat, z9 = radOn g s := ⟨_, rfl⟩
    rw [← ewd]
    have hwd := radOn_in (g := g) hs1 hs6
    rw [← ewd] at hwd
    obtain ⟨hw1, hw7⟩ := hwd
    refine lv_istore (lv' := [(10, .int (nI wd)), (9, .int (nI g)), (8, .int (nI s)), (7, .int (nI b)), (6, .int (nI a)), (0, .ref x), (1, .int (nI z)), (2, .int (nI y)), (3, .ref cc), (4, .ref gg), (5, .ref dd)]) X.1 X.2.1 dL_stones_71 hl (by decide) rfl (fun ls hl => ?_)
    refine lv_iconst (v := 0) X.1 X.2.1 dL_stones_73 (by decide) ?_
    refine lv_istore (lv' := [(11, .int 0), (10, .int (nI wd)), (9, .int (nI g)), (8, .int (nI s)), (7, .int (nI b)), (6, .int (nI a)), (0, .ref x), (1, .int (nI z)), (2, .int (nI y)), (3, .ref cc), (4, .ref gg), (5, .ref dd)]) X.1 X.2.1 dL_stones_74 hl (by decide) rfl (fun ls hl => ?_)
    have loopD : ∀ (N : Nat) (k : Nat) (fk : Wd) (Dk : Nat → Int32) (ck : Nat) (sk : Nat) (H : Heap) (locs : List Loc) (ls : Array Slot), k ≤ st 0 0 → st 0 0 < k + N → fk dd = some (2003, eI G 64 Dk) → md (fun t => t = 2003) f fk → (∀ i, i < k → Dk i = nI (st 7 i)) → ck ≤ 2 * k → sk ≤ 12 * k → cxS G s0 fk H locs → lv_has ls 18 [(10, .int (nI wd)), (9, .int (nI g)), (8, .int (nI s)), (7, .int (nI b)), (6, .int (nI a)), (0, .ref x), (1, .int (nI z)), (2, .int (nI y)), (3, .ref cc), (4, .ref gg), (5, .ref dd), (11, .int (nI k))] → W p0 l e0 ({ frames := 9, cells := 800, slots := 4900, locals := 241 } : Room) s0 m0 ([.ref x, .int (nI z), .int (nI y), .ref cc, .ref gg, .ref dd] : List Value).toArray b0 meth0 c0 H locs ck sk Q9 (F0 m0 76 ls []) := by
      intro N
      induction N with
      | zero =>
        intro k fk Dk ck sk  H locs ls hk hN hdk hmd hDk hck hsk S hl
        exfalso
        omega
      | succ N ih =>
        intro k fk Dk ck sk  H locs ls hk hN hdk hmd hDk hck hsk S hl
        have hRk := hR0.kept (md_mono hmd (fun t q => by subst q; unfold tX; omega)) hn200
        have hcc_k := hmd _ _ _ hcc (by omega)
        have hgg_k := hmd _ _ _ hgg (by omega)
        have hee_k := hmd _ _ _ hee (by omega)
        have haa_k := hmd _ _ _ haa (by omega)
        refine lv_iload X.1 X.2.1 dL_stones_76 (lv_at hl 11 rfl) ?_
        refine lv_aload_n X.1 X.2.1 dL_stones_78 rfl (lv_at hl 8 rfl) ?_
        refine lv_iconst (v := 0) X.1 X.2.1 dL_stones_79 (by decide) ?_
        refine n_iald (i := 0) (v := (nI (st 0 0))) X S hcc_k hC0 dL_stones_80 ?_
        refine n_ge (a := k) (b := st 0 0) (tgt := 102) X dL_stones_81 (by decide) (fun n_81 => ?_) (fun n_81 => ?_)
        · have hkn : k = st 0 0 := by omega
          rw [hkn] at hck hsk hDk
          clear ih
          refine lv_aload_n X.1 X.2.1 dL_stones_102 rfl (lv_at hl 5 rfl) ?_
          refine lv_iload X.1 X.2.1 dL_stones_103 (lv_at hl 4 rfl) ?_
          refine lv_iload X.1 X.2.1 dL_stones_105 (lv_at hl 3 rfl) ?_
          refine lv_iload X.1 X.2.1 dL_stones_107 (lv_at hl 2 rfl) ?_
          refine call_i (run_V X S (u_stone l hst G fk st x hI hRk a b s ha hb hs1 hs6 (by omega)) 3 gL_stones_X9_stone rfl rfl rfl (by decide +kernel) ⟨(by exact Nat.le_of_ble_eq_true rfl), (by exact Nat.le_of_ble_eq_true rfl)⟩ (RX.obj hRk) rfl rfl rfl hl.1 rfl (by exact Nat.le_of_ble_eq_true rfl) dL_stones_109 ⟨(show _ ≤ 800 by omega), (show _ ≤ 4900 by omega)⟩) S (fun r_109 f_109 H locs hr_109 S => ?_)
          obtain ⟨hr109, hRc_109, hmc_109⟩ := hr_109
          have hcc_k_109 := hmc_109 _ _ _ hcc_k (by unfold tX; omega)
          have hgg_k_109 := hmc_109 _ _ _ hgg_k (by unfold tX; omega)
          have hee_k_109 := hmc_109 _ _ _ hee_k (by unfold tX; omega)
          have haa_k_109 := hmc_109 _ _ _ haa_k (by unfold tX; omega)
          have hdk_109 := hmc_109 _ _ _ hdk (by unfold tX; omega)
          have hI_109 : sInv (fallSt st a b s) := sInv_fall hI (by omega) ha hb hs1 hs6
          obtain rfl := (show r_109 = nI (cn (goneB st a b s) (st 0 0)) from hr109)
          obtain ⟨st1, est1⟩ : ∃ z9 : St, z9 = fallSt st a b s := ⟨_, rfl⟩
          rw [← est1] at hRc_109 hI_109
          have hn1 : st1 0 0 = st 0 0 + 1 := by rw [est1]; exact fall_n _ _ _ _
          have hel : ∀ (B i : Nat), 2 ≤ B → B ≤ 6 → i < st 0 0 → st1 B i = st B i := fun B i h1 h2 h3 => by rw [est1]; exact fall_e _ _ _ _ (by omega)
          have he7 : ∀ i, i < st 0 0 → st1 7 i = st 7 i - lossB st i a b s := fun i h => by rw [est1]; exact fall_d _ _ _ _ h
          have hbc := cn_le (goneB st a b s) (st 0 0)
          refine lv_istore (lv' := [(11, .int (nI (cn (goneB st a b s) (st 0 0)))), (10, .int (nI wd)), (9, .int (nI g)), (8, .int (nI s)), (7, .int (nI b)), (6, .int (nI a)), (0, .ref x), (1, .int (nI z)), (2, .int (nI y)), (3, .ref cc), (4, .ref gg), (5, .ref dd)]) X.1 X.2.1 dL_stones_112 hl (by decide) rfl (fun ls hl => ?_)
          refine lv_iconst (v := 0) X.1 X.2.1 dL_stones_114 (by decide) ?_
          refine lv_istore (lv' := [(12, .int 0), (11, .int (nI (cn (goneB st a b s) (st 0 0)))), (10, .int (nI wd)), (9, .int (nI g)), (8, .int (nI s)), (7, .int (nI b)), (6, .int (nI a)), (0, .ref x), (1, .int (nI z)), (2, .int (nI y)), (3, .ref cc), (4, .ref gg), (5, .ref dd)]) X.1 X.2.1 dL_stones_115 hl (by decide) rfl (fun ls hl => ?_)
          refine lv_iconst (v := 1) X.1 X.2.1 dL_stones_117 (by decide) ?_
          refine lv_istore (lv' := [(13, .int 1), (12, .int 0), (11, .int (nI (cn (goneB st a b s) (st 0 0)))), (10, .int (nI wd)), (9, .int (nI g)), (8, .int (nI s)), (7, .int (nI b)), (6, .int (nI a)), (0, .ref x), (1, .int (nI z)), (2, .int (nI y)), (3, .ref cc), (4, .ref gg), (5, .ref dd)]) X.1 X.2.1 dL_stones_118 hl (by decide) rfl (fun ls hl => ?_)
          refine lv_iconst (v := 0) X.1 X.2.1 dL_stones_120 (by decide) ?_
          refine lv_istore (lv' := [(14, .int 0), (13, .int 1), (12, .int 0), (11, .int (nI (cn (goneB st a b s) (st 0 0)))), (10, .int (nI wd)), (9, .int (nI g)), (8, .int (nI s)), (7, .int (nI b)), (6, .int (nI a)), (0, .ref x), (1, .int (nI z)), (2, .int (nI y)), (3, .ref cc), (4, .ref gg), (5, .ref dd)]) X.1 X.2.1 dL_stones_121 hl (by decide) rfl (fun ls hl => ?_)
          obtain ⟨ck0, eck0⟩ : ∃ z9 : Nat, z9 = ck + 5 := ⟨_, rfl⟩
          obtain ⟨sk0, esk0⟩ : ∃ z9 : Nat, z9 = sk + 324 := ⟨_, rfl⟩
          have loop2 : ∀ (N : Nat) (k : Nat) (ck : Nat) (sk : Nat) (H : Heap) (locs : List Loc) (ls : Array Slot), k ≤ st 0 0 → st 0 0 < k + N → ck ≤ ck0 + 10 * k → sk ≤ sk0 + 60 * k → cxS G s0 f_109 H locs → lv_has ls 18 [(0, .ref x), (3, .ref cc), (5, .ref dd), (6, .int (nI a)), (7, .int (nI b)), (8, .int (nI s)), (9, .int (nI g)), (10, .int (nI wd)), (11, .int (nI (cn (goneB st a b s) (st 0 0)))), (12, .int (nI (cn (goneB st a b s) k))), (13, .int 1), (14, .int (nI k))] → W p0 l e0 ({ frames := 9, cells := 800, slots := 4900, locals := 241 } : Room) s0 m0 ([.ref x, .int (nI z), .int (nI y), .ref cc, .ref gg, .ref dd] : List Value).toArray b0 meth0 c0 H locs ck sk Q9 (F0 m0 123 ls []) := by
            intro N
            induction N with
            | zero =>
              intro k ck sk  H locs ls hk hN hck hsk S hl
              exfalso
              omega
            | succ N ih =>
              intro k ck sk  H locs ls hk hN hck hsk S hl
              refine lv_iload X.1 X.2.1 dL_stones_123 (lv_at hl 11 rfl) ?_
              refine lv_aload_n X.1 X.2.1 dL_stones_125 rfl (lv_at hl 1 rfl) ?_
              refine lv_iconst (v := 0) X.1 X.2.1 dL_stones_126 (by decide) ?_
              refine n_iald (i := 0) (v := (nI (st 0 0))) X S hcc_k_109 hC0 dL_stones_127 ?_
              refine n_ge (a := k) (b := st 0 0) (tgt := 275) X dL_stones_128 (by decide) (fun n_128 => ?_) (fun n_128 => ?_)
              · have hkn : k = st 0 0 := by omega
                rw [hkn] at hl
                clear ih
                have hn1x : st1 0 0 ≤ 200 := hI_109.1.1
                refine lv_aload_n X.1 X.2.1 dL_stones_275 rfl (lv_at hl 1 rfl) ?_
                refine lv_iconst (v := 0) X.1 X.2.1 dL_stones_276 (by decide) ?_
                refine lv_dup2_11 X.1 X.2.1 dL_stones_277 rfl rfl ?_
                refine n_iald (i := 0) (v := (nI (st 0 0))) X S hcc_k_109 hC0 dL_stones_278 ?_
                refine lv_iconst (v := 1) X.1 X.2.1 dL_stones_279 (by decide) ?_
                refine n_add (a := st 0 0) (b := 1) X dL_stones_280 ?_
                refine n_iast (i := 0) (v := (nI ((st 0 0) + 1))) X S hcc_k_109 (by decide) dL_stones_281 (fun f_281 H locs ef_281 S => ?_)
                have hcc_k_281 : f_281 cc = some (2001, eI G 5 (upd C 0 (nI ((st 0 0) + 1)))) := by rw [ef_281]; exact wu_self _ _ _ _
                have hgg_k_281 : f_281 gg = some (2002, eI G 16 w) := by rw [ef_281]; exact wu_get hcc_k_109 hgg_k_109 (by decide)
                have hee_k_281 : f_281 ee = some (2004, eI G 6 E) := by rw [ef_281]; exact wu_get hcc_k_109 hee_k_109 (by decide)
                have haa_k_281 : f_281 aa = some (2005, eJ G 16 A) := by rw [ef_281]; exact wu_get hcc_k_109 haa_k_109 (by decide)
                have hdk_281 : f_281 dd = some (2003, eI G 64 Dk) := by rw [ef_281]; exact wu_get hcc_k_109 hdk_109 (by decide)
                have hR_281 : RX G f_281 st1 x := hRc_109.kept (by rw [ef_281]; exact md_mono (md_put hcc_k_109) (fun t q => by subst q; unfold tX; omega)) hn1x
                refine lv_aload_n X.1 X.2.1 dL_stones_282 rfl (lv_at hl 1 rfl) ?_
                refine lv_iconst (v := 0) X.1 X.2.1 dL_stones_283 (by decide) ?_
                refine n_iald (i := 0) (v := (nI (st 0 0 + 1))) X S hcc_k_281 pk_us dL_stones_284 ?_
                refine lv_iconst (v := 1) X.1 X.2.1 dL_stones_285 (by decide) ?_
                refine n_sub (a := st 0 0 + 1) (b := 1) X dL_stones_286 ?_
                refine r_toi (show nI ((st 0 0 + 1) - 1) = nI (st 0 0) from congrArg nI (by omega)) ?_
                refine lv_istore (lv' := [(14, .int (nI (st 0 0))), (0, .ref x), (3, .ref cc), (5, .ref dd), (6, .int (nI a)), (7, .int (nI b)), (8, .int (nI s)), (9, .int (nI g)), (10, .int (nI wd)), (11, .int (nI (cn (goneB st a b s) (st 0 0)))), (12, .int (nI (cn (goneB st a b s) (st 0 0)))), (13, .int 1)]) X.1 X.2.1 dL_stones_287 hl (by decide) rfl (fun ls hl => ?_)
                refine lv_iload X.1 X.2.1 dL_stones_289 (lv_at hl 11 rfl) ?_
                refine lv_if_eq (x := 1) (tgt := 387) X.1 X.2.1 dL_stones_291 (by decide) (fun c_291 => by first | exact absurd c_291 (by decide) | exact absurd (by decide) c_291) (fun c_291 => ?_)
                refine lv_iload X.1 X.2.1 dL_stones_294 (lv_at hl 9 rfl) ?_
                refine lv_iload X.1 X.2.1 dL_stones_296 (lv_at hl 10 rfl) ?_
                refine n_ne (a := cn (goneB st a b s) (st 0 0)) (b := cn (goneB st a b s) (st 0 0)) (tgt := 387) X dL_stones_298 (by decide) (fun n_298 => by exfalso; omega) (fun n_298 => ?_)
                refine lv_aload_n X.1 X.2.1 dL_stones_301 rfl (lv_at hl 1 rfl) ?_
                refine lv_iload X.1 X.2.1 dL_stones_302 (lv_at hl 0 rfl) ?_
                refine lv_iconst (v := 0) X.1 X.2.1 dL_stones_304 (by decide) ?_
                refine call_iq (run_V X S (u_about l hst G f_281 st1 x hI_109 hR_281 (st 0 0) 0 (by omega) (by decide)) 2 gL_stones_X9_about rfl rfl rfl (by decide +kernel) ⟨(by exact Nat.le_of_ble_eq_true rfl), (by exact Nat.le_of_ble_eq_true rfl)⟩ (RX.obj hR_281) rfl rfl rfl hl.1 rfl (by exact Nat.le_of_ble_eq_true rfl) dL_stones_305 ⟨(show _ ≤ 800 by omega), (show _ ≤ 4900 by omega)⟩) S (fun r_305 H locs hr_305 S => ?_)
                obtain rfl := (show r_305 = nI (a) from hr_305.trans (congrArg nI (by rw [est1]; exact fall_2 _ _ _ _)))
                refine lv_iload X.1 X.2.1 dL_stones_308 (lv_at hl 4 rfl) ?_
                refine n_ne (a := a) (b := a) (tgt := 387) X dL_stones_310 (by decide) (fun n_310 => by exfalso; omega) (fun n_310 => ?_)
                refine lv_aload_n X.1 X.2.1 dL_stones_313 rfl (lv_at hl 1 rfl) ?_
                refine lv_iload X.1 X.2.1 dL_stones_314 (lv_at hl 0 rfl) ?_
                refine lv_iconst (v := 1) X.1 X.2.1 dL_stones_316 (by decide) ?_
                refine call_iq (run_V X S (u_about l hst G f_281 st1 x hI_109 hR_281 (st 0 0) 1 (by omega) (by decide)) 2 gL_stones_X9_about rfl rfl rfl (by decide +kernel) ⟨(by exact Nat.le_of_ble_eq_true rfl), (by exact Nat.le_of_ble_eq_true rfl)⟩ (RX.obj hR_281) rfl rfl rfl hl.1 rfl (by exact Nat.le_of_ble_eq_true rfl) dL_stones_317 ⟨(show _ ≤ 800 by omega), (show _ ≤ 4900 by omega)⟩) S (fun r_317 H locs hr_317 S => ?_)
                obtain rfl := (show r_317 = nI (b) from hr_317.trans (congrArg nI (by rw [est1]; exact fall_3 _ _ _ _)))
                refine lv_iload X.1 X.2.1 dL_stones_320 (lv_at hl 5 rfl) ?_
                refine n_ne (a := b) (b := b) (tgt := 387) X dL_stones_322 (by decide) (fun n_322 => by exfalso; omega) (fun n_322 => ?_)
                refine lv_aload_n X.1 X.2.1 dL_stones_325 rfl (lv_at hl 1 rfl) ?_
                refine lv_iload X.1 X.2.1 dL_stones_326 (lv_at hl 0 rfl) ?_
                refine lv_iconst (v := 2) X.1 X.2.1 dL_stones_328 (by decide) ?_
                refine call_iq (run_V X S (u_about l hst G f_281 st1 x hI_109 hR_281 (st 0 0) 2 (by omega) (by decide)) 2 gL_stones_X9_about rfl rfl rfl (by decide +kernel) ⟨(by exact Nat.le_of_ble_eq_true rfl), (by exact Nat.le_of_ble_eq_true rfl)⟩ (RX.obj hR_281) rfl rfl rfl hl.1 rfl (by exact Nat.le_of_ble_eq_true rfl) dL_stones_329 ⟨(show _ ≤ 800 by omega), (show _ ≤ 4900 by omega)⟩) S (fun r_329 H locs hr_329 S => ?_)
                obtain rfl := (show r_329 = nI (wd) from hr_329.trans (congrArg nI (by rw [est1, ewd, eg]; exact fall_5 _ _ _ _)))
                refine lv_iload X.1 X.2.1 dL_stones_332 (lv_at hl 8 rfl) ?_
                refine n_ne (a := wd) (b := wd) (tgt := 387) X dL_stones_334 (by decide) (fun n_334 => by exfalso; omega) (fun n_334 => ?_)
                refine lv_aload_n X.1 X.2.1 dL_stones_337 rfl (lv_at hl 1 rfl) ?_
                refine lv_iload X.1 X.2.1 dL_stones_338 (lv_at hl 0 rfl) ?_
                refine lv_iconst (v := 3) X.1 X.2.1 dL_stones_340 (by decide) ?_
                refine call_iq (run_V X S (u_about l hst G f_281 st1 x hI_109 hR_281 (st 0 0) 3 (by omega) (by decide)) 2 gL_stones_X9_about rfl rfl rfl (by decide +kernel) ⟨(by exact Nat.le_of_ble_eq_true rfl), (by exact Nat.le_of_ble_eq_true rfl)⟩ (RX.obj hR_281) rfl rfl rfl hl.1 rfl (by exact Nat.le_of_ble_eq_true rfl) dL_stones_341 ⟨(show _ ≤ 800 by omega), (show _ ≤ 4900 by omega)⟩) S (fun r_341 H locs hr_341 S => ?_)
                obtain rfl := (show r_341 = nI (depOn g s) from hr_341.trans (congrArg nI (by rw [est1, eg]; exact fall_7 _ _ _ _)))
                refine lv_iload X.1 X.2.1 dL_stones_344 (lv_at hl 6 rfl) ?_
                have hdp := depOn_in (g := g) hs1 hs6
                have hde := dep_e (g := g) (z := s)
                rcases (show g = 0 ∨ g = 1 ∨ g = 2 by omega) with hg0 | hg0 | hg0
                · refine lv_iload X.1 X.2.1 dL_stones_346 (lv_at hl 7 rfl) ?_
                  refine z_ne (a := g) (tgt := 355) X dL_stones_348 (by decide) (fun n_348 => by exfalso; omega) (fun n_348 => ?_)
                  refine lv_iconst (v := 4) X.1 X.2.1 dL_stones_351 (by decide) ?_
                  refine lv_goto (tgt := 366) X.1 X.2.1 dL_stones_352 (by decide) ?_
                  refine n_mul (a := s) (b := 4) X dL_stones_366 ?_
                  refine n_ne (a := depOn g s) (b := s * 4) (tgt := 387) X dL_stones_367 (by decide) (fun n_367 => by exact absurd (hde.1 hg0) n_367) (fun n_367 => ?_)
                  refine lv_aload_n X.1 X.2.1 dL_stones_370 rfl (lv_at hl 1 rfl) ?_
                  refine lv_iload X.1 X.2.1 dL_stones_371 (lv_at hl 4 rfl) ?_
                  refine lv_iload X.1 X.2.1 dL_stones_373 (lv_at hl 5 rfl) ?_
                  refine call_iq (run_V X S (u_top l hst G f_281 st1 x hI_109 hR_281 a b ha hb) 2 gL_stones_X9_top rfl rfl rfl (by decide +kernel) ⟨(by exact Nat.le_of_ble_eq_true rfl), (by exact Nat.le_of_ble_eq_true rfl)⟩ (RX.obj hR_281) rfl rfl rfl hl.1 rfl (by exact Nat.le_of_ble_eq_true rfl) dL_stones_375 ⟨(show _ ≤ 800 by omega), (show _ ≤ 4900 by omega)⟩) S (fun r_375 H locs hr_375 S => ?_)
                  obtain rfl := (show r_375 = nI (st 0 0) from hr_375.trans (by rw [est1]; exact top_fall hs1 hs6))
                  refine lv_iload X.1 X.2.1 dL_stones_378 (lv_at hl 0 rfl) ?_
                  refine n_ne (a := st 0 0) (b := st 0 0) (tgt := 387) X dL_stones_380 (by decide) (fun n_380 => by exfalso; omega) (fun n_380 => ?_)
                  refine lv_iconst (v := 1) X.1 X.2.1 dL_stones_383 (by decide) ?_
                  refine lv_goto (tgt := 388) X.1 X.2.1 dL_stones_384 (by decide) ?_
                  subst hQ9
                  refine e_z X hr S (by omega) (by omega) dL_stones_388 rfl ?_
                  have ho : ∀ (B i : Nat), (B = 0 ∧ i ≠ 0) ∨ B = 1 ∨ 8 ≤ B → st1 B i = st B i := fun B i h => by rw [est1]; exact fall_e _ _ _ _ (by omega)
                  refine ⟨rfl, st1, ⟨_, _, _, _, _, hI_109, hR_281, hcc_k_281, hgg_k_281, hdk_281, hee_k_281, haa_k_281, ⟨by rw [pk_us, hn1], by rw [pk_un (by omega), hC1, ho 0 4 (by omega)], by rw [pk_un (by omega), hC3, ho 0 2 (by omega)], by rw [pk_un (by omega), hC4, ho 0 3 (by omega)]⟩, grdL_cong hgr (fun c _ => ho 1 c (by omega)), ?_, ?_⟩, by rw [hn1]; omega, by rw [ho 0 1 (by omega)]; omega, ?_⟩
                  · rw [ho 0 2 (by omega)]
                    exact fun i hi => by rw [ho 9 i (by omega)]; exact hE i hi
                  · rw [ho 0 3 (by omega)]
                    exact fun i hi => by rw [ho 10 i (by omega), ho 11 i (by omega)]; exact hA i hi
                  · rw [ho 0 3 (by omega)]
                    exact fun i hi => by rw [ho 10 i (by omega), ho 11 i (by omega)]; exact hbA i hi
                · refine lv_iload X.1 X.2.1 dL_stones_346 (lv_at hl 7 rfl) ?_
                  refine z_ne (a := g) (tgt := 355) X dL_stones_348 (by decide) (fun n_348 => ?_) (fun n_348 => by exfalso; omega)
                  refine lv_iload X.1 X.2.1 dL_stones_355 (lv_at hl 7 rfl) ?_
                  refine lv_iconst (v := 1) X.1 X.2.1 dL_stones_357 (by decide) ?_
                  refine n_ne (a := g) (b := 1) (tgt := 365) X dL_stones_358 (by decide) (fun n_358 => by exfalso; omega) (fun n_358 => ?_)
                  refine lv_iconst (v := 3) X.1 X.2.1 dL_stones_361 (by decide) ?_
                  refine lv_goto (tgt := 366) X.1 X.2.1 dL_stones_362 (by decide) ?_
                  refine n_mul (a := s) (b := 3) X dL_stones_366 ?_
                  refine n_ne (a := depOn g s) (b := s * 3) (tgt := 387) X dL_stones_367 (by decide) (fun n_367 => by exact absurd (hde.2.1 hg0) n_367) (fun n_367 => ?_)
                  refine lv_aload_n X.1 X.2.1 dL_stones_370 rfl (lv_at hl 1 rfl) ?_
                  refine lv_iload X.1 X.2.1 dL_stones_371 (lv_at hl 4 rfl) ?_
                  refine lv_iload X.1 X.2.1 dL_stones_373 (lv_at hl 5 rfl) ?_
                  refine call_iq (run_V X S (u_top l hst G f_281 st1 x hI_109 hR_281 a b ha hb) 2 gL_stones_X9_top rfl rfl rfl (by decide +kernel) ⟨(by exact Nat.le_of_ble_eq_true rfl), (by exact Nat.le_of_ble_eq_true rfl)⟩ (RX.obj hR_281) rfl rfl rfl hl.1 rfl (by exact Nat.le_of_ble_eq_true rfl) dL_stones_375 ⟨(show _ ≤ 800 by omega), (show _ ≤ 4900 by omega)⟩) S (fun r_375 H locs hr_375 S => ?_)
                  obtain rfl := (show r_375 = nI (st 0 0) from hr_375.trans (by rw [est1]; exact top_fall hs1 hs6))
                  refine lv_iload X.1 X.2.1 dL_stones_378 (lv_at hl 0 rfl) ?_
                  refine n_ne (a := st 0 0) (b := st 0 0) (tgt := 387) X dL_stones_380 (by decide) (fun n_380 => by exfalso; omega) (fun n_380 => ?_)
                  refine lv_iconst (v := 1) X.1 X.2.1 dL_stones_383 (by decide) ?_
                  refine lv_goto (tgt := 388) X.1 X.2.1 dL_stones_384 (by decide) ?_
                  subst hQ9
                  refine e_z X hr S (by omega) (by omega) dL_stones_388 rfl ?_
                  have ho : ∀ (B i : Nat), (B = 0 ∧ i ≠ 0) ∨ B = 1 ∨ 8 ≤ B → st1 B i = st B i := fun B i h => by rw [est1]; exact fall_e _ _ _ _ (by omega)
                  refine ⟨rfl, st1, ⟨_, _, _, _, _, hI_109, hR_281, hcc_k_281, hgg_k_281, hdk_281, hee_k_281, haa_k_281, ⟨by rw [pk_us, hn1], by rw [pk_un (by omega), hC1, ho 0 4 (by omega)], by rw [pk_un (by omega), hC3, ho 0 2 (by omega)], by rw [pk_un (by omega), hC4, ho 0 3 (by omega)]⟩, grdL_cong hgr (fun c _ => ho 1 c (by omega)), ?_, ?_⟩, by rw [hn1]; omega, by rw [ho 0 1 (by omega)]; omega, ?_⟩
                  · rw [ho 0 2 (by omega)]
                    exact fun i hi => by rw [ho 9 i (by omega)]; exact hE i hi
                  · rw [ho 0 3 (by omega)]
                    exact fun i hi => by rw [ho 10 i (by omega), ho 11 i (by omega)]; exact hA i hi
                  · rw [ho 0 3 (by omega)]
                    exact fun i hi => by rw [ho 10 i (by omega), ho 11 i (by omega)]; exact hbA i hi
                · refine lv_iload X.1 X.2.1 dL_stones_346 (lv_at hl 7 rfl) ?_
                  refine z_ne (a := g) (tgt := 355) X dL_stones_348 (by decide) (fun n_348 => ?_) (fun n_348 => by exfalso; omega)
                  refine lv_iload X.1 X.2.1 dL_stones_355 (lv_at hl 7 rfl) ?_
                  refine lv_iconst (v := 1) X.1 X.2.1 dL_stones_357 (by decide) ?_
                  refine n_ne (a := g) (b := 1) (tgt := 365) X dL_stones_358 (by decide) (fun n_358 => ?_) (fun n_358 => by exfalso; omega)
                  refine lv_iconst (v := 5) X.1 X.2.1 dL_stones_365 (by decide) ?_
                  refine n_mul (a := s) (b := 5) X dL_stones_366 ?_
                  refine n_ne (a := depOn g s) (b := s * 5) (tgt := 387) X dL_stones_367 (by decide) (fun n_367 => by exact absurd (hde.2.2 hg0) n_367) (fun n_367 => ?_)
                  refine lv_aload_n X.1 X.2.1 dL_stones_370 rfl (lv_at hl 1 rfl) ?_
                  refine lv_iload X.1 X.2.1 dL_stones_371 (lv_at hl 4 rfl) ?_
                  refine lv_iload X.1 X.2.1 dL_stones_373 (lv_at hl 5 rfl) ?_
                  refine call_iq (run_V X S (u_top l hst G f_281 st1 x hI_109 hR_281 a b ha hb) 2 gL_stones_X9_top rfl rfl rfl (by decide +kernel) ⟨(by exact Nat.le_of_ble_eq_true rfl), (by exact Nat.le_of_ble_eq_true rfl)⟩ (RX.obj hR_281) rfl rfl rfl hl.1 rfl (by exact Nat.le_of_ble_eq_true rfl) dL_stones_375 ⟨(show _ ≤ 800 by omega), (show _ ≤ 4900 by omega)⟩) S (fun r_375 H locs hr_375 S => ?_)
                  obtain rfl := (show r_375 = nI (st 0 0) from hr_375.trans (by rw [est1]; exact top_fall hs1 hs6))
                  refine lv_iload X.1 X.2.1 dL_stones_378 (lv_at hl 0 rfl) ?_
                  refine n_ne (a := st 0 0) (b := st 0 0) (tgt := 387) X dL_stones_380 (by decide) (fun n_380 => by exfalso; omega) (fun n_380 => ?_)
                  refine lv_iconst (v := 1) X.1 X.2.1 dL_stones_383 (by decide) ?_
                  refine lv_goto (tgt := 388) X.1 X.2.1 dL_stones_384 (by decide) ?_
                  subst hQ9
                  refine e_z X hr S (by omega) (by omega) dL_stones_388 rfl ?_
                  have ho : ∀ (B i : Nat), (B = 0 ∧ i ≠ 0) ∨ B = 1 ∨ 8 ≤ B → st1 B i = st B i := fun B i h => by rw [est1]; exact fall_e _ _ _ _ (by omega)
                  refine ⟨rfl, st1, ⟨_, _, _, _, _, hI_109, hR_281, hcc_k_281, hgg_k_281, hdk_281, hee_k_281, haa_k_281, ⟨by rw [pk_us, hn1], by rw [pk_un (by omega), hC1, ho 0 4 (by omega)], by rw [pk_un (by omega), hC3, ho 0 2 (by omega)], by rw [pk_un (by omega), hC4, ho 0 3 (by omega)]⟩, grdL_cong hgr (fun c _ => ho 1 c (by omega)), ?_, ?_⟩, by rw [hn1]; omega, by rw [ho 0 1 (by omega)]; omega, ?_⟩
                  · rw [ho 0 2 (by omega)]
                    exact fun i hi => by rw [ho 9 i (by omega)]; exact hE i hi
                  · rw [ho 0 3 (by omega)]
                    exact fun i hi => by rw [ho 10 i (by omega), ho 11 i (by omega)]; exact hA i hi
                  · rw [ho 0 3 (by omega)]
                    exact fun i hi => by rw [ho 10 i (by omega), ho 11 i (by omega)]; exact hbA i hi
              · have hlt : k < st 0 0 := by omega
                have hc := hI.2.2.1 k hlt
                unfold cIn at hc
                obtain ⟨q1, q2, q3, q4, q5, q6, q7, q8⟩ := hc
                have hs2 := sq_lt q1 ha
                have hs3 := sq_lt q2 hb
                have hs4 : wd * wd ≤ 7 * 7 := Nat.mul_le_mul hw7 hw7
                have hs5 : (st 5 k + wd) * (st 5 k + wd) ≤ 14 * 14 := Nat.mul_le_mul (by omega) (by omega)
                have hbk := cn_le (goneB st a b s) k
                have hlo := los_e (st := st) (k := k) (a := a) (b := b) (z := s) (w := wd) (by rw [ewd, eg])
                refine lv_iload X.1 X.2.1 dL_stones_131 (lv_at hl 10 rfl) ?_
                refine lv_if_eq (x := 1) (tgt := 275) X.1 X.2.1 dL_stones_133 (by decide) (fun c_133 => by first | exact absurd c_133 (by decide) | exact absurd (by decide) c_133) (fun c_133 => ?_)
                refine lv_aload_n X.1 X.2.1 dL_stones_136 rfl (lv_at hl 0 rfl) ?_
                refine lv_iload X.1 X.2.1 dL_stones_137 (lv_at hl 11 rfl) ?_
                refine lv_iload X.1 X.2.1 dL_stones_139 (lv_at hl 3 rfl) ?_
                refine lv_iload X.1 X.2.1 dL_stones_141 (lv_at hl 4 rfl) ?_
                refine call_iq (run_S X S (m_far l hst G f_109 st1 x hI_109 hRc_109 k a b (by omega) ha hb) 4 gL_stones_L_far rfl rfl rfl (by decide +kernel) ⟨(by exact Nat.le_of_ble_eq_true rfl), (by exact Nat.le_of_ble_eq_true rfl)⟩ rfl hl.1 rfl (by exact Nat.le_of_ble_eq_true rfl) dL_stones_143 ⟨(show _ ≤ 800 by omega), (show _ ≤ 4900 by omega)⟩) S (fun r_143 H locs hr_143 S => ?_)
                obtain rfl := (show r_143 = nI (sq (st 2 k) a + sq (st 3 k) b) from hr_143.trans (by rw [hel 2 k (by omega) (by omega) hlt, hel 3 k (by omega) (by omega) hlt]))
                refine lv_istore (lv' := [(15, .int (nI (sq (st 2 k) a + sq (st 3 k) b))), (0, .ref x), (3, .ref cc), (5, .ref dd), (6, .int (nI a)), (7, .int (nI b)), (8, .int (nI s)), (9, .int (nI g)), (10, .int (nI wd)), (11, .int (nI (cn (goneB st a b s) (st 0 0)))), (12, .int (nI (cn (goneB st a b s) k))), (13, .int 1), (14, .int (nI k))]) X.1 X.2.1 dL_stones_146 hl (by decide) rfl (fun ls hl => ?_)
                refine lv_aload_n X.1 X.2.1 dL_stones_148 rfl (lv_at hl 1 rfl) ?_
                refine lv_iload X.1 X.2.1 dL_stones_149 (lv_at hl 12 rfl) ?_
                refine lv_iconst (v := 2) X.1 X.2.1 dL_stones_151 (by decide) ?_
                refine call_iq (run_V X S (u_about l hst G f_109 st1 x hI_109 hRc_109 k 2 (by omega) (by decide)) 2 gL_stones_X9_about rfl rfl rfl (by decide +kernel) ⟨(by exact Nat.le_of_ble_eq_true rfl), (by exact Nat.le_of_ble_eq_true rfl)⟩ (RX.obj hRc_109) rfl rfl rfl hl.1 rfl (by exact Nat.le_of_ble_eq_true rfl) dL_stones_152 ⟨(show _ ≤ 800 by omega), (show _ ≤ 4900 by omega)⟩) S (fun r_152 H locs hr_152 S => ?_)
                obtain rfl := (show r_152 = nI (st 5 k) from hr_152.trans (congrArg nI (hel 5 k (by omega) (by omega) hlt)))
                refine lv_iload X.1 X.2.1 dL_stones_155 (lv_at hl 8 rfl) ?_
                refine n_add (a := st 5 k) (b := wd) X dL_stones_157 ?_
                refine lv_istore (lv' := [(16, .int (nI ((st 5 k) + wd))), (15, .int (nI (sq (st 2 k) a + sq (st 3 k) b))), (0, .ref x), (3, .ref cc), (5, .ref dd), (6, .int (nI a)), (7, .int (nI b)), (8, .int (nI s)), (9, .int (nI g)), (10, .int (nI wd)), (11, .int (nI (cn (goneB st a b s) (st 0 0)))), (12, .int (nI (cn (goneB st a b s) k))), (13, .int 1), (14, .int (nI k))]) X.1 X.2.1 dL_stones_158 hl (by decide) rfl (fun ls hl => ?_)
                have J225 : ∀ (H : Heap) (locs : List Loc) (ls : Array Slot), cxS G s0 f_109 H locs → lv_has ls 18 [(16, .int (nI ((st 5 k) + wd))), (15, .int (nI (sq (st 2 k) a + sq (st 3 k) b))), (0, .ref x), (3, .ref cc), (5, .ref dd), (6, .int (nI a)), (7, .int (nI b)), (8, .int (nI s)), (9, .int (nI g)), (10, .int (nI wd)), (11, .int (nI (cn (goneB st a b s) (st 0 0)))), (12, .int (nI (cn (goneB st a b s) k))), (13, .int 1), (14, .int (nI k))] → W p0 l e0 ({ frames := 9, cells := 800, slots := 4900, locals := 241 } : Room) s0 m0 ([.ref x, .int (nI z), .int (nI y), .ref cc, .ref gg, .ref dd] : List Value).toArray b0 meth0 c0 H locs (ck + 8) (sk + 48) Q9 (F0 m0 225 ls [.int (nI (st 7 k - lossB st k a b s))]) := by
                  intro H locs ls S hl
                  refine lv_istore (lv' := [(17, .int (nI (st 7 k - lossB st k a b s))), (16, .int (nI ((st 5 k) + wd))), (15, .int (nI (sq (st 2 k) a + sq (st 3 k) b))), (0, .ref x), (3, .ref cc), (5, .ref dd), (6, .int (nI a)), (7, .int (nI b)), (8, .int (nI s)), (9, .int (nI g)), (10, .int (nI wd)), (11, .int (nI (cn (goneB st a b s) (st 0 0)))), (12, .int (nI (cn (goneB st a b s) k))), (13, .int 1), (14, .int (nI k))]) X.1 X.2.1 dL_stones_225 hl (by decide) rfl (fun ls hl => ?_)
                  by_cases hgo : 0 < st 7 k ∧ st 7 k - lossB st k a b s = 0
                  · refine lv_iload X.1 X.2.1 dL_stones_227 (lv_at hl 12 rfl) ?_
                    refine lv_aload X.1 X.2.1 dL_stones_229 (lv_at hl 5 rfl) ?_
                    refine lv_iload X.1 X.2.1 dL_stones_231 (lv_at hl 14 rfl) ?_
                    refine n_iald (i := k) (v := (nI (st 7 k))) X S hdk_109 (hDk k hlt) dL_stones_233 ?_
                    refine z_le (a := st 7 k) (tgt := 246) X dL_stones_234 (by decide) (fun n_234 => by exfalso; omega) (fun n_234 => ?_)
                    refine lv_iload X.1 X.2.1 dL_stones_237 (lv_at hl 0 rfl) ?_
                    refine z_ne (a := st 7 k - lossB st k a b s) (tgt := 246) X dL_stones_239 (by decide) (fun n_239 => by exfalso; omega) (fun n_239 => ?_)
                    refine lv_iconst (v := 1) X.1 X.2.1 dL_stones_242 (by decide) ?_
                    refine lv_goto (tgt := 247) X.1 X.2.1 dL_stones_243 (by decide) ?_
                    refine n_add (a := cn (goneB st a b s) k) (b := 1) X dL_stones_247 ?_
                    refine lv_istore (lv' := [(12, .int (nI ((cn (goneB st a b s) k) + 1))), (17, .int (nI (st 7 k - lossB st k a b s))), (16, .int (nI ((st 5 k) + wd))), (15, .int (nI (sq (st 2 k) a + sq (st 3 k) b))), (0, .ref x), (3, .ref cc), (5, .ref dd), (6, .int (nI a)), (7, .int (nI b)), (8, .int (nI s)), (9, .int (nI g)), (10, .int (nI wd)), (11, .int (nI (cn (goneB st a b s) (st 0 0)))), (13, .int 1), (14, .int (nI k))]) X.1 X.2.1 dL_stones_248 hl (by decide) rfl (fun ls hl => ?_)
                    refine lv_aload_n X.1 X.2.1 dL_stones_250 rfl (lv_at hl 4 rfl) ?_
                    refine lv_iload X.1 X.2.1 dL_stones_251 (lv_at hl 14 rfl) ?_
                    refine lv_iconst (v := 3) X.1 X.2.1 dL_stones_253 (by decide) ?_
                    refine call_iq (run_V X S (u_about l hst G f_109 st1 x hI_109 hRc_109 k 3 (by omega) (by decide)) 2 gL_stones_X9_about rfl rfl rfl (by decide +kernel) ⟨(by exact Nat.le_of_ble_eq_true rfl), (by exact Nat.le_of_ble_eq_true rfl)⟩ (RX.obj hRc_109) rfl rfl rfl hl.1 rfl (by exact Nat.le_of_ble_eq_true rfl) dL_stones_254 ⟨(show _ ≤ 800 by omega), (show _ ≤ 4900 by omega)⟩) S (fun r_254 H locs hr_254 S => ?_)
                    obtain rfl := (show r_254 = nI (st 7 k - lossB st k a b s) from hr_254.trans (congrArg nI (he7 k hlt)))
                    refine lv_iload X.1 X.2.1 dL_stones_257 (lv_at hl 1 rfl) ?_
                    refine n_ne (a := st 7 k - lossB st k a b s) (b := st 7 k - lossB st k a b s) (tgt := 266) X dL_stones_259 (by decide) (fun n_259 => by exfalso; omega) (fun n_259 => ?_)
                    refine lv_iconst (v := 1) X.1 X.2.1 dL_stones_262 (by decide) ?_
                    refine lv_goto (tgt := 267) X.1 X.2.1 dL_stones_263 (by decide) ?_
                    refine lv_istore (lv' := [(13, .int 1), (12, .int (nI ((cn (goneB st a b s) k) + 1))), (17, .int (nI (st 7 k - lossB st k a b s))), (16, .int (nI ((st 5 k) + wd))), (15, .int (nI (sq (st 2 k) a + sq (st 3 k) b))), (0, .ref x), (3, .ref cc), (5, .ref dd), (6, .int (nI a)), (7, .int (nI b)), (8, .int (nI s)), (9, .int (nI g)), (10, .int (nI wd)), (11, .int (nI (cn (goneB st a b s) (st 0 0)))), (14, .int (nI k))]) X.1 X.2.1 dL_stones_267 hl (by decide) rfl (fun ls hl => ?_)
                    refine lv_iinc (v := (nI (k + 1))) (lv' := [(14, .int (nI (k + 1))), (13, .int 1), (12, .int (nI ((cn (goneB st a b s) k) + 1))), (17, .int (nI (st 7 k - lossB st k a b s))), (16, .int (nI ((st 5 k) + wd))), (15, .int (nI (sq (st 2 k) a + sq (st 3 k) b))), (0, .ref x), (3, .ref cc), (5, .ref dd), (6, .int (nI a)), (7, .int (nI b)), (8, .int (nI s)), (9, .int (nI g)), (10, .int (nI wd)), (11, .int (nI (cn (goneB st a b s) (st 0 0))))]) X.1 X.2.1 dL_stones_269 hl (k := 14) rfl (nI_1 _) (by decide) rfl (fun ls hl => ?_)
                    refine lv_goto (tgt := 123) X.1 X.2.1 dL_stones_272 (by decide) ?_
                    have e1 : (cn (goneB st a b s) (k + 1)) = (cn (goneB st a b s) k) + 1 := gone_t hgo
                    exact ih (k + 1) _ _ H locs ls (by omega) (by omega) (by omega) (by omega) S (by rw [e1]; exact lv_sub hl [6, 7, 8, 9, 10, 11, 12, 13, 14, 2, 1, 0] rfl)
                  · refine lv_iload X.1 X.2.1 dL_stones_227 (lv_at hl 12 rfl) ?_
                    have J247 : ∀ (H : Heap) (locs : List Loc) (ls : Array Slot), cxS G s0 f_109 H locs → lv_has ls 18 [(17, .int (nI (st 7 k - lossB st k a b s))), (16, .int (nI ((st 5 k) + wd))), (15, .int (nI (sq (st 2 k) a + sq (st 3 k) b))), (0, .ref x), (3, .ref cc), (5, .ref dd), (6, .int (nI a)), (7, .int (nI b)), (8, .int (nI s)), (9, .int (nI g)), (10, .int (nI wd)), (11, .int (nI (cn (goneB st a b s) (st 0 0)))), (12, .int (nI (cn (goneB st a b s) k))), (13, .int 1), (14, .int (nI k))] → W p0 l e0 ({ frames := 9, cells := 800, slots := 4900, locals := 241 } : Room) s0 m0 ([.ref x, .int (nI z), .int (nI y), .ref cc, .ref gg, .ref dd] : List Value).toArray b0 meth0 c0 H locs (ck + 8) (sk + 48) Q9 (F0 m0 247 ls [.int 0, .int (nI (cn (goneB st a b s) k))]) := by
                      intro H locs ls S hl
                      refine n_add (a := cn (goneB st a b s) k) (b := 0) X dL_stones_247 ?_
                      refine lv_istore (lv' := [(12, .int (nI ((cn (goneB st a b s) k) + 0))), (17, .int (nI (st 7 k - lossB st k a b s))), (16, .int (nI ((st 5 k) + wd))), (15, .int (nI (sq (st 2 k) a + sq (st 3 k) b))), (0, .ref x), (3, .ref cc), (5, .ref dd), (6, .int (nI a)), (7, .int (nI b)), (8, .int (nI s)), (9, .int (nI g)), (10, .int (nI wd)), (11, .int (nI (cn (goneB st a b s) (st 0 0)))), (13, .int 1), (14, .int (nI k))]) X.1 X.2.1 dL_stones_248 hl (by decide) rfl (fun ls hl => ?_)
                      refine lv_aload_n X.1 X.2.1 dL_stones_250 rfl (lv_at hl 4 rfl) ?_
                      refine lv_iload X.1 X.2.1 dL_stones_251 (lv_at hl 14 rfl) ?_
                      refine lv_iconst (v := 3) X.1 X.2.1 dL_stones_253 (by decide) ?_
                      refine call_iq (run_V X S (u_about l hst G f_109 st1 x hI_109 hRc_109 k 3 (by omega) (by decide)) 2 gL_stones_X9_about rfl rfl rfl (by decide +kernel) ⟨(by exact Nat.le_of_ble_eq_true rfl), (by exact Nat.le_of_ble_eq_true rfl)⟩ (RX.obj hRc_109) rfl rfl rfl hl.1 rfl (by exact Nat.le_of_ble_eq_true rfl) dL_stones_254 ⟨(show _ ≤ 800 by omega), (show _ ≤ 4900 by omega)⟩) S (fun r_254 H locs hr_254 S => ?_)
                      obtain rfl := (show r_254 = nI (st 7 k - lossB st k a b s) from hr_254.trans (congrArg nI (he7 k hlt)))
                      refine lv_iload X.1 X.2.1 dL_stones_257 (lv_at hl 1 rfl) ?_
                      refine n_ne (a := st 7 k - lossB st k a b s) (b := st 7 k - lossB st k a b s) (tgt := 266) X dL_stones_259 (by decide) (fun n_259 => by exfalso; omega) (fun n_259 => ?_)
                      refine lv_iconst (v := 1) X.1 X.2.1 dL_stones_262 (by decide) ?_
                      refine lv_goto (tgt := 267) X.1 X.2.1 dL_stones_263 (by decide) ?_
                      refine lv_istore (lv' := [(13, .int 1), (12, .int (nI ((cn (goneB st a b s) k) + 0))), (17, .int (nI (st 7 k - lossB st k a b s))), (16, .int (nI ((st 5 k) + wd))), (15, .int (nI (sq (st 2 k) a + sq (st 3 k) b))), (0, .ref x), (3, .ref cc), (5, .ref dd), (6, .int (nI a)), (7, .int (nI b)), (8, .int (nI s)), (9, .int (nI g)), (10, .int (nI wd)), (11, .int (nI (cn (goneB st a b s) (st 0 0)))), (14, .int (nI k))]) X.1 X.2.1 dL_stones_267 hl (by decide) rfl (fun ls hl => ?_)
                      refine lv_iinc (v := (nI (k + 1))) (lv' := [(14, .int (nI (k + 1))), (13, .int 1), (12, .int (nI ((cn (goneB st a b s) k) + 0))), (17, .int (nI (st 7 k - lossB st k a b s))), (16, .int (nI ((st 5 k) + wd))), (15, .int (nI (sq (st 2 k) a + sq (st 3 k) b))), (0, .ref x), (3, .ref cc), (5, .ref dd), (6, .int (nI a)), (7, .int (nI b)), (8, .int (nI s)), (9, .int (nI g)), (10, .int (nI wd)), (11, .int (nI (cn (goneB st a b s) (st 0 0))))]) X.1 X.2.1 dL_stones_269 hl (k := 14) rfl (nI_1 _) (by decide) rfl (fun ls hl => ?_)
                      refine lv_goto (tgt := 123) X.1 X.2.1 dL_stones_272 (by decide) ?_
                      have e1 : (cn (goneB st a b s) (k + 1)) = (cn (goneB st a b s) k) + 0 := gone_f hgo
                      exact ih (k + 1) _ _ H locs ls (by omega) (by omega) (by omega) (by omega) S (by rw [e1]; exact lv_sub hl [6, 7, 8, 9, 10, 11, 12, 13, 14, 2, 1, 0] rfl)
                    refine lv_aload X.1 X.2.1 dL_stones_229 (lv_at hl 5 rfl) ?_
                    refine lv_iload X.1 X.2.1 dL_stones_231 (lv_at hl 14 rfl) ?_
                    refine n_iald (i := k) (v := (nI (st 7 k))) X S hdk_109 (hDk k hlt) dL_stones_233 ?_
                    refine z_le (a := st 7 k) (tgt := 246) X dL_stones_234 (by decide) (fun n_234 => ?_) (fun n_234 => ?_)
                    · refine lv_iconst (v := 0) X.1 X.2.1 dL_stones_246 (by decide) ?_
                      exact W.widen (by omega) (by omega) (J247 _ _ ls S (lv_sub hl [0, 1, 2, 3, 4, 5, 6, 7, 8, 9, 10, 11, 12, 13, 14] rfl))
                    · refine lv_iload X.1 X.2.1 dL_stones_237 (lv_at hl 0 rfl) ?_
                      refine z_ne (a := st 7 k - lossB st k a b s) (tgt := 246) X dL_stones_239 (by decide) (fun n_239 => ?_) (fun n_239 => ?_)
                      · refine lv_iconst (v := 0) X.1 X.2.1 dL_stones_246 (by decide) ?_
                        exact W.widen (by omega) (by omega) (J247 _ _ ls S (lv_sub hl [0, 1, 2, 3, 4, 5, 6, 7, 8, 9, 10, 11, 12, 13, 14] rfl))
                      · exfalso
                        omega
                refine lv_aload_n X.1 X.2.1 dL_stones_160 rfl (lv_at hl 2 rfl) ?_
                refine lv_iload X.1 X.2.1 dL_stones_161 (lv_at hl 13 rfl) ?_
                refine lv_iconst (v := 2) X.1 X.2.1 dL_stones_163 (by decide) ?_
                refine call_iq (run_V X S (u_about l hst G f_109 st1 x hI_109 hRc_109 k 2 (by omega) (by decide)) 2 gL_stones_X9_about rfl rfl rfl (by decide +kernel) ⟨(by exact Nat.le_of_ble_eq_true rfl), (by exact Nat.le_of_ble_eq_true rfl)⟩ (RX.obj hRc_109) rfl rfl rfl hl.1 rfl (by exact Nat.le_of_ble_eq_true rfl) dL_stones_164 ⟨(show _ ≤ 800 by omega), (show _ ≤ 4900 by omega)⟩) S (fun r_164 H locs hr_164 S => ?_)
                obtain rfl := (show r_164 = nI (st 5 k) from hr_164.trans (congrArg nI (hel 5 k (by omega) (by omega) hlt)))
                refine lv_iload X.1 X.2.1 dL_stones_167 (lv_at hl 9 rfl) ?_
                refine n_gt (a := st 5 k) (b := wd) (tgt := 186) X dL_stones_169 (by decide) (fun n_169 => ?_) (fun n_169 => ?_)
                · have hnc : ¬ (st 5 k ≤ wd ∧ sq (st 2 k) a + sq (st 3 k) b ≤ wd * wd) := fun q => by omega
                  refine lv_iload X.1 X.2.1 dL_stones_186 (lv_at hl 1 rfl) ?_
                  refine lv_iload X.1 X.2.1 dL_stones_188 (lv_at hl 0 rfl) ?_
                  refine lv_iload X.1 X.2.1 dL_stones_190 (lv_at hl 0 rfl) ?_
                  refine n_mul (a := (st 5 k) + wd) (b := (st 5 k) + wd) X dL_stones_192 ?_
                  refine n_gt (a := sq (st 2 k) a + sq (st 3 k) b) (b := ((st 5 k) + wd) * ((st 5 k) + wd)) (tgt := 207) X dL_stones_193 (by decide) (fun n_193 => ?_) (fun n_193 => ?_)
                  · have hll := hlo.2.2 hnc (by omega)
                    refine lv_aload X.1 X.2.1 dL_stones_207 (lv_at hl 4 rfl) ?_
                    refine lv_iload X.1 X.2.1 dL_stones_209 (lv_at hl 13 rfl) ?_
                    refine n_iald (i := k) (v := (nI (st 7 k))) X S hdk_109 (hDk k hlt) dL_stones_211 ?_
                    refine lv_istore (lv' := [(17, .int (nI (st 7 k))), (16, .int (nI ((st 5 k) + wd))), (15, .int (nI (sq (st 2 k) a + sq (st 3 k) b))), (0, .ref x), (3, .ref cc), (5, .ref dd), (6, .int (nI a)), (7, .int (nI b)), (8, .int (nI s)), (9, .int (nI g)), (10, .int (nI wd)), (11, .int (nI (cn (goneB st a b s) (st 0 0)))), (12, .int (nI (cn (goneB st a b s) k))), (13, .int 1), (14, .int (nI k))]) X.1 X.2.1 dL_stones_212 hl (by decide) rfl (fun ls hl => ?_)
                    refine lv_iload X.1 X.2.1 dL_stones_214 (lv_at hl 0 rfl) ?_
                    refine z_ge (a := st 7 k) (tgt := 223) X dL_stones_216 (by decide) ?_
                    refine lv_iload X.1 X.2.1 dL_stones_223 (lv_at hl 0 rfl) ?_
                    refine r_toi (show (nI (st 7 k) : Int32) = nI (st 7 k - lossB st k a b s) from congrArg nI (show st 7 k = st 7 k - lossB st k a b s by rw [hll]; omega)) ?_
                    exact W.widen (by omega) (by omega) (J225 _ _ ls S (lv_sub hl [1, 2, 3, 4, 5, 6, 7, 8, 9, 10, 11, 12, 13, 14] rfl))
                  · refine lv_aload X.1 X.2.1 dL_stones_196 (lv_at hl 4 rfl) ?_
                    refine lv_iload X.1 X.2.1 dL_stones_198 (lv_at hl 13 rfl) ?_
                    refine n_iald (i := k) (v := (nI (st 7 k))) X S hdk_109 (hDk k hlt) dL_stones_200 ?_
                    refine lv_iload X.1 X.2.1 dL_stones_201 (lv_at hl 7 rfl) ?_
                    have hll := hlo.2.1 hnc (by omega)
                    by_cases hds : s ≤ st 7 k
                    · refine n_sub (a := st 7 k) (b := s) X dL_stones_203 ?_
                      refine lv_goto (tgt := 212) X.1 X.2.1 dL_stones_204 (by decide) ?_
                      refine lv_istore (lv' := [(17, .int (nI (st 7 k - s))), (16, .int (nI ((st 5 k) + wd))), (15, .int (nI (sq (st 2 k) a + sq (st 3 k) b))), (0, .ref x), (3, .ref cc), (5, .ref dd), (6, .int (nI a)), (7, .int (nI b)), (8, .int (nI s)), (9, .int (nI g)), (10, .int (nI wd)), (11, .int (nI (cn (goneB st a b s) (st 0 0)))), (12, .int (nI (cn (goneB st a b s) k))), (13, .int 1), (14, .int (nI k))]) X.1 X.2.1 dL_stones_212 hl (by decide) rfl (fun ls hl => ?_)
                      refine lv_iload X.1 X.2.1 dL_stones_214 (lv_at hl 0 rfl) ?_
                      refine z_ge (a := st 7 k - s) (tgt := 223) X dL_stones_216 (by decide) ?_
                      refine lv_iload X.1 X.2.1 dL_stones_223 (lv_at hl 0 rfl) ?_
                      refine r_toi (show (nI (st 7 k - s) : Int32) = nI (st 7 k - lossB st k a b s) from congrArg nI (show (st 7 k) - s = st 7 k - lossB st k a b s by rw [hll])) ?_
                      exact W.widen (by omega) (by omega) (J225 _ _ ls S (lv_sub hl [1, 2, 3, 4, 5, 6, 7, 8, 9, 10, 11, 12, 13, 14] rfl))
                    · refine lv_isub X.1 X.2.1 dL_stones_203 ?_
                      refine lv_goto (tgt := 212) X.1 X.2.1 dL_stones_204 (by decide) ?_
                      refine lv_istore (lv' := [(17, .int (nI (st 7 k) - nI s)), (16, .int (nI ((st 5 k) + wd))), (15, .int (nI (sq (st 2 k) a + sq (st 3 k) b))), (0, .ref x), (3, .ref cc), (5, .ref dd), (6, .int (nI a)), (7, .int (nI b)), (8, .int (nI s)), (9, .int (nI g)), (10, .int (nI wd)), (11, .int (nI (cn (goneB st a b s) (st 0 0)))), (12, .int (nI (cn (goneB st a b s) k))), (13, .int 1), (14, .int (nI k))]) X.1 X.2.1 dL_stones_212 hl (by decide) rfl (fun ls hl => ?_)
                      refine lv_iload X.1 X.2.1 dL_stones_214 (lv_at hl 0 rfl) ?_
                      refine lv_if_ge (tgt := 223) X.1 X.2.1 dL_stones_216 (by decide) (fun z9 => absurd z9 (Int32.not_le.mpr (pk_sneg (a := st 7 k) (b := s) (by omega) (by omega)))) (fun _ => ?_)
                      refine lv_iconst (v := 0) X.1 X.2.1 dL_stones_219 (by decide) ?_
                      refine lv_goto (tgt := 225) X.1 X.2.1 dL_stones_220 (by decide) ?_
                      refine r_toi (show (0 : Int32) = nI (st 7 k - lossB st k a b s) from congrArg nI (show 0 = st 7 k - lossB st k a b s by rw [hll]; omega)) ?_
                      exact W.widen (by omega) (by omega) (J225 _ _ ls S (lv_sub hl [1, 2, 3, 4, 5, 6, 7, 8, 9, 10, 11, 12, 13, 14] rfl))
                · refine lv_iload X.1 X.2.1 dL_stones_172 (lv_at hl 1 rfl) ?_
                  refine lv_iload X.1 X.2.1 dL_stones_174 (lv_at hl 9 rfl) ?_
                  refine lv_iload X.1 X.2.1 dL_stones_176 (lv_at hl 9 rfl) ?_
                  refine n_mul (a := wd) (b := wd) X dL_stones_178 ?_
                  refine n_gt (a := sq (st 2 k) a + sq (st 3 k) b) (b := wd * wd) (tgt := 186) X dL_stones_179 (by decide) (fun n_179 => ?_) (fun n_179 => ?_)
                  · have hnc : ¬ (st 5 k ≤ wd ∧ sq (st 2 k) a + sq (st 3 k) b ≤ wd * wd) := fun q => by omega
                    refine lv_iload X.1 X.2.1 dL_stones_186 (lv_at hl 1 rfl) ?_
                    refine lv_iload X.1 X.2.1 dL_stones_188 (lv_at hl 0 rfl) ?_
                    refine lv_iload X.1 X.2.1 dL_stones_190 (lv_at hl 0 rfl) ?_
                    refine n_mul (a := (st 5 k) + wd) (b := (st 5 k) + wd) X dL_stones_192 ?_
                    refine n_gt (a := sq (st 2 k) a + sq (st 3 k) b) (b := ((st 5 k) + wd) * ((st 5 k) + wd)) (tgt := 207) X dL_stones_193 (by decide) (fun n_193 => ?_) (fun n_193 => ?_)
                    · have hll := hlo.2.2 hnc (by omega)
                      refine lv_aload X.1 X.2.1 dL_stones_207 (lv_at hl 4 rfl) ?_
                      refine lv_iload X.1 X.2.1 dL_stones_209 (lv_at hl 13 rfl) ?_
                      refine n_iald (i := k) (v := (nI (st 7 k))) X S hdk_109 (hDk k hlt) dL_stones_211 ?_
                      refine lv_istore (lv' := [(17, .int (nI (st 7 k))), (16, .int (nI ((st 5 k) + wd))), (15, .int (nI (sq (st 2 k) a + sq (st 3 k) b))), (0, .ref x), (3, .ref cc), (5, .ref dd), (6, .int (nI a)), (7, .int (nI b)), (8, .int (nI s)), (9, .int (nI g)), (10, .int (nI wd)), (11, .int (nI (cn (goneB st a b s) (st 0 0)))), (12, .int (nI (cn (goneB st a b s) k))), (13, .int 1), (14, .int (nI k))]) X.1 X.2.1 dL_stones_212 hl (by decide) rfl (fun ls hl => ?_)
                      refine lv_iload X.1 X.2.1 dL_stones_214 (lv_at hl 0 rfl) ?_
                      refine z_ge (a := st 7 k) (tgt := 223) X dL_stones_216 (by decide) ?_
                      refine lv_iload X.1 X.2.1 dL_stones_223 (lv_at hl 0 rfl) ?_
                      refine r_toi (show (nI (st 7 k) : Int32) = nI (st 7 k - lossB st k a b s) from congrArg nI (show st 7 k = st 7 k - lossB st k a b s by rw [hll]; omega)) ?_
                      exact W.widen (by omega) (by omega) (J225 _ _ ls S (lv_sub hl [1, 2, 3, 4, 5, 6, 7, 8, 9, 10, 11, 12, 13, 14] rfl))
                    · refine lv_aload X.1 X.2.1 dL_stones_196 (lv_at hl 4 rfl) ?_
                      refine lv_iload X.1 X.2.1 dL_stones_198 (lv_at hl 13 rfl) ?_
                      refine n_iald (i := k) (v := (nI (st 7 k))) X S hdk_109 (hDk k hlt) dL_stones_200 ?_
                      refine lv_iload X.1 X.2.1 dL_stones_201 (lv_at hl 7 rfl) ?_
                      have hll := hlo.2.1 hnc (by omega)
                      by_cases hds : s ≤ st 7 k
                      · refine n_sub (a := st 7 k) (b := s) X dL_stones_203 ?_
                        refine lv_goto (tgt := 212) X.1 X.2.1 dL_stones_204 (by decide) ?_
                        refine lv_istore (lv' := [(17, .int (nI (st 7 k - s))), (16, .int (nI ((st 5 k) + wd))), (15, .int (nI (sq (st 2 k) a + sq (st 3 k) b))), (0, .ref x), (3, .ref cc), (5, .ref dd), (6, .int (nI a)), (7, .int (nI b)), (8, .int (nI s)), (9, .int (nI g)), (10, .int (nI wd)), (11, .int (nI (cn (goneB st a b s) (st 0 0)))), (12, .int (nI (cn (goneB st a b s) k))), (13, .int 1), (14, .int (nI k))]) X.1 X.2.1 dL_stones_212 hl (by decide) rfl (fun ls hl => ?_)
                        refine lv_iload X.1 X.2.1 dL_stones_214 (lv_at hl 0 rfl) ?_
                        refine z_ge (a := st 7 k - s) (tgt := 223) X dL_stones_216 (by decide) ?_
                        refine lv_iload X.1 X.2.1 dL_stones_223 (lv_at hl 0 rfl) ?_
                        refine r_toi (show (nI (st 7 k - s) : Int32) = nI (st 7 k - lossB st k a b s) from congrArg nI (show (st 7 k) - s = st 7 k - lossB st k a b s by rw [hll])) ?_
                        exact W.widen (by omega) (by omega) (J225 _ _ ls S (lv_sub hl [1, 2, 3, 4, 5, 6, 7, 8, 9, 10, 11, 12, 13, 14] rfl))
                      · refine lv_isub X.1 X.2.1 dL_stones_203 ?_
                        refine lv_goto (tgt := 212) X.1 X.2.1 dL_stones_204 (by decide) ?_
                        refine lv_istore (lv' := [(17, .int (nI (st 7 k) - nI s)), (16, .int (nI ((st 5 k) + wd))), (15, .int (nI (sq (st 2 k) a + sq (st 3 k) b))), (0, .ref x), (3, .ref cc), (5, .ref dd), (6, .int (nI a)), (7, .int (nI b)), (8, .int (nI s)), (9, .int (nI g)), (10, .int (nI wd)), (11, .int (nI (cn (goneB st a b s) (st 0 0)))), (12, .int (nI (cn (goneB st a b s) k))), (13, .int 1), (14, .int (nI k))]) X.1 X.2.1 dL_stones_212 hl (by decide) rfl (fun ls hl => ?_)
                        refine lv_iload X.1 X.2.1 dL_stones_214 (lv_at hl 0 rfl) ?_
                        refine lv_if_ge (tgt := 223) X.1 X.2.1 dL_stones_216 (by decide) (fun z9 => absurd z9 (Int32.not_le.mpr (pk_sneg (a := st 7 k) (b := s) (by omega) (by omega)))) (fun _ => ?_)
                        refine lv_iconst (v := 0) X.1 X.2.1 dL_stones_219 (by decide) ?_
                        refine lv_goto (tgt := 225) X.1 X.2.1 dL_stones_220 (by decide) ?_
                        refine r_toi (show (0 : Int32) = nI (st 7 k - lossB st k a b s) from congrArg nI (show 0 = st 7 k - lossB st k a b s by rw [hll]; omega)) ?_
                        exact W.widen (by omega) (by omega) (J225 _ _ ls S (lv_sub hl [1, 2, 3, 4, 5, 6, 7, 8, 9, 10, 11, 12, 13, 14] rfl))
                  · have hll := hlo.1 (by omega) (by omega)
                    refine lv_iconst (v := 0) X.1 X.2.1 dL_stones_182 (by decide) ?_
                    refine lv_goto (tgt := 212) X.1 X.2.1 dL_stones_183 (by decide) ?_
                    refine lv_istore (lv' := [(17, .int 0), (16, .int (nI ((st 5 k) + wd))), (15, .int (nI (sq (st 2 k) a + sq (st 3 k) b))), (0, .ref x), (3, .ref cc), (5, .ref dd), (6, .int (nI a)), (7, .int (nI b)), (8, .int (nI s)), (9, .int (nI g)), (10, .int (nI wd)), (11, .int (nI (cn (goneB st a b s) (st 0 0)))), (12, .int (nI (cn (goneB st a b s) k))), (13, .int 1), (14, .int (nI k))]) X.1 X.2.1 dL_stones_212 hl (by decide) rfl (fun ls hl => ?_)
                    refine lv_iload X.1 X.2.1 dL_stones_214 (lv_at hl 0 rfl) ?_
                    refine lv_if_ge (x := 0) (tgt := 223) X.1 X.2.1 dL_stones_216 (by decide) (fun c_216 => ?_) (fun c_216 => by first | exact absurd c_216 (by decide) | exact absurd (by decide) c_216)
                    refine lv_iload X.1 X.2.1 dL_stones_223 (lv_at hl 0 rfl) ?_
                    refine r_toi (show (0 : Int32) = nI (st 7 k - lossB st k a b s) from congrArg nI (show 0 = st 7 k - lossB st k a b s by rw [hll]; omega)) ?_
                    exact W.widen (by omega) (by omega) (J225 _ _ ls S (lv_sub hl [1, 2, 3, 4, 5, 6, 7, 8, 9, 10, 11, 12, 13, 14] rfl))
          exact loop2 (st 0 0 + 1) 0 _ _ _ _ ls (by omega) (by omega) (by omega) (by omega) S (lv_sub hl [9, 12, 14, 8, 7, 6, 5, 4, 3, 2, 1, 0] rfl)
        · have hlt : k < st 0 0 := by omega
          have hc := hI.2.2.1 k hlt
          unfold cIn at hc
          obtain ⟨q1, q2, q3, q4, q5, q6, q7, q8⟩ := hc
          refine lv_aload X.1 X.2.1 dL_stones_84 (lv_at hl 10 rfl) ?_
          refine lv_iload X.1 X.2.1 dL_stones_86 (lv_at hl 11 rfl) ?_
          refine lv_aload_n X.1 X.2.1 dL_stones_88 rfl (lv_at hl 5 rfl) ?_
          refine lv_iload X.1 X.2.1 dL_stones_89 (lv_at hl 11 rfl) ?_
          refine lv_iconst (v := 3) X.1 X.2.1 dL_stones_91 (by decide) ?_
          refine call_iq (run_V X S (u_about l hst G fk st x hI hRk k 3 hlt (by decide)) 2 gL_stones_X9_about rfl rfl rfl (by decide +kernel) ⟨(by exact Nat.le_of_ble_eq_true rfl), (by exact Nat.le_of_ble_eq_true rfl)⟩ (RX.obj hRk) rfl rfl rfl hl.1 rfl (by exact Nat.le_of_ble_eq_true rfl) dL_stones_92 ⟨(show _ ≤ 800 by omega), (show _ ≤ 4900 by omega)⟩) S (fun r_92 H locs hr_92 S => ?_)
          obtain rfl := (show r_92 = nI (st 7 k) from hr_92)
          refine n_iast (i := k) (v := (nI (st 7 k))) X S hdk (by decide) dL_stones_95 (fun f_95 H locs ef_95 S => ?_)
          have hcc_k_95 : f_95 cc = some (2001, eI G 5 C) := by rw [ef_95]; exact wu_get hdk hcc_k (by decide)
          have hgg_k_95 : f_95 gg = some (2002, eI G 16 w) := by rw [ef_95]; exact wu_get hdk hgg_k (by decide)
          have hee_k_95 : f_95 ee = some (2004, eI G 6 E) := by rw [ef_95]; exact wu_get hdk hee_k (by decide)
          have haa_k_95 : f_95 aa = some (2005, eJ G 16 A) := by rw [ef_95]; exact wu_get hdk haa_k (by decide)
          have hdk_95 : f_95 dd = some (2003, eI G 64 (upd Dk k (nI (st 7 k)))) := by rw [ef_95]; exact wu_self _ _ _ _
          refine lv_iinc (v := (nI (k + 1))) (lv' := [(11, .int (nI (k + 1))), (10, .int (nI wd)), (9, .int (nI g)), (8, .int (nI s)), (7, .int (nI b)), (6, .int (nI a)), (0, .ref x), (1, .int (nI z)), (2, .int (nI y)), (3, .ref cc), (4, .ref gg), (5, .ref dd)]) X.1 X.2.1 dL_stones_96 hl (k := 11) rfl (nI_1 _) (by decide) rfl (fun ls hl => ?_)
          refine lv_goto (tgt := 76) X.1 X.2.1 dL_stones_99 (by decide) ?_
          exact ih (k + 1) f_95 (upd Dk k (nI (st 7 k))) _ _ H locs ls (by omega) (by omega) hdk_95 (md_tr hmd (by rw [ef_95]; exact md_put hdk) (fun t q => q) (fun t q => q)) (fun i hi => by rcases Nat.lt_or_ge i k with q | q; rw [pk_un (by omega)]; exact hDk i q; rw [show i = k by omega, pk_us]) (by omega) (by omega) S (lv_sub hl [1, 2, 3, 4, 5, 6, 7, 8, 9, 10, 11, 0] rfl)
    exact loopD (st 0 0 + 1) 0 f D _ _ _ _ ls (by omega) (by omega) hdd (md_rf _ _) (fun i hi => absurd hi (Nat.not_lt_zero i)) (by first | omega | exact Nat.le_of_ble_eq_true rfl) (by first | omega | exact Nat.le_of_ble_eq_true rfl) S (lv_sub hl [1, 2, 3, 4, 5, 6, 7, 8, 9, 10, 11, 0] rfl)
  refine lv_iload X.1 X.2.1 dL_stones_34 (lv_at hl 0 rfl) ?_
  refine z_ne (a := g) (tgt := 44) X dL_stones_36 (by decide) (fun n_36 => ?_) (fun n_36 => ?_)
  · refine lv_iload X.1 X.2.1 dL_stones_44 (lv_at hl 0 rfl) ?_
    refine lv_iconst (v := 2) X.1 X.2.1 dL_stones_46 (by decide) ?_
    refine n_ne (a := g) (b := 2) (tgt := 57) X dL_stones_47 (by decide) (fun n_47 => ?_) (fun n_47 => ?_)
    · refine lv_iload X.1 X.2.1 dL_stones_57 (lv_at hl 1 rfl) ?_
      refine lv_iconst (v := 1) X.1 X.2.1 dL_stones_59 (by decide) ?_
      refine n_le (a := s) (b := 1) (tgt := 70) X dL_stones_60 (by decide) (fun n_60 => ?_) (fun n_60 => ?_)
      · refine lv_iconst (v := 1) X.1 X.2.1 dL_stones_70 (by decide) ?_
        refine r_toi (show (1 : Int32) = nI (radOn g s) from congrArg nI ((rad_e hs1).2.2.2 n_36 n_47 hg2 (by omega))) ?_
        exact W.widen (by omega) (by omega) (J71 _ _ ls S (lv_sub hl [0, 1, 2, 3, 4, 5, 6, 7, 8, 9] rfl))
      · refine lv_iload X.1 X.2.1 dL_stones_63 (lv_at hl 1 rfl) ?_
        refine lv_iconst (v := 1) X.1 X.2.1 dL_stones_65 (by decide) ?_
        refine n_sub (a := s) (b := 1) X dL_stones_66 ?_
        refine lv_goto (tgt := 71) X.1 X.2.1 dL_stones_67 (by decide) ?_
        refine r_toi (show (nI (s - 1) : Int32) = nI (radOn g s) from congrArg nI ((rad_e hs1).2.2.1 n_36 n_47 hg2 (by omega))) ?_
        exact W.widen (by omega) (by omega) (J71 _ _ ls S (lv_sub hl [0, 1, 2, 3, 4, 5, 6, 7, 8, 9] rfl))
    · refine lv_iload X.1 X.2.1 dL_stones_50 (lv_at hl 1 rfl) ?_
      refine lv_iconst (v := 1) X.1 X.2.1 dL_stones_52 (by decide) ?_
      refine n_add (a := s) (b := 1) X dL_stones_53 ?_
      refine lv_goto (tgt := 71) X.1 X.2.1 dL_stones_54 (by decide) ?_
      refine r_toi (show (nI (s + 1) : Int32) = nI (radOn g s) from congrArg nI ((rad_e hs1).2.1 n_47)) ?_
      exact W.widen (by omega) (by omega) (J71 _ _ ls S (lv_sub hl [0, 1, 2, 3, 4, 5, 6, 7, 8, 9] rfl))
  · refine lv_iload X.1 X.2.1 dL_stones_39 (lv_at hl 1 rfl) ?_
    refine lv_goto (tgt := 71) X.1 X.2.1 dL_stones_41 (by decide) ?_
    refine r_toi (show (nI s : Int32) = nI (radOn g s) from congrArg nI ((rad_e hs1).1 n_36)) ?_
    exact W.widen (by omega) (by omega) (J71 _ _ ls S (lv_sub hl [0, 1, 2, 3, 4, 5, 6, 7, 8, 9] rfl))
