/-! the law: draw, far, groundOf -/
def ex2L (w : Int32) (y : Nat) : Int32 := (w >>> (nI (2 * y) &&& 31)) &&& 3
theorem b_sshr (n : Nat) (hn : n < 32) (x : Int32) {i : Nat} (hi : n + i < 32) : bt (x >>> (nI n &&& 31)) i = bt x (n + i) := by
  unfold bt
  rw [Int32.toBitVec_shiftRight]
  show (x.toBitVec.sshiftRight ((nI n &&& 31).toBitVec.smod 32).toNat).getLsbD i = _
  rw [s_l n hn, BitVec.getLsbD_sshiftRight]
  rw [decide_eq_false (show ¬ 32 ≤ i by omega), if_pos hi]
  rfl
theorem ex2L_eq (w : Int32) {y : Nat} (hy : y < 16) : ex2L w y = ex2 w y := by
  apply b_ext
  intro i hi
  rw [ex2_bit _ hy hi]
  unfold ex2L
  rw [b_and, b_3 i hi]
  by_cases h2 : i < 2
  · rw [b_sshr _ (by omega) _ (by omega)]
  · rw [decide_eq_false h2, Bool.and_false, Bool.and_false]
/-- the law's own rows of grounds: 2 bits a cell, a row for each x -/
def grdL (w : Nat → Int32) (g : Nat → Nat) : Prop := ∀ x y : Nat, x < 16 → y < 16 → ex2L (w x) y = nI (g (16 * y + x))
def putL (w : Int32) (y k : Nat) : Int32 := (w &&& ((3 : Int32) <<< (nI (2 * y) &&& 31) ^^^ (-1))) ||| (nI k <<< (nI (2 * y) &&& 31))
theorem putL_eq (w : Int32) (y k : Nat) : putL w y k = put2 w y k := by
  unfold putL put2
  rw [show (2 : Int32) * nI y = nI (2 * y) from pk_mul 2 y]
theorem grdL_put {w : Nat → Int32} {g : Nat → Nat} (h : grdL w g) {x y k : Nat} (hx : x < 16) (hy : y < 16) (hk : k ≤ 2) : grdL (upd w x (putL (w x) y k)) (fun c => if c = 16 * y + x then k else g c) := by
  intro a b ha hb
  show _ = nI (if 16 * b + a = 16 * y + x then k else g (16 * b + a))
  by_cases hax : a = x
  · subst hax
    rw [pk_us, putL_eq, ex2L_eq _ hb]
    by_cases hby : b = y
    · subst hby
      rw [ex2_same _ hb (by omega), if_pos rfl]
    · rw [ex2_other _ hy hb (by omega) hby, if_neg (by omega), ← ex2L_eq _ hb]
      exact h a b ha hb
  · rw [pk_un hax, if_neg (by omega)]
    exact h a b ha hb
theorem grdL_0 : grdL (fun _ => 0) (fun _ => 0) := fun x y hx hy => by
  rw [ex2L_eq _ hy]
  exact (show ∀ y, y < 16 → ex2 0 y = nI 0 by decide +kernel) y hy
theorem grdL_cong {w : Nat → Int32} {g g' : Nat → Nat} (h : grdL w g) (e : ∀ c, c < 256 → g' c = g c) : grdL w g' := fun x y hx hy => by rw [h x y hx hy, e _ (by omega)]
/-- a number that the law draws -/
def drwP (G : cx_G) (k : Nat) (j : Nat) : Prop := j < 1073741824
set_option maxRecDepth 100000 in
set_option maxHeartbeats 4000000 in
/-- groundOf -/
theorem m_groundOf (l : Launch) (G : cx_G) (f : Wd) (gg t : Nat) (w : Nat → Int32) (g : Nat → Nat) (hg : f gg = some (t, eI G 16 w)) (hw : grdL w g) (x y : Nat) (hx : x < 16) (hy : y < 16) : PI l G yL_groundOf wsL_groundOf 0 0 [.ref gg, .int (nI x), .int (nI y)] f (fun v => v = nI (g (16 * y + x))) := by
  refine cx_body (cc := cL_groundOf) (n := 3) (ret := (some .int)) (by decide +kernel) rfl (Nat.le_of_ble_eq_true rfl) ?_
  intro p0 e0 s0 m0 b0 meth0 c0 ls X hr hnm S hl
  have X : cxC G p0 l _ c0 cL_groundOf 3 m0 meth0 s0 _ RL wsL_groundOf := X
  have hl : lv_has ls 3 [(0, .ref gg), (1, .int (nI x)), (2, .int (nI y))] := hl
  refine lv_aload_n X.1 X.2.1 dL_groundOf_0 rfl (lv_at hl 0 rfl) ?_
  refine lv_iload_n X.1 X.2.1 dL_groundOf_1 rfl (lv_at hl 1 rfl) ?_
  refine n_iald (i := x) (v := (w x)) X S hg rfl dL_groundOf_2 ?_
  refine lv_iconst (v := 2) X.1 X.2.1 dL_groundOf_3 (by decide) ?_
  refine lv_iload_n X.1 X.2.1 dL_groundOf_4 rfl (lv_at hl 2 rfl) ?_
  refine lv_bipush (v := 8) X.1 X.2.1 dL_groundOf_5 (by decide) ?_
  refine n_rem (a := y) (b := 8) X dL_groundOf_7 ?_
  refine n_mul (a := 2) (b := y % 8) X dL_groundOf_8 ?_
  refine lv_iload_n X.1 X.2.1 dL_groundOf_9 rfl (lv_at hl 2 rfl) ?_
  refine lv_bipush (v := 7) X.1 X.2.1 dL_groundOf_10 (by decide) ?_
  refine n_le (a := y) (b := 7) (tgt := 20) X dL_groundOf_12 (by decide) (fun n_12 => ?_) (fun n_12 => ?_)
  · refine lv_iconst (v := 0) X.1 X.2.1 dL_groundOf_20 (by decide) ?_
    refine n_add (a := 2 * (y % 8)) (b := 0) X dL_groundOf_21 ?_
    refine r_toi (show nI ((2 * (y % 8)) + 0) = nI (2 * y) from congrArg nI (by omega)) ?_
    refine lv_ishr X.1 X.2.1 dL_groundOf_22 ?_
    refine lv_iconst (v := 3) X.1 X.2.1 dL_groundOf_23 (by decide) ?_
    refine lv_iand X.1 X.2.1 dL_groundOf_24 ?_
    refine e_ip X hr S dL_groundOf_25 ?_
    exact hw x y hx hy
  · refine lv_bipush (v := 16) X.1 X.2.1 dL_groundOf_15 (by decide) ?_
    refine lv_goto (tgt := 21) X.1 X.2.1 dL_groundOf_17 (by decide) ?_
    refine n_add (a := 2 * (y % 8)) (b := 16) X dL_groundOf_21 ?_
    refine r_toi (show nI ((2 * (y % 8)) + 16) = nI (2 * y) from congrArg nI (by omega)) ?_
    refine lv_ishr X.1 X.2.1 dL_groundOf_22 ?_
    refine lv_iconst (v := 3) X.1 X.2.1 dL_groundOf_23 (by decide) ?_
    refine lv_iand X.1 X.2.1 dL_groundOf_24 ?_
    refine e_ip X hr S dL_groundOf_25 ?_
    exact hw x y hx hy

set_option maxRecDepth 100000 in
set_option maxHeartbeats 4000000 in
/-- far -/
theorem m_far (l : Launch) (hst : l.stackTraces = false) (G : cx_G) (f : Wd) (st : St) (x : Nat) (hI : sInv st) (hR0 : RX G f st x) (k a b : Nat) (hk : k < st 0 0) (ha : a < 16) (hb : b < 16) : QI l G yL_far wsL_far 8 138 4 24 [.ref x, .int (nI k), .int (nI a), .int (nI b)] f (fun v => v = nI (sq (st 2 k) a + sq (st 3 k) b)) := by
  refine cx_body (cc := cL_far) (n := 6) (ret := (some .int)) (by decide +kernel) rfl (Nat.le_of_ble_eq_true rfl) ?_
  intro p0 e0 s0 m0 b0 meth0 c0 ls X hr hnm S hl
  have X : cxC G p0 l _ c0 cL_far 6 m0 meth0 s0 _ RL wsL_far := X
  have hl : lv_has ls 6 [(0, .ref x), (1, .int (nI k)), (2, .int (nI a)), (3, .int (nI b))] := hl
  refine lv_aload_n X.1 X.2.1 dL_far_0 rfl (lv_at hl 0 rfl) ?_
  refine lv_iload_n X.1 X.2.1 dL_far_1 rfl (lv_at hl 1 rfl) ?_
  refine lv_iconst (v := 0) X.1 X.2.1 dL_far_2 (by decide) ?_
  refine call_iq (run_V X S (u_about l hst G f st x hI hR0 k 0 hk (by decide)) 2 gL_far_X9_about rfl rfl rfl (by decide +kernel) ⟨(by exact Nat.le_of_ble_eq_true rfl), (by exact Nat.le_of_ble_eq_true rfl)⟩ (RX.obj hR0) rfl rfl rfl hl.1 rfl (by exact Nat.le_of_ble_eq_true rfl) dL_far_3 ⟨(by exact Nat.le_of_ble_eq_true rfl), (by exact Nat.le_of_ble_eq_true rfl)⟩) S (fun r_3 H locs hr_3 S => ?_)
  obtain rfl := (show r_3 = nI (st 2 k) from hr_3)
  refine lv_iload_n X.1 X.2.1 dL_far_6 rfl (lv_at hl 2 rfl) ?_
  refine lv_isub X.1 X.2.1 dL_far_7 ?_
  refine lv_istore (lv' := [(4, .int ((nI (st 2 k)) - (nI a))), (0, .ref x), (1, .int (nI k)), (2, .int (nI a)), (3, .int (nI b))]) X.1 X.2.1 dL_far_8 hl (by decide) rfl (fun ls hl => ?_)
  refine lv_aload_n X.1 X.2.1 dL_far_10 rfl (lv_at hl 1 rfl) ?_
  refine lv_iload_n X.1 X.2.1 dL_far_11 rfl (lv_at hl 2 rfl) ?_
  refine lv_iconst (v := 1) X.1 X.2.1 dL_far_12 (by decide) ?_
  refine call_iq (run_V X S (u_about l hst G f st x hI hR0 k 1 hk (by decide)) 2 gL_far_X9_about rfl rfl rfl (by decide +kernel) ⟨(by exact Nat.le_of_ble_eq_true rfl), (by exact Nat.le_of_ble_eq_true rfl)⟩ (RX.obj hR0) rfl rfl rfl hl.1 rfl (by exact Nat.le_of_ble_eq_true rfl) dL_far_13 ⟨(by exact Nat.le_of_ble_eq_true rfl), (by exact Nat.le_of_ble_eq_true rfl)⟩) S (fun r_13 H locs hr_13 S => ?_)
  obtain rfl := (show r_13 = nI (st 3 k) from hr_13)
  refine lv_iload_n X.1 X.2.1 dL_far_16 rfl (lv_at hl 4 rfl) ?_
  refine lv_isub X.1 X.2.1 dL_far_17 ?_
  refine lv_istore (lv' := [(5, .int ((nI (st 3 k)) - (nI b))), (4, .int ((nI (st 2 k)) - (nI a))), (0, .ref x), (1, .int (nI k)), (2, .int (nI a)), (3, .int (nI b))]) X.1 X.2.1 dL_far_18 hl (by decide) rfl (fun ls hl => ?_)
  refine lv_iload X.1 X.2.1 dL_far_20 (lv_at hl 1 rfl) ?_
  refine lv_iload X.1 X.2.1 dL_far_22 (lv_at hl 1 rfl) ?_
  refine lv_imul X.1 X.2.1 dL_far_24 ?_
  refine r_toi (nI_sqd (st 2 k) a) ?_
  refine lv_iload X.1 X.2.1 dL_far_25 (lv_at hl 0 rfl) ?_
  refine lv_iload X.1 X.2.1 dL_far_27 (lv_at hl 0 rfl) ?_
  refine lv_imul X.1 X.2.1 dL_far_29 ?_
  refine r_toi (nI_sqd (st 3 k) b) ?_
  refine n_add (a := sq (st 2 k) a) (b := sq (st 3 k) b) X dL_far_30 ?_
  refine e_iq X hr S (Nat.le_of_ble_eq_true rfl) (Nat.le_of_ble_eq_true rfl) dL_far_31 ?_
  rfl

set_option maxRecDepth 100000 in
set_option maxHeartbeats 4000000 in
/-- draw -/
theorem m_draw (l : Launch) (G : cx_G) (f : Wd) (k : Nat) (hk : k < 2 ^ 20) (hL : gL G < 2 ^ 20) : PI l G yL_draw wsL_draw 0 0 [.ref (gb G), .int (nI k), .int 1073741824] f (fun v => ∃ j, j < 1073741824 ∧ v = nI j) := by
  refine cx_body (cc := cL_draw) (n := 4) (ret := (some .int)) (by decide +kernel) rfl (Nat.le_of_ble_eq_true rfl) ?_
  intro p0 e0 s0 m0 b0 meth0 c0 ls X hr hnm S hl
  have X : cxC G p0 l _ c0 cL_draw 4 m0 meth0 s0 _ RL wsL_draw := X
  have hl : lv_has ls 4 [(0, .ref (gb G)), (1, .int (nI k)), (2, .int 1073741824)] := hl
  refine lv_iload_n X.1 X.2.1 dL_draw_0 rfl (lv_at hl 1 rfl) ?_
  refine lv_aload_n X.1 X.2.1 dL_draw_1 rfl (lv_at hl 0 rfl) ?_
  refine n_slen X S dL_draw_2 ?_
  refine n_ge (a := k) (b := gL G) (tgt := 12) X dL_draw_3 (by decide) (fun n_3 => ?_) (fun n_3 => ?_)
  · refine r_ldc (v := 835446737) X (by decide +kernel) dL_draw_12 ?_
    refine lv_iload_n X.1 X.2.1 dL_draw_14 rfl (lv_at hl 1 rfl) ?_
    refine lv_sipush (v := 1097) X.1 X.2.1 dL_draw_15 (by decide) ?_
    refine n_add (a := k) (b := 1097) X dL_draw_18 ?_
    refine n_mul (a := 835446737) (b := k + 1097) X dL_draw_19 ?_
    refine r_ldc (v := 799781343) X (by decide +kernel) dL_draw_20 ?_
    refine n_add (a := 835446737 * (k + 1097)) (b := 799781343) X dL_draw_22 ?_
    obtain ⟨v9, ev9⟩ : ∃ z9 : Int32, z9 = nI ((835446737 * (k + 1097)) + 799781343) := ⟨_, rfl⟩
    refine r_toi ev9.symm ?_
    refine lv_istore_n (lv' := [(3, .int v9), (0, .ref (gb G)), (1, .int (nI k)), (2, .int 1073741824)]) X.1 X.2.1 dL_draw_23 rfl hl (by decide) rfl (fun ls hl => ?_)
    refine lv_iload_n X.1 X.2.1 dL_draw_24 rfl (lv_at hl 0 rfl) ?_
    refine r_ldc (v := 2147483647) X (by decide +kernel) dL_draw_25 ?_
    refine lv_iand X.1 X.2.1 dL_draw_27 ?_
    obtain ⟨j, hj, ej⟩ := pk_andE v9 (m := 2147483647) 31 (by decide)
    refine r_toi ej ?_
    refine lv_iload_n X.1 X.2.1 dL_draw_28 rfl (lv_at hl 3 rfl) ?_
    refine n_rem (a := j) (b := 1073741824) X dL_draw_29 ?_
    refine e_ip X hr S dL_draw_30 ?_
    exact ⟨_, Nat.mod_lt _ (by omega), rfl⟩
  · refine lv_aload_n X.1 X.2.1 dL_draw_6 rfl (lv_at hl 0 rfl) ?_
    refine lv_iload_n X.1 X.2.1 dL_draw_7 rfl (lv_at hl 1 rfl) ?_
    refine n_sld X S (i := k) (v := gx G k) rfl dL_draw_8 ?_ (by omega) (by omega)
    refine lv_goto (tgt := 23) X.1 X.2.1 dL_draw_9 (by decide) ?_
    obtain ⟨v9, ev9⟩ : ∃ z9 : Int32, z9 = gx G k := ⟨_, rfl⟩
    refine r_toi ev9.symm ?_
    refine lv_istore_n (lv' := [(3, .int v9), (0, .ref (gb G)), (1, .int (nI k)), (2, .int 1073741824)]) X.1 X.2.1 dL_draw_23 rfl hl (by decide) rfl (fun ls hl => ?_)
    refine lv_iload_n X.1 X.2.1 dL_draw_24 rfl (lv_at hl 0 rfl) ?_
    refine r_ldc (v := 2147483647) X (by decide +kernel) dL_draw_25 ?_
    refine lv_iand X.1 X.2.1 dL_draw_27 ?_
    obtain ⟨j, hj, ej⟩ := pk_andE v9 (m := 2147483647) 31 (by decide)
    refine r_toi ej ?_
    refine lv_iload_n X.1 X.2.1 dL_draw_28 rfl (lv_at hl 3 rfl) ?_
    refine n_rem (a := j) (b := 1073741824) X dL_draw_29 ?_
    refine e_ip X hr S dL_draw_30 ?_
    exact ⟨_, Nat.mod_lt _ (by omega), rfl⟩
