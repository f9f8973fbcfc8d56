/-! bits (a family of kit/laws/BITS.to-paste), the grounds' rows; what is made new -/
def bt (x : Int32) (i : Nat) : Bool := x.toBitVec.getLsbD i
theorem b_ext {x y : Int32} (h : ∀ i, i < 32 → bt x i = bt y i) : x = y := Int32.toBitVec_inj.mp (BitVec.eq_of_getLsbD_eq (fun i hi => h i hi))
theorem b_or (x y : Int32) (i : Nat) : bt (x ||| y) i = (bt x i || bt y i) := by unfold bt; rw [Int32.toBitVec_or, BitVec.getLsbD_or]
theorem b_and (x y : Int32) (i : Nat) : bt (x &&& y) i = (bt x i && bt y i) := by unfold bt; rw [Int32.toBitVec_and, BitVec.getLsbD_and]
theorem b_xor (x y : Int32) (i : Nat) : bt (x ^^^ y) i = (bt x i ^^ bt y i) := by unfold bt; rw [Int32.toBitVec_xor, BitVec.getLsbD_xor]
theorem b_big {x : Int32} {i : Nat} (h : 32 ≤ i) : bt x i = false := BitVec.getLsbD_of_ge _ _ h
theorem b_m1 : ∀ i, i < 32 → bt (-1) i = true := by decide +kernel
theorem s_l : ∀ n, n < 32 → ((nI n &&& 31).toBitVec.smod 32).toNat = n := by decide +kernel
theorem s_u : ∀ n, n < 32 → (((nI n).toUInt32 &&& Int32.toUInt32 31).toBitVec % 32).toNat = n := by decide +kernel
theorem b_shl (n : Nat) (hn : n < 32) (x : Int32) {i : Nat} (hi : i < 32) : bt (x <<< (nI n &&& 31)) i = (decide (n ≤ i) && bt x (i - n)) := by
  unfold bt
  rw [Int32.toBitVec_shiftLeft]
  show (x.toBitVec <<< ((nI n &&& 31).toBitVec.smod 32).toNat).getLsbD i = _
  rw [s_l n hn, BitVec.getLsbD_shiftLeft]
  rcases Nat.lt_or_ge i n with h | h
  · simp [h, Nat.not_le.mpr h]
  · simp [hi, h, Nat.not_lt.mpr h]
theorem b_ushr (n : Nat) (hn : n < 32) (x : Int32) (i : Nat) : bt ((x.toUInt32 >>> ((nI n).toUInt32 &&& Int32.toUInt32 31)).toInt32) i = bt x (n + i) := by
  show (x.toUInt32 >>> ((nI n).toUInt32 &&& Int32.toUInt32 31)).toBitVec.getLsbD i = x.toUInt32.toBitVec.getLsbD (n + i)
  rw [UInt32.toBitVec_shiftRight]
  show (x.toUInt32.toBitVec >>> (((nI n).toUInt32 &&& Int32.toUInt32 31).toBitVec % 32).toNat).getLsbD i = _
  rw [s_u n hn, BitVec.getLsbD_ushiftRight]
theorem b_3 : ∀ i, i < 32 → bt 3 i = decide (i < 2) := by decide +kernel
theorem b_k : ∀ k, k < 3 → ∀ i, i < 32 → bt (nI k) i = (bt (nI k) i && decide (i < 2)) := by decide +kernel
def ex2 (w : Int32) (x : Nat) : Int32 := (w.toUInt32 >>> ((2 * nI x).toUInt32 &&& Int32.toUInt32 31)).toInt32 &&& 3
theorem ex2_bit (w : Int32) {x : Nat} (hx : x < 16) {i : Nat} (hi : i < 32) : bt (ex2 w x) i = (bt w (2 * x + i) && decide (i < 2)) := by
  unfold ex2
  rw [show (2 : Int32) * nI x = nI (2 * x) from pk_mul 2 x, b_and, b_ushr _ (by omega), b_3 i hi]
def put2 (w : Int32) (x k : Nat) : Int32 := (w &&& ((3 : Int32) <<< ((2 * nI x) &&& 31) ^^^ (-1))) ||| (nI k <<< ((2 * nI x) &&& 31))
theorem put2_bit (w : Int32) {x k : Nat} (hx : x < 16) {p : Nat} (hp : p < 32) : bt (put2 w x k) p = ((bt w p && !(decide (2 * x ≤ p) && bt 3 (p - 2 * x))) || (decide (2 * x ≤ p) && bt (nI k) (p - 2 * x))) := by
  unfold put2
  rw [show (2 : Int32) * nI x = nI (2 * x) from pk_mul 2 x, b_or, b_and, b_xor, b_shl _ (by omega) _ hp, b_shl _ (by omega) _ hp, b_m1 p hp, Bool.xor_true]
theorem ex2_same (w : Int32) {x k : Nat} (hx : x < 16) (hk : k < 3) : ex2 (put2 w x k) x = nI k := by
  apply b_ext
  intro i hi
  rw [ex2_bit _ hx hi]
  by_cases h2 : i < 2
  · rw [put2_bit _ hx (by omega), decide_eq_true (show 2 * x ≤ 2 * x + i by omega), show 2 * x + i - 2 * x = i by omega, b_3 i hi, decide_eq_true h2]
    simp
  · rw [decide_eq_false h2, Bool.and_false, b_k k hk i hi, decide_eq_false h2, Bool.and_false]
theorem ex2_other (w : Int32) {x y k : Nat} (hx : x < 16) (hy : y < 16) (hk : k < 3) (hne : y ≠ x) : ex2 (put2 w x k) y = ex2 w y := by
  apply b_ext
  intro i hi
  rw [ex2_bit _ hy hi, ex2_bit _ hy hi]
  by_cases h2 : i < 2
  · rw [put2_bit _ hx (by omega)]
    by_cases h3 : 2 * x ≤ 2 * y + i
    · rw [b_3 _ (by omega), b_k k hk _ (by omega), decide_eq_false (show ¬ 2 * y + i - 2 * x < 2 by omega)]
      simp
    · rw [decide_eq_false h3]
      simp
  · rw [decide_eq_false h2, Bool.and_false, Bool.and_false]
theorem grd_put {w : Nat → Int32} {g : Nat → Nat} (h : grd w g) {x y k : Nat} (hx : x < 16) (hy : y < 16) (hk : k ≤ 2) : grd (upd w y (put2 (w y) x k)) (fun c => if c = 16 * y + x then k else g c) := by
  intro a b ha hb
  show ex2 (upd w y (put2 (w y) x k) b) a = _
  by_cases hby : b = y
  · subst hby
    rw [pk_us]
    by_cases hax : a = x
    · subst hax
      rw [ex2_same _ ha (by omega)]
      dsimp only
      rw [if_pos rfl]
    · rw [ex2_other _ hx ha (by omega) hax]
      dsimp only
      rw [if_neg (by omega)]
      exact h a b ha hb
  · rw [pk_un hby]
    dsimp only
    rw [if_neg (by omega)]
    exact h a b ha hb
theorem grd_0 : grd (fun _ => 0) (fun _ => 0) := fun x y hx hy => by
  show ex2 0 x = nI 0
  apply b_ext
  intro i hi
  rw [ex2_bit _ hx hi]
  have h0 : ∀ j, bt 0 j = false := fun j => by unfold bt; exact BitVec.getLsbD_zero
  rw [h0, Bool.false_and]
  exact (h0 i).symm
theorem md_newput {f f1 : Wd} {q t : Nat} {e : va_E} (hq : f q = none) (h : md (fun _ => False) f f1) : md (fun _ => False) f (wu f1 q t e) := fun b t2 e2 hb n => by
  rw [wu_ne _ _ _ (fun z => by rw [z, hq] at hb; cases hb)]
  exact h b t2 e2 hb n
section CXA
variable {G : cx_G} {p : Program} {l : Launch} {e : Env} {R : Room} {s : State} {m : MethodId} {args : Array Value} {below : List Frame} {meth : Method} {c : Code} {H : Heap} {locs : List Loc} {cells slots : Nat} {Q : State → Prop}
variable {cc : ByteArray} {nL : Nat} {own : String} {Ts : List Cond} {pc : Nat} {ls : Array Slot} {rest : List Value} {f : Wd} {a t : Nat}
theorem r_castI (X : cxC G p l R c cc nL m meth s args own Ts) (S : cxS G s f H locs) {index n : Nat} {f0 : Nat → Int32} (hlink : Cond.classLink own index "[I" ∈ Ts) (ha : f a = some (t, eI G n f0)) (hdg : decode cc pc = .ok (.checkcast index, 3))
    (kk : W p l e R s m args below meth c H locs cells slots Q (F0 m (pc + 3) ls (.ref a :: rest))) : W p l e R s m args below meth c H locs cells slots Q (F0 m pc ls (.ref a :: rest)) :=
  va_castA X.1 X.2.1 X.2.2.2.1 (X.2.2.2.2.1 _ hlink) (S.1.one ha) 0 rfl (va_nm_int (X.2.2.2.2.2.1.1.2 0 (gI G, .int) rfl).2) hdg kk
end CXA
def mdx (x : Nat) (f f1 : Wd) : Prop := (∀ b y, f b = some y → b ≠ x → f1 b = some y) ∧ f1 x ≠ none
theorem mdx_rf {x : Nat} {f : Wd} (h : f x ≠ none) : mdx x f f := ⟨fun _ _ h _ => h, h⟩
theorem mdx_none {x q : Nat} {f f1 : Wd} (h : mdx x f f1) (hq : f1 q = none) : f q = none := by
  cases hz : f q with
  | none => rfl
  | some y =>
    have := h.1 q y hz (fun z => h.2 (by rw [← z]; exact hq))
    rw [hq] at this
    cases this
theorem mdx_new {x q t : Nat} {e : va_E} {f f1 : Wd} (h : mdx x f f1) (hq : f1 q = none) : mdx x f (wu f1 q t e) :=
  ⟨fun b y hb hn => by rw [wu_ne _ _ _ (fun z => by have := h.1 b y hb hn; rw [z, hq] at this; cases this)]; exact h.1 b y hb hn, by rw [wu_ne _ _ _ (fun z => h.2 (by rw [z]; exact hq))]; exact h.2⟩
theorem mdx_put {x q t : Nat} {e : va_E} {f f1 : Wd} (h : mdx x f f1) (hq : f q = none) : mdx x f (wu f1 q t e) :=
  ⟨fun b y hb hn => by rw [wu_ne _ _ _ (fun z => by rw [z, hq] at hb; cases hb)]; exact h.1 b y hb hn, by
    by_cases z : x = q
    · rw [z, wu_self]; exact fun z => nomatch z
    · rw [wu_ne _ _ _ z]; exact h.2⟩
theorem mdx_putx {x t : Nat} {e : va_E} {f f1 : Wd} (h : mdx x f f1) : mdx x f (wu f1 x t e) :=
  ⟨fun b y hb hn => by rw [wu_ne _ _ _ hn]; exact h.1 b y hb hn, by rw [wu_self]; exact fun z => nomatch z⟩
def st0 : St := fun A i => if A = 0 ∧ i = 4 then 1 else 0
theorem empty_L {G : cx_G} {f : Wd} {L t : Nat} (h : f L = some (t, .inr (0, [.int 0, .ref (gd G), .int 0]))) : LRx G f L t 0 (fun _ => 0) := ⟨0, gd G, 0, fun _ => none, h, fun i hi => absurd hi (Nat.not_lt_zero i), Or.inl ⟨rfl, rfl⟩⟩
set_option maxRecDepth 100000 in
set_option maxHeartbeats 4000000 in
/-- Ground.setKind -/
theorem m_setKind (l : Launch) (G : cx_G) (f : Wd) (a t rw1 t1 : Nat) (w : Nat → Int32) (ha : f a = some (t, .inr (7, [.ref rw1]))) (hrw : f rw1 = some (t1, eI G 16 w)) (ht1 : t1 ≠ 9999) (x y k : Nat) (hx : x < 16) (hy : y < 16) : MV l G yX6_setKind wsX6_setKind 0 0 0 0 [.ref a, .int (nI x), .int (nI y), .int (nI k)] f (fun f' => f' = wu f rw1 t1 (eI G 16 (upd w y (put2 (w y) x k)))) := by
  refine cx_body (cc := cX6_setKind) (n := 4) (ret := none) (by decide +kernel) rfl (Nat.le_of_ble_eq_true rfl) ?_
  intro p0 e0 s0 m0 b0 meth0 c0 ls X hr hnm S hl
  have X : cxC G p0 l _ c0 cX6_setKind 4 m0 meth0 s0 _ RX6 wsX6_setKind := X
  have hl : lv_has ls 4 [(0, .ref a), (1, .int (nI x)), (2, .int (nI y)), (3, .int (nI k))] := hl
  have in_RX6 : ∀ w ∈ u_ws RX6 TX6 1, w ∈ wsX6_setKind := by decide +kernel
  refine lv_iload_n X.1 X.2.1 dX6_setKind_0 rfl (lv_at hl 2 rfl) ?_
  refine lv_if_lt (tgt := 39) X.1 X.2.1 dX6_setKind_1 (by decide) (fun c_1 => ?_) (fun c_1 => ?_)
  · exact absurd c_1 (nI_pos (by omega))
  · refine lv_iload_n X.1 X.2.1 dX6_setKind_4 rfl (lv_at hl 2 rfl) ?_
    refine lv_aload_n X.1 X.2.1 dX6_setKind_5 rfl (lv_at hl 0 rfl) ?_
    refine r_get (C := RX6) (T := TX6) (N := 1) (ref := "Craterclock$Ground") X S in_RX6 ha rfl 0 (by decide) (by decide +kernel) (fun _ h => h) rfl dX6_setKind_6 ?_
    refine r_alenI (v := nI 16) X S hrw rfl dX6_setKind_9 ?_
    refine lv_icmp_ge (tgt := 39) X.1 X.2.1 dX6_setKind_10 (by decide) (fun c_10 => ?_) (fun c_10 => ?_)
    · exact absurd c_10 (nI_ge hy (by omega))
    · refine lv_aload_n X.1 X.2.1 dX6_setKind_13 rfl (lv_at hl 0 rfl) ?_
      refine r_get (C := RX6) (T := TX6) (N := 1) (ref := "Craterclock$Ground") X S in_RX6 ha rfl 0 (by decide) (by decide +kernel) (fun _ h => h) rfl dX6_setKind_14 ?_
      refine lv_iload_n X.1 X.2.1 dX6_setKind_17 rfl (lv_at hl 2 rfl) ?_
      refine lv_aload_n X.1 X.2.1 dX6_setKind_18 rfl (lv_at hl 0 rfl) ?_
      refine r_get (C := RX6) (T := TX6) (N := 1) (ref := "Craterclock$Ground") X S in_RX6 ha rfl 0 (by decide) (by decide +kernel) (fun _ h => h) rfl dX6_setKind_19 ?_
      refine lv_iload_n X.1 X.2.1 dX6_setKind_22 rfl (lv_at hl 2 rfl) ?_
      refine r_iald (v := (w y)) X S hrw (vp_in_nI hy (by omega)) (by rw [nI_clamp (by omega)]) dX6_setKind_23 ?_
      refine lv_iconst (v := 3) X.1 X.2.1 dX6_setKind_24 (by decide) ?_
      refine lv_iconst (v := 2) X.1 X.2.1 dX6_setKind_25 (by decide) ?_
      refine lv_iload_n X.1 X.2.1 dX6_setKind_26 rfl (lv_at hl 1 rfl) ?_
      refine lv_imul X.1 X.2.1 dX6_setKind_27 ?_
      refine lv_ishl X.1 X.2.1 dX6_setKind_28 ?_
      refine lv_iconst (v := (-1)) X.1 X.2.1 dX6_setKind_29 (by decide) ?_
      refine lv_ixor X.1 X.2.1 dX6_setKind_30 ?_
      refine lv_iand X.1 X.2.1 dX6_setKind_31 ?_
      refine lv_iload_n X.1 X.2.1 dX6_setKind_32 rfl (lv_at hl 3 rfl) ?_
      refine lv_iconst (v := 2) X.1 X.2.1 dX6_setKind_33 (by decide) ?_
      refine lv_iload_n X.1 X.2.1 dX6_setKind_34 rfl (lv_at hl 1 rfl) ?_
      refine lv_imul X.1 X.2.1 dX6_setKind_35 ?_
      refine lv_ishl X.1 X.2.1 dX6_setKind_36 ?_
      refine lv_ior X.1 X.2.1 dX6_setKind_37 ?_
      refine r_iast X S hrw ht1 (vp_in_nI hy (by omega)) dX6_setKind_38 (fun H locs S => ?_)
      rw [nI_clamp (by omega)] at S
      obtain ⟨f_38, ef_38⟩ : ∃ z9 : Wd, z9 = wu f rw1 t1 (eI G 16 (upd w y (put2 (w y) x k))) := ⟨_, rfl⟩
      rw [show wu f rw1 t1 (eI G 16 (upd w y (((w y) &&& ((3 <<< ((2 * (nI x)) &&& 31)) ^^^ (-1))) ||| ((nI k) <<< ((2 * (nI x)) &&& 31))))) = f_38 from ef_38.symm] at S
      refine e_v X hr S (Nat.le_of_ble_eq_true rfl) (Nat.le_of_ble_eq_true rfl) dX6_setKind_39 ?_
      exact ef_38

set_option maxRecDepth 100000 in
set_option maxHeartbeats 4000000 in
/-- Ground.copy -/
theorem m_copy (l : Launch) (G : cx_G) (f : Wd) (a t rw1 t1 : Nat) (w : Nat → Int32) (ha : f a = some (t, .inr (7, [.ref rw1]))) (hrw : f rw1 = some (t1, eI G 16 w)) (ht1 : t1 ≠ 9999) : MR l G yX6_copy wsX6_copy 2 41 2 17 [.ref a] f (fun r f' => ∃ q, f' r = some (8, .inr (7, [.ref q])) ∧ f' q = some (8, eI G 16 w) ∧ md (fun _ => False) f f') := by
  refine cx_body (cc := cX6_copy) (n := 1) (ret := (some (.object "Craterclock$Ground"))) (by decide +kernel) rfl (Nat.le_of_ble_eq_true rfl) ?_
  intro p0 e0 s0 m0 b0 meth0 c0 ls X hr hnm S hl
  have X : cxC G p0 l _ c0 cX6_copy 1 m0 meth0 s0 _ RX6 wsX6_copy := X
  have hl : lv_has ls 1 [(0, .ref a)] := hl
  have in_RX6 : ∀ w ∈ u_ws RX6 TX6 1, w ∈ wsX6_copy := by decide +kernel
  refine r_new (C := RX6) (T := TX6) (N := 1) (ci := 7) (fs := [.null]) X S 8 (by decide) in_RX6 tyX6 tyX6_ok (by decide +kernel) (by decide +kernel) (by decide +kernel) rfl (fun j hj => by rcases (show j = 0 by omega) with rfl <;> rfl) (by exact Nat.le_of_ble_eq_true rfl) (by exact Nat.le_of_ble_eq_true rfl) dX6_copy_0 (fun q_0 H hn_q_0 S => ?_)
  obtain ⟨f_0, ef_0⟩ : ∃ z9 : Wd, z9 = wu f q_0 8 (.inr (7, [.null])) := ⟨_, rfl⟩
  rw [← ef_0] at S
  have ha_0 : f_0 a = some (t, .inr (7, [.ref rw1])) := by rw [ef_0]; exact wu_new hn_q_0 ha
  have hrw_0 : f_0 rw1 = some (t1, eI G 16 w) := by rw [ef_0]; exact wu_new hn_q_0 hrw
  have hNq0 : f_0 q_0 = some (8, .inr (7, [.null])) := by rw [ef_0]; exact wu_self _ _ _ _
  refine lv_dup X.1 X.2.1 dX6_copy_3 rfl ?_
  refine lv_aload_n X.1 X.2.1 dX6_copy_4 rfl (lv_at hl 0 rfl) ?_
  refine r_get (C := RX6) (T := TX6) (N := 1) (ref := "Craterclock$Ground") X S in_RX6 ha_0 rfl 0 (by decide) (by decide +kernel) (fun _ h => h) rfl dX6_copy_5 ?_
  refine r_cloneI X S 8 (by decide) hl.1 (by decide +kernel) (by decide +kernel) (by decide +kernel) (by decide +kernel) (by decide +kernel) hrw_0 ht1 (by exact Nat.le_of_ble_eq_true rfl) (by exact Nat.le_of_ble_eq_true rfl) (by exact Nat.le_of_ble_eq_true rfl) (by exact Nat.le_of_ble_eq_true rfl) dX6_copy_8 (fun q_8 H hn_q_8 S => ?_)
  obtain ⟨f_8, ef_8⟩ : ∃ z9 : Wd, z9 = wu f_0 q_8 8 (eI G 16 w) := ⟨_, rfl⟩
  rw [← ef_8] at S
  have ha_8 : f_8 a = some (t, .inr (7, [.ref rw1])) := by rw [ef_8]; exact wu_new hn_q_8 ha_0
  have hrw_8 : f_8 rw1 = some (t1, eI G 16 w) := by rw [ef_8]; exact wu_new hn_q_8 hrw_0
  have hNq0_8 : f_8 q_0 = some (8, .inr (7, [.null])) := by rw [ef_8]; exact wu_new hn_q_8 hNq0
  have hNq8 : f_8 q_8 = some (8, eI G 16 w) := by rw [ef_8]; exact wu_self _ _ _ _
  refine r_castI X S (by decide +kernel) hNq8 dX6_copy_11 ?_
  refine call_v (run_I X S (m_Ground l G f_8 q_0 8 q_8 hNq0_8 (by decide)) 1 gX6_copy_X6_init rfl rfl rfl (by decide +kernel) (by decide +kernel) (by decide +kernel) rfl (by decide +kernel) ⟨(by exact Nat.le_of_ble_eq_true rfl), (by exact Nat.le_of_ble_eq_true rfl)⟩ rfl hl.1 rfl (by exact Nat.le_of_ble_eq_true rfl) dX6_copy_14 ⟨(by exact Nat.le_of_ble_eq_true rfl), (by exact Nat.le_of_ble_eq_true rfl)⟩) S (fun f_14 H locs hr_14 S => ?_)
  have h_q0_14 : f_14 q_0 = some (8, .inr (7, [.ref q_8])) := by rw [hr_14]; exact wu_self _ _ _ _
  have h_q8_14 : f_14 q_8 = some (8, eI G 16 w) := by rw [hr_14]; exact wu_gk hNq0_8 hNq8 (fun h => by cases h)
  refine e_r X hr (Or.inl ⟨_, rfl⟩) S (Nat.le_of_ble_eq_true rfl) (Nat.le_of_ble_eq_true rfl) dX6_copy_17 ?_
  exact ⟨q_8, h_q0_14, h_q8_14, by rw [hr_14]; refine md_newput hn_q_0 ?_; rw [ef_8]; exact md_tr (md_newput hn_q_0 (md_rf _ f) : md (fun _ => False) f (wu f q_0 8 (.inr (7, [.null])))) (by rw [← ef_0]; exact md_new hn_q_8) (fun _ q => q) (fun _ q => q)⟩

set_option maxRecDepth 100000 in
set_option maxHeartbeats 4000000 in
/-- Curve() -/
theorem m_Curve (l : Launch) (G : cx_G) (f : Wd) (c : Nat) (hc : f c = some (6, .inr (3, [.null]))) : MV l G yX2_init wsX2_init 4 80 1 3 [.ref c] f (fun f' => ∃ q, f q = none ∧ f' = wu (wu f q 7 (.inr (0, [.int 0, .ref (gd G), .int 0]))) c 6 (.inr (3, [.ref q]))) := by
  refine cx_body (cc := cX2_init) (n := 1) (ret := none) (by decide +kernel) rfl (Nat.le_of_ble_eq_true rfl) ?_
  intro p0 e0 s0 m0 b0 meth0 c0 ls X hr hnm S hl
  have X : cxC G p0 l _ c0 cX2_init 1 m0 meth0 s0 _ RX2 wsX2_init := X
  have hl : lv_has ls 1 [(0, .ref c)] := hl
  have in_RJx4a65c : ∀ w ∈ u_ws RJx4a65c TJx4a65c 3, w ∈ wsX2_init := by decide +kernel
  have in_RX2 : ∀ w ∈ u_ws RX2 TX2 1, w ∈ wsX2_init := by decide +kernel
  refine lv_aload_n X.1 X.2.1 dX2_init_0 rfl (lv_at hl 0 rfl) ?_
  refine r_objInit X (by decide +kernel) (by decide +kernel) (by decide +kernel) hl.1 dX2_init_1 (by exact Nat.le_of_ble_eq_true rfl) (by exact Nat.le_of_ble_eq_true rfl) ?_
  refine lv_aload_n X.1 X.2.1 dX2_init_4 rfl (lv_at hl 0 rfl) ?_
  refine r_new (C := RJx4a65c) (T := TJx4a65c) (N := 3) (ci := 0) (fs := [.int 0, .null, .int 0]) X S 7 (by decide) in_RJx4a65c tyJx4a65c tyJx4a65c_ok (by decide +kernel) (by decide +kernel) (by decide +kernel) rfl (fun j hj => by rcases (show j = 0 ∨ j = 1 ∨ j = 2 by omega) with rfl | rfl | rfl <;> rfl) (by exact Nat.le_of_ble_eq_true rfl) (by exact Nat.le_of_ble_eq_true rfl) dX2_init_5 (fun q_5 H hn_q_5 S => ?_)
  obtain ⟨f_5, ef_5⟩ : ∃ z9 : Wd, z9 = wu f q_5 7 (.inr (0, [.int 0, .null, .int 0])) := ⟨_, rfl⟩
  rw [← ef_5] at S
  have hc_5 : f_5 c = some (6, .inr (3, [.null])) := by rw [ef_5]; exact wu_new hn_q_5 hc
  have hNq5 : f_5 q_5 = some (7, .inr (0, [.int 0, .null, .int 0])) := by rw [ef_5]; exact wu_self _ _ _ _
  refine lv_dup X.1 X.2.1 dX2_init_8 rfl ?_
  refine call_v (run_I X S (m_Linit l G f_5 q_5 7 (by decide) hNq5) 0 gX2_init_Jx4a65c_init_da8c8 rfl rfl rfl (by decide +kernel) (by decide +kernel) (by decide +kernel) rfl (by decide +kernel) ⟨(by exact Nat.le_of_ble_eq_true rfl), (by exact Nat.le_of_ble_eq_true rfl)⟩ rfl hl.1 rfl (by exact Nat.le_of_ble_eq_true rfl) dX2_init_9 ⟨(by exact Nat.le_of_ble_eq_true rfl), (by exact Nat.le_of_ble_eq_true rfl)⟩) S (fun f_9 H locs hr_9 S => ?_)
  have hc_9 : f_9 c = some (6, .inr (3, [.null])) := by rw [hr_9]; exact wu_get hNq5 hc_5 (by decide)
  have hNq5_9 : f_9 q_5 = some (7, .inr (0, [.int 0, .ref (gd G), .int 0])) := by rw [hr_9]; exact wu_self _ _ _ _
  refine r_putF (C := RX2) (T := TX2) (N := 1) (ref := "Craterclock$Curve") (fs' := [.ref q_5]) (ty := .object "java/util/ArrayList") X S in_RX2 tyX2 tyX2_ok nmX2 hc_9 (by decide) rfl 0 (by decide) (by decide +kernel) (fun _ h => h) rfl hnm rfl (by decide +kernel) rfl rfl (Nat.le_of_ble_eq_true rfl) rfl dX2_init_12 (fun H locs S => ?_)
  obtain ⟨f_12, ef_12⟩ : ∃ z9 : Wd, z9 = wu f_9 c 6 (.inr (3, [.ref q_5])) := ⟨_, rfl⟩
  rw [← ef_12] at S
  have hc_12 : f_12 c = some (6, .inr (3, [.ref q_5])) := by rw [ef_12]; exact wu_self _ _ _ _
  have hNq5_12 : f_12 q_5 = some (7, .inr (0, [.int 0, .ref (gd G), .int 0])) := by rw [ef_12]; exact wu_get hc_9 hNq5_9 (by decide)
  refine e_v X hr S (Nat.le_of_ble_eq_true rfl) (Nat.le_of_ble_eq_true rfl) dX2_init_15 ?_
  exact ⟨q_5, hn_q_5, by rw [ef_12, hr_9, ef_5, wu_wu]⟩

set_option maxRecDepth 100000 in
set_option maxHeartbeats 4000000 in
/-- Craterclock() -/
theorem m_Craterclock (l : Launch) (G : cx_G) (f : Wd) (x : Nat) (hx : f x = some (0, .inr (9, [.null, .null, .null, .null, .null, .int 0]))) : MV l G yX9_init wsX9_init 5 100 7 30 [.ref x] f (fun f' => RX G f' st0 x ∧ md (fun t => t = 0) f f') := by
  refine cx_body (cc := cX9_init) (n := 1) (ret := none) (by decide +kernel) rfl (Nat.le_of_ble_eq_true rfl) ?_
  intro p0 e0 s0 m0 b0 meth0 c0 ls X hr hnm S hl
  have X : cxC G p0 l _ c0 cX9_init 1 m0 meth0 s0 _ RX9 wsX9_init := X
  have hl : lv_has ls 1 [(0, .ref x)] := hl
  have in_RJx4a65c : ∀ w ∈ u_ws RJx4a65c TJx4a65c 3, w ∈ wsX9_init := by decide +kernel
  have in_RX2 : ∀ w ∈ u_ws RX2 TX2 1, w ∈ wsX9_init := by decide +kernel
  have in_RX6 : ∀ w ∈ u_ws RX6 TX6 1, w ∈ wsX9_init := by decide +kernel
  have in_RX9 : ∀ w ∈ u_ws RX9 TX9 6, w ∈ wsX9_init := by decide +kernel
  have mx0 : mdx x f f := mdx_rf (by rw [hx]; exact fun z => nomatch z)
  refine lv_aload_n X.1 X.2.1 dX9_init_0 rfl (lv_at hl 0 rfl) ?_
  refine r_objInit X (by decide +kernel) (by decide +kernel) (by decide +kernel) hl.1 dX9_init_1 (by exact Nat.le_of_ble_eq_true rfl) (by exact Nat.le_of_ble_eq_true rfl) ?_
  refine lv_aload_n X.1 X.2.1 dX9_init_4 rfl (lv_at hl 0 rfl) ?_
  refine r_new (C := RX6) (T := TX6) (N := 1) (ci := 7) (fs := [.null]) X S 1 (by decide) in_RX6 tyX6 tyX6_ok (by decide +kernel) (by decide +kernel) (by decide +kernel) rfl (fun j hj => by rcases (show j = 0 by omega) with rfl <;> rfl) (by exact Nat.le_of_ble_eq_true rfl) (by exact Nat.le_of_ble_eq_true rfl) dX9_init_5 (fun q_5 H hn_q_5 S => ?_)
  obtain ⟨f_5, ef_5⟩ : ∃ z9 : Wd, z9 = wu f q_5 1 (.inr (7, [.null])) := ⟨_, rfl⟩
  rw [← ef_5] at S
  have hx_5 : f_5 x = some (0, .inr (9, [.null, .null, .null, .null, .null, .int 0])) := by rw [ef_5]; exact wu_new hn_q_5 hx
  have hNq5 : f_5 q_5 = some (1, .inr (7, [.null])) := by rw [ef_5]; exact wu_self _ _ _ _
  have hz_q_5 := mdx_none mx0 hn_q_5
  have mx_new_5 : mdx x f f_5 := by rw [ef_5]; exact mdx_new mx0 hn_q_5
  refine lv_dup X.1 X.2.1 dX9_init_8 rfl ?_
  refine lv_bipush (v := 16) X.1 X.2.1 dX9_init_9 (by decide) ?_
  refine r_newI (N' := 16) X S 2 (by decide) (by decide +kernel) (by decide) (by decide) (by decide) (by exact Nat.le_of_ble_eq_true rfl) (by exact Nat.le_of_ble_eq_true rfl) dX9_init_11 (fun q_11 H hn_q_11 S => ?_)
  obtain ⟨f_11, ef_11⟩ : ∃ z9 : Wd, z9 = wu f_5 q_11 2 (eI G 16 (fun _ => 0)) := ⟨_, rfl⟩
  rw [← ef_11] at S
  have hx_11 : f_11 x = some (0, .inr (9, [.null, .null, .null, .null, .null, .int 0])) := by rw [ef_11]; exact wu_new hn_q_11 hx_5
  have hNq5_11 : f_11 q_5 = some (1, .inr (7, [.null])) := by rw [ef_11]; exact wu_new hn_q_11 hNq5
  have hNq11 : f_11 q_11 = some (2, eI G 16 (fun _ => 0)) := by rw [ef_11]; exact wu_self _ _ _ _
  have hz_q_11 := mdx_none mx_new_5 hn_q_11
  have mx_new_11 : mdx x f f_11 := by rw [ef_11]; exact mdx_new mx_new_5 hn_q_11
  refine call_v (run_I X S (m_Ground l G f_11 q_5 1 q_11 hNq5_11 (by decide)) 1 gX9_init_X6_init rfl rfl rfl (by decide +kernel) (by decide +kernel) (by decide +kernel) rfl (by decide +kernel) ⟨(by exact Nat.le_of_ble_eq_true rfl), (by exact Nat.le_of_ble_eq_true rfl)⟩ rfl hl.1 rfl (by exact Nat.le_of_ble_eq_true rfl) dX9_init_13 ⟨(by exact Nat.le_of_ble_eq_true rfl), (by exact Nat.le_of_ble_eq_true rfl)⟩) S (fun f_13 H locs hr_13 S => ?_)
  have hx_13 : f_13 x = some (0, .inr (9, [.null, .null, .null, .null, .null, .int 0])) := by rw [hr_13]; exact wu_get hNq5_11 hx_11 (by decide)
  have hNq5_13 : f_13 q_5 = some (1, .inr (7, [.ref q_11])) := by rw [hr_13]; exact wu_self _ _ _ _
  have hNq11_13 : f_13 q_11 = some (2, eI G 16 (fun _ => 0)) := by rw [hr_13]; exact wu_get hNq5_11 hNq11 (by decide)
  have mx_set_13 : mdx x f f_13 := by rw [hr_13]; exact mdx_put mx_new_11 hz_q_5
  refine r_putF (C := RX9) (T := TX9) (N := 6) (ref := "Craterclock") (fs' := [.ref q_5, .null, .null, .null, .null, .int 0]) (ty := .object "Craterclock$Ground") X S in_RX9 tyX9 tyX9_ok nmX9 hx_13 (by decide) rfl 0 (by decide) (by decide +kernel) (fun _ h => h) rfl hnm rfl (by decide +kernel) rfl rfl (Nat.le_of_ble_eq_true rfl) rfl dX9_init_16 (fun H locs S => ?_)
  obtain ⟨f_16, ef_16⟩ : ∃ z9 : Wd, z9 = wu f_13 x 0 (.inr (9, [.ref q_5, .null, .null, .null, .null, .int 0])) := ⟨_, rfl⟩
  rw [← ef_16] at S
  have hx_16 : f_16 x = some (0, .inr (9, [.ref q_5, .null, .null, .null, .null, .int 0])) := by rw [ef_16]; exact wu_self _ _ _ _
  have hNq5_16 : f_16 q_5 = some (1, .inr (7, [.ref q_11])) := by rw [ef_16]; exact wu_get hx_13 hNq5_13 (by decide)
  have hNq11_16 : f_16 q_11 = some (2, eI G 16 (fun _ => 0)) := by rw [ef_16]; exact wu_get hx_13 hNq11_13 (by decide)
  have mx_set_16 : mdx x f f_16 := by rw [ef_16]; exact mdx_putx mx_set_13
  refine lv_aload_n X.1 X.2.1 dX9_init_19 rfl (lv_at hl 0 rfl) ?_
  refine r_new (C := RJx4a65c) (T := TJx4a65c) (N := 3) (ci := 0) (fs := [.int 0, .null, .int 0]) X S 3 (by decide) in_RJx4a65c tyJx4a65c tyJx4a65c_ok (by decide +kernel) (by decide +kernel) (by decide +kernel) rfl (fun j hj => by rcases (show j = 0 ∨ j = 1 ∨ j = 2 by omega) with rfl | rfl | rfl <;> rfl) (by exact Nat.le_of_ble_eq_true rfl) (by exact Nat.le_of_ble_eq_true rfl) dX9_init_20 (fun q_20 H hn_q_20 S => ?_)
  obtain ⟨f_20, ef_20⟩ : ∃ z9 : Wd, z9 = wu f_16 q_20 3 (.inr (0, [.int 0, .null, .int 0])) := ⟨_, rfl⟩
  rw [← ef_20] at S
  have hx_20 : f_20 x = some (0, .inr (9, [.ref q_5, .null, .null, .null, .null, .int 0])) := by rw [ef_20]; exact wu_new hn_q_20 hx_16
  have hNq5_20 : f_20 q_5 = some (1, .inr (7, [.ref q_11])) := by rw [ef_20]; exact wu_new hn_q_20 hNq5_16
  have hNq11_20 : f_20 q_11 = some (2, eI G 16 (fun _ => 0)) := by rw [ef_20]; exact wu_new hn_q_20 hNq11_16
  have hNq20 : f_20 q_20 = some (3, .inr (0, [.int 0, .null, .int 0])) := by rw [ef_20]; exact wu_self _ _ _ _
  have hz_q_20 := mdx_none mx_set_16 hn_q_20
  have mx_new_20 : mdx x f f_20 := by rw [ef_20]; exact mdx_new mx_set_16 hn_q_20
  refine lv_dup X.1 X.2.1 dX9_init_23 rfl ?_
  refine call_v (run_I X S (m_Linit l G f_20 q_20 3 (by decide) hNq20) 0 gX9_init_Jx4a65c_init_da8c8 rfl rfl rfl (by decide +kernel) (by decide +kernel) (by decide +kernel) rfl (by decide +kernel) ⟨(by exact Nat.le_of_ble_eq_true rfl), (by exact Nat.le_of_ble_eq_true rfl)⟩ rfl hl.1 rfl (by exact Nat.le_of_ble_eq_true rfl) dX9_init_24 ⟨(by exact Nat.le_of_ble_eq_true rfl), (by exact Nat.le_of_ble_eq_true rfl)⟩) S (fun f_24 H locs hr_24 S => ?_)
  have hx_24 : f_24 x = some (0, .inr (9, [.ref q_5, .null, .null, .null, .null, .int 0])) := by rw [hr_24]; exact wu_get hNq20 hx_20 (by decide)
  have hNq5_24 : f_24 q_5 = some (1, .inr (7, [.ref q_11])) := by rw [hr_24]; exact wu_get hNq20 hNq5_20 (by decide)
  have hNq11_24 : f_24 q_11 = some (2, eI G 16 (fun _ => 0)) := by rw [hr_24]; exact wu_get hNq20 hNq11_20 (by decide)
  have hNq20_24 : f_24 q_20 = some (3, .inr (0, [.int 0, .ref (gd G), .int 0])) := by rw [hr_24]; exact wu_self _ _ _ _
  have mx_set_24 : mdx x f f_24 := by rw [hr_24]; exact mdx_put mx_new_20 hz_q_20
  refine r_putF (C := RX9) (T := TX9) (N := 6) (ref := "Craterclock") (fs' := [.ref q_5, .ref q_20, .null, .null, .null, .int 0]) (ty := .object "java/util/ArrayList") X S in_RX9 tyX9 tyX9_ok nmX9 hx_24 (by decide) rfl 1 (by decide) (by decide +kernel) (fun _ h => h) rfl hnm rfl (by decide +kernel) rfl rfl (Nat.le_of_ble_eq_true rfl) rfl dX9_init_27 (fun H locs S => ?_)
  obtain ⟨f_27, ef_27⟩ : ∃ z9 : Wd, z9 = wu f_24 x 0 (.inr (9, [.ref q_5, .ref q_20, .null, .null, .null, .int 0])) := ⟨_, rfl⟩
  rw [← ef_27] at S
  have hx_27 : f_27 x = some (0, .inr (9, [.ref q_5, .ref q_20, .null, .null, .null, .int 0])) := by rw [ef_27]; exact wu_self _ _ _ _
  have hNq5_27 : f_27 q_5 = some (1, .inr (7, [.ref q_11])) := by rw [ef_27]; exact wu_get hx_24 hNq5_24 (by decide)
  have hNq11_27 : f_27 q_11 = some (2, eI G 16 (fun _ => 0)) := by rw [ef_27]; exact wu_get hx_24 hNq11_24 (by decide)
  have hNq20_27 : f_27 q_20 = some (3, .inr (0, [.int 0, .ref (gd G), .int 0])) := by rw [ef_27]; exact wu_get hx_24 hNq20_24 (by decide)
  have mx_set_27 : mdx x f f_27 := by rw [ef_27]; exact mdx_putx mx_set_24
  refine lv_aload_n X.1 X.2.1 dX9_init_30 rfl (lv_at hl 0 rfl) ?_
  refine r_new (C := RJx4a65c) (T := TJx4a65c) (N := 3) (ci := 0) (fs := [.int 0, .null, .int 0]) X S 4 (by decide) in_RJx4a65c tyJx4a65c tyJx4a65c_ok (by decide +kernel) (by decide +kernel) (by decide +kernel) rfl (fun j hj => by rcases (show j = 0 ∨ j = 1 ∨ j = 2 by omega) with rfl | rfl | rfl <;> rfl) (by exact Nat.le_of_ble_eq_true rfl) (by exact Nat.le_of_ble_eq_true rfl) dX9_init_31 (fun q_31 H hn_q_31 S => ?_)
  obtain ⟨f_31, ef_31⟩ : ∃ z9 : Wd, z9 = wu f_27 q_31 4 (.inr (0, [.int 0, .null, .int 0])) := ⟨_, rfl⟩
  rw [← ef_31] at S
  have hx_31 : f_31 x = some (0, .inr (9, [.ref q_5, .ref q_20, .null, .null, .null, .int 0])) := by rw [ef_31]; exact wu_new hn_q_31 hx_27
  have hNq5_31 : f_31 q_5 = some (1, .inr (7, [.ref q_11])) := by rw [ef_31]; exact wu_new hn_q_31 hNq5_27
  have hNq11_31 : f_31 q_11 = some (2, eI G 16 (fun _ => 0)) := by rw [ef_31]; exact wu_new hn_q_31 hNq11_27
  have hNq20_31 : f_31 q_20 = some (3, .inr (0, [.int 0, .ref (gd G), .int 0])) := by rw [ef_31]; exact wu_new hn_q_31 hNq20_27
  have hNq31 : f_31 q_31 = some (4, .inr (0, [.int 0, .null, .int 0])) := by rw [ef_31]; exact wu_self _ _ _ _
  have hz_q_31 := mdx_none mx_set_27 hn_q_31
  have mx_new_31 : mdx x f f_31 := by rw [ef_31]; exact mdx_new mx_set_27 hn_q_31
  refine lv_dup X.1 X.2.1 dX9_init_34 rfl ?_
  refine call_v (run_I X S (m_Linit l G f_31 q_31 4 (by decide) hNq31) 0 gX9_init_Jx4a65c_init_da8c8 rfl rfl rfl (by decide +kernel) (by decide +kernel) (by decide +kernel) rfl (by decide +kernel) ⟨(by exact Nat.le_of_ble_eq_true rfl), (by exact Nat.le_of_ble_eq_true rfl)⟩ rfl hl.1 rfl (by exact Nat.le_of_ble_eq_true rfl) dX9_init_35 ⟨(by exact Nat.le_of_ble_eq_true rfl), (by exact Nat.le_of_ble_eq_true rfl)⟩) S (fun f_35 H locs hr_35 S => ?_)
  have hx_35 : f_35 x = some (0, .inr (9, [.ref q_5, .ref q_20, .null, .null, .null, .int 0])) := by rw [hr_35]; exact wu_get hNq31 hx_31 (by decide)
  have hNq5_35 : f_35 q_5 = some (1, .inr (7, [.ref q_11])) := by rw [hr_35]; exact wu_get hNq31 hNq5_31 (by decide)
  have hNq11_35 : f_35 q_11 = some (2, eI G 16 (fun _ => 0)) := by rw [hr_35]; exact wu_get hNq31 hNq11_31 (by decide)
  have hNq20_35 : f_35 q_20 = some (3, .inr (0, [.int 0, .ref (gd G), .int 0])) := by rw [hr_35]; exact wu_get hNq31 hNq20_31 (by decide)
  have hNq31_35 : f_35 q_31 = some (4, .inr (0, [.int 0, .ref (gd G), .int 0])) := by rw [hr_35]; exact wu_self _ _ _ _
  have mx_set_35 : mdx x f f_35 := by rw [hr_35]; exact mdx_put mx_new_31 hz_q_31
  refine r_putF (C := RX9) (T := TX9) (N := 6) (ref := "Craterclock") (fs' := [.ref q_5, .ref q_20, .ref q_31, .null, .null, .int 0]) (ty := .object "java/util/ArrayList") X S in_RX9 tyX9 tyX9_ok nmX9 hx_35 (by decide) rfl 2 (by decide) (by decide +kernel) (fun _ h => h) rfl hnm rfl (by decide +kernel) rfl rfl (Nat.le_of_ble_eq_true rfl) rfl dX9_init_38 (fun H locs S => ?_)
  obtain ⟨f_38, ef_38⟩ : ∃ z9 : Wd, z9 = wu f_35 x 0 (.inr (9, [.ref q_5, .ref q_20, .ref q_31, .null, .null, .int 0])) := ⟨_, rfl⟩
  rw [← ef_38] at S
  have hx_38 : f_38 x = some (0, .inr (9, [.ref q_5, .ref q_20, .ref q_31, .null, .null, .int 0])) := by rw [ef_38]; exact wu_self _ _ _ _
  have hNq5_38 : f_38 q_5 = some (1, .inr (7, [.ref q_11])) := by rw [ef_38]; exact wu_get hx_35 hNq5_35 (by decide)
  have hNq11_38 : f_38 q_11 = some (2, eI G 16 (fun _ => 0)) := by rw [ef_38]; exact wu_get hx_35 hNq11_35 (by decide)
  have hNq20_38 : f_38 q_20 = some (3, .inr (0, [.int 0, .ref (gd G), .int 0])) := by rw [ef_38]; exact wu_get hx_35 hNq20_35 (by decide)
  have hNq31_38 : f_38 q_31 = some (4, .inr (0, [.int 0, .ref (gd G), .int 0])) := by rw [ef_38]; exact wu_get hx_35 hNq31_35 (by decide)
  have mx_set_38 : mdx x f f_38 := by rw [ef_38]; exact mdx_putx mx_set_35
  refine lv_aload_n X.1 X.2.1 dX9_init_41 rfl (lv_at hl 0 rfl) ?_
  refine r_new (C := RJx4a65c) (T := TJx4a65c) (N := 3) (ci := 0) (fs := [.int 0, .null, .int 0]) X S 5 (by decide) in_RJx4a65c tyJx4a65c tyJx4a65c_ok (by decide +kernel) (by decide +kernel) (by decide +kernel) rfl (fun j hj => by rcases (show j = 0 ∨ j = 1 ∨ j = 2 by omega) with rfl | rfl | rfl <;> rfl) (by exact Nat.le_of_ble_eq_true rfl) (by exact Nat.le_of_ble_eq_true rfl) dX9_init_42 (fun q_42 H hn_q_42 S => ?_)
  obtain ⟨f_42, ef_42⟩ : ∃ z9 : Wd, z9 = wu f_38 q_42 5 (.inr (0, [.int 0, .null, .int 0])) := ⟨_, rfl⟩
  rw [← ef_42] at S
  have hx_42 : f_42 x = some (0, .inr (9, [.ref q_5, .ref q_20, .ref q_31, .null, .null, .int 0])) := by rw [ef_42]; exact wu_new hn_q_42 hx_38
  have hNq5_42 : f_42 q_5 = some (1, .inr (7, [.ref q_11])) := by rw [ef_42]; exact wu_new hn_q_42 hNq5_38
  have hNq11_42 : f_42 q_11 = some (2, eI G 16 (fun _ => 0)) := by rw [ef_42]; exact wu_new hn_q_42 hNq11_38
  have hNq20_42 : f_42 q_20 = some (3, .inr (0, [.int 0, .ref (gd G), .int 0])) := by rw [ef_42]; exact wu_new hn_q_42 hNq20_38
  have hNq31_42 : f_42 q_31 = some (4, .inr (0, [.int 0, .ref (gd G), .int 0])) := by rw [ef_42]; exact wu_new hn_q_42 hNq31_38
  have hNq42 : f_42 q_42 = some (5, .inr (0, [.int 0, .null, .int 0])) := by rw [ef_42]; exact wu_self _ _ _ _
  have hz_q_42 := mdx_none mx_set_38 hn_q_42
  have mx_new_42 : mdx x f f_42 := by rw [ef_42]; exact mdx_new mx_set_38 hn_q_42
  refine lv_dup X.1 X.2.1 dX9_init_45 rfl ?_
  refine call_v (run_I X S (m_Linit l G f_42 q_42 5 (by decide) hNq42) 0 gX9_init_Jx4a65c_init_da8c8 rfl rfl rfl (by decide +kernel) (by decide +kernel) (by decide +kernel) rfl (by decide +kernel) ⟨(by exact Nat.le_of_ble_eq_true rfl), (by exact Nat.le_of_ble_eq_true rfl)⟩ rfl hl.1 rfl (by exact Nat.le_of_ble_eq_true rfl) dX9_init_46 ⟨(by exact Nat.le_of_ble_eq_true rfl), (by exact Nat.le_of_ble_eq_true rfl)⟩) S (fun f_46 H locs hr_46 S => ?_)
  have hx_46 : f_46 x = some (0, .inr (9, [.ref q_5, .ref q_20, .ref q_31, .null, .null, .int 0])) := by rw [hr_46]; exact wu_get hNq42 hx_42 (by decide)
  have hNq5_46 : f_46 q_5 = some (1, .inr (7, [.ref q_11])) := by rw [hr_46]; exact wu_get hNq42 hNq5_42 (by decide)
  have hNq11_46 : f_46 q_11 = some (2, eI G 16 (fun _ => 0)) := by rw [hr_46]; exact wu_get hNq42 hNq11_42 (by decide)
  have hNq20_46 : f_46 q_20 = some (3, .inr (0, [.int 0, .ref (gd G), .int 0])) := by rw [hr_46]; exact wu_get hNq42 hNq20_42 (by decide)
  have hNq31_46 : f_46 q_31 = some (4, .inr (0, [.int 0, .ref (gd G), .int 0])) := by rw [hr_46]; exact wu_get hNq42 hNq31_42 (by decide)
  have hNq42_46 : f_46 q_42 = some (5, .inr (0, [.int 0, .ref (gd G), .int 0])) := by rw [hr_46]; exact wu_self _ _ _ _
  have mx_set_46 : mdx x f f_46 := by rw [hr_46]; exact mdx_put mx_new_42 hz_q_42
  refine r_putF (C := RX9) (T := TX9) (N := 6) (ref := "Craterclock") (fs' := [.ref q_5, .ref q_20, .ref q_31, .ref q_42, .null, .int 0]) (ty := .object "java/util/ArrayList") X S in_RX9 tyX9 tyX9_ok nmX9 hx_46 (by decide) rfl 3 (by decide) (by decide +kernel) (fun _ h => h) rfl hnm rfl (by decide +kernel) rfl rfl (Nat.le_of_ble_eq_true rfl) rfl dX9_init_49 (fun H locs S => ?_)
  obtain ⟨f_49, ef_49⟩ : ∃ z9 : Wd, z9 = wu f_46 x 0 (.inr (9, [.ref q_5, .ref q_20, .ref q_31, .ref q_42, .null, .int 0])) := ⟨_, rfl⟩
  rw [← ef_49] at S
  have hx_49 : f_49 x = some (0, .inr (9, [.ref q_5, .ref q_20, .ref q_31, .ref q_42, .null, .int 0])) := by rw [ef_49]; exact wu_self _ _ _ _
  have hNq5_49 : f_49 q_5 = some (1, .inr (7, [.ref q_11])) := by rw [ef_49]; exact wu_get hx_46 hNq5_46 (by decide)
  have hNq11_49 : f_49 q_11 = some (2, eI G 16 (fun _ => 0)) := by rw [ef_49]; exact wu_get hx_46 hNq11_46 (by decide)
  have hNq20_49 : f_49 q_20 = some (3, .inr (0, [.int 0, .ref (gd G), .int 0])) := by rw [ef_49]; exact wu_get hx_46 hNq20_46 (by decide)
  have hNq31_49 : f_49 q_31 = some (4, .inr (0, [.int 0, .ref (gd G), .int 0])) := by rw [ef_49]; exact wu_get hx_46 hNq31_46 (by decide)
  have hNq42_49 : f_49 q_42 = some (5, .inr (0, [.int 0, .ref (gd G), .int 0])) := by rw [ef_49]; exact wu_get hx_46 hNq42_46 (by decide)
  have mx_set_49 : mdx x f f_49 := by rw [ef_49]; exact mdx_putx mx_set_46
  refine lv_aload_n X.1 X.2.1 dX9_init_52 rfl (lv_at hl 0 rfl) ?_
  refine r_new (C := RX2) (T := TX2) (N := 1) (ci := 3) (fs := [.null]) X S 6 (by decide) in_RX2 tyX2 tyX2_ok (by decide +kernel) (by decide +kernel) (by decide +kernel) rfl (fun j hj => by rcases (show j = 0 by omega) with rfl <;> rfl) (by exact Nat.le_of_ble_eq_true rfl) (by exact Nat.le_of_ble_eq_true rfl) dX9_init_53 (fun q_53 H hn_q_53 S => ?_)
  obtain ⟨f_53, ef_53⟩ : ∃ z9 : Wd, z9 = wu f_49 q_53 6 (.inr (3, [.null])) := ⟨_, rfl⟩
  rw [← ef_53] at S
  have hx_53 : f_53 x = some (0, .inr (9, [.ref q_5, .ref q_20, .ref q_31, .ref q_42, .null, .int 0])) := by rw [ef_53]; exact wu_new hn_q_53 hx_49
  have hNq5_53 : f_53 q_5 = some (1, .inr (7, [.ref q_11])) := by rw [ef_53]; exact wu_new hn_q_53 hNq5_49
  have hNq11_53 : f_53 q_11 = some (2, eI G 16 (fun _ => 0)) := by rw [ef_53]; exact wu_new hn_q_53 hNq11_49
  have hNq20_53 : f_53 q_20 = some (3, .inr (0, [.int 0, .ref (gd G), .int 0])) := by rw [ef_53]; exact wu_new hn_q_53 hNq20_49
  have hNq31_53 : f_53 q_31 = some (4, .inr (0, [.int 0, .ref (gd G), .int 0])) := by rw [ef_53]; exact wu_new hn_q_53 hNq31_49
  have hNq42_53 : f_53 q_42 = some (5, .inr (0, [.int 0, .ref (gd G), .int 0])) := by rw [ef_53]; exact wu_new hn_q_53 hNq42_49
  have hNq53 : f_53 q_53 = some (6, .inr (3, [.null])) := by rw [ef_53]; exact wu_self _ _ _ _
  have hz_q_53 := mdx_none mx_set_49 hn_q_53
  have mx_new_53 : mdx x f f_53 := by rw [ef_53]; exact mdx_new mx_set_49 hn_q_53
  refine lv_dup X.1 X.2.1 dX9_init_56 rfl ?_
  refine call_v (run_I X S (m_Curve l G f_53 q_53 hNq53) 0 gX9_init_X2_init rfl rfl rfl (by decide +kernel) (by decide +kernel) (by decide +kernel) rfl (by decide +kernel) ⟨(by exact Nat.le_of_ble_eq_true rfl), (by exact Nat.le_of_ble_eq_true rfl)⟩ rfl hl.1 rfl (by exact Nat.le_of_ble_eq_true rfl) dX9_init_57 ⟨(by exact Nat.le_of_ble_eq_true rfl), (by exact Nat.le_of_ble_eq_true rfl)⟩) S (fun f_57 H locs hr_57 S => ?_)
  obtain ⟨L4, hn4, e57⟩ := hr_57
  obtain ⟨f_57a, e57a⟩ : ∃ z9 : Wd, z9 = wu f_53 L4 7 (.inr (0, [.int 0, .ref (gd G), .int 0])) := ⟨_, rfl⟩
  rw [← e57a] at e57
  have hx_56 : f_57a x = some (0, .inr (9, [.ref q_5, .ref q_20, .ref q_31, .ref q_42, .null, .int 0])) := by rw [e57a]; exact wu_new hn4 hx_53
  have hNq5_56 : f_57a q_5 = some (1, .inr (7, [.ref q_11])) := by rw [e57a]; exact wu_new hn4 hNq5_53
  have hNq11_56 : f_57a q_11 = some (2, eI G 16 (fun _ => 0)) := by rw [e57a]; exact wu_new hn4 hNq11_53
  have hNq20_56 : f_57a q_20 = some (3, .inr (0, [.int 0, .ref (gd G), .int 0])) := by rw [e57a]; exact wu_new hn4 hNq20_53
  have hNq31_56 : f_57a q_31 = some (4, .inr (0, [.int 0, .ref (gd G), .int 0])) := by rw [e57a]; exact wu_new hn4 hNq31_53
  have hNq42_56 : f_57a q_42 = some (5, .inr (0, [.int 0, .ref (gd G), .int 0])) := by rw [e57a]; exact wu_new hn4 hNq42_53
  have hNq53_56 : f_57a q_53 = some (6, .inr (3, [.null])) := by rw [e57a]; exact wu_new hn4 hNq53
  have hL4_56 : f_57a L4 = some (7, .inr (0, [.int 0, .ref (gd G), .int 0])) := by rw [e57a]; exact wu_self _ _ _ _
  have mx_57a : mdx x f f_57a := by rw [e57a]; exact mdx_new mx_new_53 hn4
  have hx_57 : f_57 x = some (0, .inr (9, [.ref q_5, .ref q_20, .ref q_31, .ref q_42, .null, .int 0])) := by rw [e57]; exact wu_get hNq53_56 hx_56 (by decide)
  have hNq5_57 : f_57 q_5 = some (1, .inr (7, [.ref q_11])) := by rw [e57]; exact wu_get hNq53_56 hNq5_56 (by decide)
  have hNq11_57 : f_57 q_11 = some (2, eI G 16 (fun _ => 0)) := by rw [e57]; exact wu_get hNq53_56 hNq11_56 (by decide)
  have hNq20_57 : f_57 q_20 = some (3, .inr (0, [.int 0, .ref (gd G), .int 0])) := by rw [e57]; exact wu_get hNq53_56 hNq20_56 (by decide)
  have hNq31_57 : f_57 q_31 = some (4, .inr (0, [.int 0, .ref (gd G), .int 0])) := by rw [e57]; exact wu_get hNq53_56 hNq31_56 (by decide)
  have hNq42_57 : f_57 q_42 = some (5, .inr (0, [.int 0, .ref (gd G), .int 0])) := by rw [e57]; exact wu_get hNq53_56 hNq42_56 (by decide)
  have hNq53_57 : f_57 q_53 = some (6, .inr (3, [.ref L4])) := by rw [e57]; exact wu_self _ _ _ _
  have hL4_57 : f_57 L4 = some (7, .inr (0, [.int 0, .ref (gd G), .int 0])) := by rw [e57]; exact wu_get hNq53_56 hL4_56 (by decide)
  have mx_set_57 : mdx x f f_57 := by rw [e57]; exact mdx_put mx_57a hz_q_53
  refine r_putF (C := RX9) (T := TX9) (N := 6) (ref := "Craterclock") (fs' := [.ref q_5, .ref q_20, .ref q_31, .ref q_42, .ref q_53, .int 0]) (ty := .object "Craterclock$Curve") X S in_RX9 tyX9 tyX9_ok nmX9 hx_57 (by decide) rfl 4 (by decide) (by decide +kernel) (fun _ h => h) rfl hnm rfl (by decide +kernel) rfl rfl (Nat.le_of_ble_eq_true rfl) rfl dX9_init_60 (fun H locs S => ?_)
  obtain ⟨f_60, ef_60⟩ : ∃ z9 : Wd, z9 = wu f_57 x 0 (.inr (9, [.ref q_5, .ref q_20, .ref q_31, .ref q_42, .ref q_53, .int 0])) := ⟨_, rfl⟩
  rw [← ef_60] at S
  have hx_60 : f_60 x = some (0, .inr (9, [.ref q_5, .ref q_20, .ref q_31, .ref q_42, .ref q_53, .int 0])) := by rw [ef_60]; exact wu_self _ _ _ _
  have hNq5_60 : f_60 q_5 = some (1, .inr (7, [.ref q_11])) := by rw [ef_60]; exact wu_get hx_57 hNq5_57 (by decide)
  have hNq11_60 : f_60 q_11 = some (2, eI G 16 (fun _ => 0)) := by rw [ef_60]; exact wu_get hx_57 hNq11_57 (by decide)
  have hNq20_60 : f_60 q_20 = some (3, .inr (0, [.int 0, .ref (gd G), .int 0])) := by rw [ef_60]; exact wu_get hx_57 hNq20_57 (by decide)
  have hNq31_60 : f_60 q_31 = some (4, .inr (0, [.int 0, .ref (gd G), .int 0])) := by rw [ef_60]; exact wu_get hx_57 hNq31_57 (by decide)
  have hNq42_60 : f_60 q_42 = some (5, .inr (0, [.int 0, .ref (gd G), .int 0])) := by rw [ef_60]; exact wu_get hx_57 hNq42_57 (by decide)
  have hNq53_60 : f_60 q_53 = some (6, .inr (3, [.ref L4])) := by rw [ef_60]; exact wu_get hx_57 hNq53_57 (by decide)
  have hL4_60 : f_60 L4 = some (7, .inr (0, [.int 0, .ref (gd G), .int 0])) := by rw [ef_60]; exact wu_get hx_57 hL4_57 (by decide)
  have mx_set_60 : mdx x f f_60 := by rw [ef_60]; exact mdx_putx mx_set_57
  refine lv_aload_n X.1 X.2.1 dX9_init_63 rfl (lv_at hl 0 rfl) ?_
  refine lv_iconst (v := 1) X.1 X.2.1 dX9_init_64 (by decide) ?_
  refine r_put (C := RX9) (T := TX9) (N := 6) (ref := "Craterclock") (fs' := [.ref q_5, .ref q_20, .ref q_31, .ref q_42, .ref q_53, .int 1]) (ty := .int) X S in_RX9 tyX9 tyX9_ok nmX9 hx_60 (by decide) rfl 5 (by decide) (by decide +kernel) (fun _ h => h) rfl (by decide +kernel) rfl rfl (Nat.le_of_ble_eq_true rfl) rfl dX9_init_65 (fun H locs S => ?_)
  obtain ⟨f_65, ef_65⟩ : ∃ z9 : Wd, z9 = wu f_60 x 0 (.inr (9, [.ref q_5, .ref q_20, .ref q_31, .ref q_42, .ref q_53, .int 1])) := ⟨_, rfl⟩
  rw [← ef_65] at S
  have hx_65 : f_65 x = some (0, .inr (9, [.ref q_5, .ref q_20, .ref q_31, .ref q_42, .ref q_53, .int 1])) := by rw [ef_65]; exact wu_self _ _ _ _
  have hNq5_65 : f_65 q_5 = some (1, .inr (7, [.ref q_11])) := by rw [ef_65]; exact wu_get hx_60 hNq5_60 (by decide)
  have hNq11_65 : f_65 q_11 = some (2, eI G 16 (fun _ => 0)) := by rw [ef_65]; exact wu_get hx_60 hNq11_60 (by decide)
  have hNq20_65 : f_65 q_20 = some (3, .inr (0, [.int 0, .ref (gd G), .int 0])) := by rw [ef_65]; exact wu_get hx_60 hNq20_60 (by decide)
  have hNq31_65 : f_65 q_31 = some (4, .inr (0, [.int 0, .ref (gd G), .int 0])) := by rw [ef_65]; exact wu_get hx_60 hNq31_60 (by decide)
  have hNq42_65 : f_65 q_42 = some (5, .inr (0, [.int 0, .ref (gd G), .int 0])) := by rw [ef_65]; exact wu_get hx_60 hNq42_60 (by decide)
  have hNq53_65 : f_65 q_53 = some (6, .inr (3, [.ref L4])) := by rw [ef_65]; exact wu_get hx_60 hNq53_60 (by decide)
  have hL4_65 : f_65 L4 = some (7, .inr (0, [.int 0, .ref (gd G), .int 0])) := by rw [ef_65]; exact wu_get hx_60 hL4_60 (by decide)
  have mx_set_65 : mdx x f f_65 := by rw [ef_65]; exact mdx_putx mx_set_60
  refine e_v X hr S (Nat.le_of_ble_eq_true rfl) (Nat.le_of_ble_eq_true rfl) dX9_init_68 ?_
  refine ⟨⟨q_5, q_11, q_20, q_31, q_42, q_53, L4, fun _ => 0, fun _ => 0, fun _ => 0, fun _ => 0, fun _ => 0, hx_65, hNq5_65, hNq11_65, grd_0, empty_L hNq20_65, fun k hk => absurd hk (Nat.not_lt_zero k), empty_L hNq31_65, fun k hk => absurd hk (Nat.not_lt_zero k), empty_L hNq42_65, fun k hk => absurd hk (Nat.not_lt_zero k), hNq53_65, empty_L hL4_65, fun k hk => absurd hk (Nat.not_lt_zero k)⟩, ?_⟩
  exact fun b t e hb ht => mx_set_65.1 b _ hb (fun z => ht (by rw [z, hx] at hb; cases hb; rfl))
