/-! the other steps of the state, and how the class's cells hold them -/
def nN (x : Int32) : Nat := x.toInt.toNat
def nL (x : Int64) : Nat := x.toInt.toNat
theorem nN_nI {a : Nat} (h : a < 2 ^ 31) : nN (nI a) = a := by unfold nN; rw [i_n h]; omega
theorem nL_lN {a : Nat} (h : a < 2 ^ 63) : nL (lN a) = a := by unfold nL; rw [pk_lT h]; omega
theorem inI_sub {x : Int32} {a b : Int} (h : inI x a b) (h0 : 0 ≤ a) : ∃ j : Nat, x = nI j ∧ a ≤ j ∧ (j : Int) ≤ b ∧ j < 2 ^ 31 := by
  obtain ⟨j, e1, e2, e3⟩ := inI_nat (x := x) (b := b) ⟨by have := h.1; omega, h.2⟩
  refine ⟨j, e1, by have := h.1; omega, e2, ?_⟩
  have := Int32.toInt_lt x
  omega
theorem lN_sub2 {x : Int64} {a b : Int} (h1 : a ≤ x.toInt) (h2 : x.toInt ≤ b) (h0 : 0 ≤ a) : ∃ j : Nat, x = lN j ∧ a ≤ j ∧ (j : Int) ≤ b ∧ j < 2 ^ 63 := by
  obtain ⟨j, hj, e⟩ := pk_lOf (x := x) (fun z => by rw [l_lt] at z; have : (0 : Int64).toInt = 0 := by decide
                                                    omega)
  refine ⟨j, e, ?_, ?_, hj⟩
  · rw [e, pk_lT hj] at h1; exact h1
  · rw [e, pk_lT hj] at h2; exact h2
theorem rg_i {k : Int32} {a b : Int64} {p q : Int} (ha : a.toInt = p) (hb : b.toInt = q) : (a.toInt ≤ k.toInt64.toInt ∧ k.toInt64.toInt ≤ b.toInt) ↔ inI k p q := by rw [i_wide, ha, hb]; exact Iff.rfl
def nxt (d : Nat) : Nat := (75 * d + 74) % 65537
def rain1 (st : St) : St := fallSt (s_up st 0 4 (nxt (nxt (nxt (st 0 4))))) (nxt (st 0 4) % 16) (nxt (nxt (st 0 4)) % 16) (sizeOf (nxt (nxt (nxt (st 0 4))) % 64))
def rainSt (st : St) : Nat → St
  | 0 => st
  | k + 1 => rain1 (rainSt st k)
def liveP (st : St) (k : Nat) : Bool := decide (0 < st 7 k)
def floodφ (x y tx ty v : Nat) : Nat → Nat := fun c => if x ≤ c % 16 ∧ c % 16 ≤ tx ∧ y ≤ c / 16 ∧ c / 16 ≤ ty then v else 0
def softφ (g : Nat → Nat) (v : Nat) : Nat → Nat := fun c => if g c = 1 then v else if g c = 2 then 2 * v else v / 2
def eyeSt (st : St) (k : Nat) : St := fun A i => if A = 0 ∧ i = 2 then st 0 2 + 1 else if A = 9 ∧ i = st 0 2 then k else st A i
def anchSt (st : St) (u v : Nat) : St := fun A i => if A = 0 ∧ i = 3 then st 0 3 + 1 else if A = 10 ∧ i = st 0 3 then u else if A = 11 ∧ i = st 0 3 then v else st A i
/-- the latest of k < n with p, or -1 -/
def tpI (p : Nat → Bool) : Nat → Int32
  | 0 => -1
  | n + 1 => if p n = true then nI n else tpI p n
def topP (st : St) (x y k : Nat) : Bool := decide (0 < st 7 k ∧ sq x (st 2 k) + sq y (st 3 k) ≤ st 5 k * st 5 k)
theorem nxt_lt (d : Nat) : nxt d < 65537 := Nat.mod_lt _ (by omega)
theorem eye_n (st : St) (k : Nat) : eyeSt st k 0 2 = st 0 2 + 1 := if_pos ⟨rfl, rfl⟩
theorem eye_9 (st : St) (k : Nat) : eyeSt st k 9 (st 0 2) = k := by unfold eyeSt; rw [if_neg (by omega), if_pos ⟨rfl, rfl⟩]
theorem eye_e (st : St) (k : Nat) {A i : Nat} (h : (A = 0 ∧ i ≠ 2) ∨ (1 ≤ A ∧ A ≤ 8) ∨ (A = 9 ∧ i ≠ st 0 2) ∨ 10 ≤ A) : eyeSt st k A i = st A i := by unfold eyeSt; rw [if_neg (by omega), if_neg (by omega)]
theorem anch_n (st : St) (u v : Nat) : anchSt st u v 0 3 = st 0 3 + 1 := if_pos ⟨rfl, rfl⟩
theorem anch_10 (st : St) (u v : Nat) : anchSt st u v 10 (st 0 3) = u := by unfold anchSt; rw [if_neg (by omega), if_pos ⟨rfl, rfl⟩]
theorem anch_11 (st : St) (u v : Nat) : anchSt st u v 11 (st 0 3) = v := by unfold anchSt; rw [if_neg (by omega), if_neg (by omega), if_pos ⟨rfl, rfl⟩]
theorem anch_e (st : St) (u v : Nat) {A i : Nat} (h : (A = 0 ∧ i ≠ 3) ∨ (1 ≤ A ∧ A ≤ 9) ∨ ((A = 10 ∨ A = 11) ∧ i ≠ st 0 3) ∨ 12 ≤ A) : anchSt st u v A i = st A i := by unfold anchSt; rw [if_neg (by omega), if_neg (by omega), if_neg (by omega)]
/-- a state that differs in numbers that the sums don't read -/
theorem sInv_re {st st' : St} (hI : sInv st) (h0 : st' 0 0 = st 0 0) (h1 : st' 0 1 = st 0 1) (hb : st' 0 2 ≤ 6 ∧ st' 0 3 ≤ 8 ∧ st' 0 4 < 65537) (hg : ∀ c, c < 256 → st' 1 c ≤ 2) (he : ∀ A i, (2 ≤ A ∧ A ≤ 8) ∨ 1000 ≤ A → st' A i = st A i)
    (h9 : ∀ i, i < st' 0 2 → 1 ≤ st' 9 i ∧ st' 9 i ≤ 9) (h10 : ∀ i, i < st' 0 3 → 1 ≤ st' 10 i ∧ st' 10 i ≤ 5000000000 ∧ 1 ≤ st' 11 i ∧ st' 11 i ≤ 100000000) (h11 : ∀ i, i + 1 < st' 0 3 → st' 10 i < st' 10 (i + 1) ∧ st' 11 i < st' 11 (i + 1)) : sInv st' := by
  obtain ⟨⟨a1, a2, a3, a4, a5⟩, b, c, d, e, f, g, h⟩ := hI
  refine ⟨⟨by rw [h0]; exact a1, by rw [h1]; exact a2, hb⟩, hg, fun k hk => ?_, fun i hi => ?_, h9, h10, h11, fun k hk => ?_⟩
  · rw [h0] at hk
    have hc := c k hk
    unfold cIn at hc ⊢
    rw [he 2 k (by omega), he 3 k (by omega), he 4 k (by omega), he 5 k (by omega), he 6 k (by omega), he 7 k (by omega)]
    exact hc
  · rw [h1] at hi
    rw [h0, he 8 i (by omega)]
    exact ⟨(d i hi).1, fun q hq => by rw [he _ _ (by omega)]; exact (d i hi).2 q hq⟩
  · rw [h0] at hk
    rw [h0, h1, he 7 k (by omega), he 6 k (by omega)]
    have k1 : lossC st' k (st 0 0) = lossC st k (st 0 0) := sm_cong (fun j _ => by unfold lossK; rw [he 2 k (by omega), he 3 k (by omega), he 5 k (by omega), he 6 k (by omega), he 2 j (by omega), he 3 j (by omega), he 5 j (by omega), he 4 j (by omega)])
    have k2 : lossL st' k (st 0 1) = lossL st k (st 0 1) := sm_cong (fun i _ => by rw [he 8 i (by omega), he (1000 + i) _ (by omega), he 3 k (by omega), he 2 k (by omega)])
    rw [k1, k2]
    exact h k hk
theorem sInv_ground {st : St} (hI : sInv st) {c k : Nat} (hk : k ≤ 2) : sInv (s_up st 1 c k) :=
  sInv_re hI (s_up_ne _ (by omega)) (s_up_ne _ (by omega)) (by rw [s_up_ne _ (by omega), s_up_ne _ (by omega), s_up_ne _ (by omega)]; exact hI.1.2.2) (fun q hq => by unfold s_up; split; exact hk; exact hI.2.1 q hq) (fun A i h => s_up_ne _ (by omega))
    (fun i hi => by rw [s_up_ne _ (by omega)] at hi ⊢; exact hI.2.2.2.2.1 i hi) (fun i hi => by rw [s_up_ne _ (by omega)] at hi; rw [s_up_ne _ (by omega), s_up_ne _ (by omega)]; exact hI.2.2.2.2.2.1 i hi) (fun i hi => by rw [s_up_ne _ (by omega)] at hi; rw [s_up_ne _ (by omega), s_up_ne _ (by omega), s_up_ne _ (by omega), s_up_ne _ (by omega)]; exact hI.2.2.2.2.2.2.1 i hi)
theorem sInv_draw {st : St} (hI : sInv st) {k : Nat} (hk : k < 65537) : sInv (s_up st 0 4 k) :=
  sInv_re hI (s_up_ne _ (by omega)) (s_up_ne _ (by omega)) (by rw [s_up_ne _ (by omega), s_up_ne _ (by omega), s_up_self]; exact ⟨hI.1.2.2.1, hI.1.2.2.2.1, hk⟩) (fun q hq => by rw [s_up_ne _ (by omega)]; exact hI.2.1 q hq) (fun A i h => s_up_ne _ (by omega))
    (fun i hi => by rw [s_up_ne _ (by omega)] at hi ⊢; exact hI.2.2.2.2.1 i hi) (fun i hi => by rw [s_up_ne _ (by omega)] at hi; rw [s_up_ne _ (by omega), s_up_ne _ (by omega)]; exact hI.2.2.2.2.2.1 i hi) (fun i hi => by rw [s_up_ne _ (by omega)] at hi; rw [s_up_ne _ (by omega), s_up_ne _ (by omega), s_up_ne _ (by omega), s_up_ne _ (by omega)]; exact hI.2.2.2.2.2.2.1 i hi)
theorem sInv_eye {st : St} (hI : sInv st) {k : Nat} (h6 : st 0 2 < 6) (h1 : 1 ≤ k) (h9 : k ≤ 9) : sInv (eyeSt st k) :=
  sInv_re hI (eye_e _ _ (by omega)) (eye_e _ _ (by omega)) (by rw [eye_n, eye_e _ _ (by omega), eye_e _ _ (by omega)]; exact ⟨by omega, hI.1.2.2.2⟩) (fun q hq => by rw [eye_e _ _ (by omega)]; exact hI.2.1 q hq) (fun A i h => eye_e _ _ (by omega))
    (fun i hi => by
      rw [eye_n] at hi
      by_cases q : i = st 0 2
      · rw [q, eye_9]; exact ⟨h1, h9⟩
      · rw [eye_e _ _ (by omega)]; exact hI.2.2.2.2.1 i (by omega)) (fun i hi => by rw [eye_e _ _ (by omega)] at hi; rw [eye_e _ _ (by omega), eye_e _ _ (by omega)]; exact hI.2.2.2.2.2.1 i hi) (fun i hi => by rw [eye_e _ _ (by omega)] at hi; rw [eye_e _ _ (by omega), eye_e _ _ (by omega), eye_e _ _ (by omega), eye_e _ _ (by omega)]; exact hI.2.2.2.2.2.2.1 i hi)
def canP (st : St) (u v : Nat) : Prop := st 0 3 = 0 ∨ st 0 3 < 8 ∧ st 10 (st 0 3 - 1) < u ∧ st 11 (st 0 3 - 1) < v
theorem sInv_anch {st : St} (hI : sInv st) {u v : Nat} (hc : canP st u v) (h1 : 1 ≤ u) (h2 : u ≤ 5000000000) (h3 : 1 ≤ v) (h4 : v ≤ 100000000) : sInv (anchSt st u v) :=
  sInv_re hI (anch_e _ _ _ (by omega)) (anch_e _ _ _ (by omega)) (by rw [anch_n, anch_e _ _ _ (by omega), anch_e _ _ _ (by omega)]; unfold canP at hc; exact ⟨hI.1.2.2.1, by omega, hI.1.2.2.2.2⟩) (fun q hq => by rw [anch_e _ _ _ (by omega)]; exact hI.2.1 q hq) (fun A i h => anch_e _ _ _ (by omega))
    (fun i hi => by rw [anch_e _ _ _ (by omega)] at hi ⊢; exact hI.2.2.2.2.1 i hi)
    (fun i hi => by
      rw [anch_n] at hi
      by_cases q : i = st 0 3
      · rw [q, anch_10, anch_11]; exact ⟨h1, h2, h3, h4⟩
      · rw [anch_e _ _ _ (by omega), anch_e _ _ _ (by omega)]; exact hI.2.2.2.2.2.1 i (by omega))
    (fun i hi => by
      rw [anch_n] at hi
      by_cases q : i + 1 = st 0 3
      · rw [q, anch_10, anch_11, anch_e _ _ _ (by omega), anch_e _ _ _ (by omega)]
        unfold canP at hc
        rw [← q, Nat.add_sub_cancel] at hc
        omega
      · rw [anch_e _ _ _ (by omega), anch_e _ _ _ (by omega), anch_e _ _ _ (by omega), anch_e _ _ _ (by omega)]; exact hI.2.2.2.2.2.2.1 i (by omega))
theorem sInv_rain1 {st : St} (hI : sInv st) (hn : st 0 0 < 200) : sInv (rain1 st) :=
  sInv_fall (sInv_draw hI (nxt_lt _)) (by rw [s_up_ne _ (by omega)]; exact hn) (Nat.mod_lt _ (by omega)) (Nat.mod_lt _ (by omega)) (sizeOf_in _).1 (sizeOf_in _).2
theorem rain1_n (st : St) : rain1 st 0 0 = st 0 0 + 1 := by unfold rain1; rw [fall_n, s_up_ne _ (by omega)]
theorem rainSt_n (st : St) : ∀ k, rainSt st k 0 0 = st 0 0 + k
  | 0 => rfl
  | k + 1 => by show rain1 _ 0 0 = _; rw [rain1_n, rainSt_n st k]; omega
theorem sInv_rain {st : St} (hI : sInv st) : ∀ k, st 0 0 + k ≤ 200 → sInv (rainSt st k)
  | 0, _ => hI
  | k + 1, h => sInv_rain1 (sInv_rain hI k (by omega)) (by rw [rainSt_n]; omega)
theorem flood_le {x y tx ty v : Nat} (h : v ≤ 40) : ∀ c, c < 256 → floodφ x y tx ty v c ≤ 80 := fun c _ => by unfold floodφ; split <;> omega
theorem soft_le {g : Nat → Nat} {v : Nat} (h : v ≤ 40) : ∀ c, c < 256 → softφ g v c ≤ 80 := fun c _ => by unfold softφ; split; omega; split <;> omega
theorem sInv_st0 : sInv st0 := by
  refine ⟨⟨by decide, by decide, by decide, by decide, by decide⟩, fun c _ => ?_, fun k hk => absurd hk (Nat.not_lt_zero k), fun k hk => absurd hk (Nat.not_lt_zero k), fun k hk => absurd hk (Nat.not_lt_zero k), fun k hk => absurd hk (Nat.not_lt_zero k), fun k hk => absurd hk (Nat.not_lt_zero (k + 1)), fun k hk => absurd hk (Nat.not_lt_zero k)⟩
  show st0 1 c ≤ 2
  unfold st0
  rw [if_neg (by omega)]
  omega
/-- the class's cells behind a change of one kind -/
theorem RX_ground {G : cx_G} {f : Wd} {st : St} {x gr rw1 L1 L2 L3 cu L4 : Nat} {g1 g2 g3 g4 : Nat → Nat} {w w' : Nat → Int32} {c k : Nat} (h : RXx G f st x gr rw1 L1 L2 L3 cu L4 g1 g2 g3 g4 w) (hg : grd w' (s_up st 1 c k 1)) : RX G (wu f rw1 2 (eI G 16 w')) (s_up st 1 c k) x := by
  obtain ⟨h0, h1, h2, h3, h4, h5, h6, h7, h8, h9, h10, h11, h12⟩ := h
  have hm := md_put (e1 := eI G 16 w') h2
  have e : ∀ A, A ≠ 1 → s_up st 1 c k A = st A := fun A hA => funext fun i => s_up_ne _ (by omega)
  refine ⟨gr, rw1, L1, L2, L3, cu, L4, g1, g2, g3, g4, w', ?_, hm _ _ _ h1 (by omega), wu_self _ _ _ _, hg, ?_, fun j hj => ?_, ?_, fun i hi => ?_, ?_, fun i hi => ?_, hm _ _ _ h10 (by omega), ?_, fun i hi => ?_⟩
  · rw [e 0 (by omega)]; exact hm _ _ _ h0 (by omega)
  · rw [e 0 (by omega)]; exact h4.md hm (by omega)
  · rw [e 0 (by omega)] at hj
    unfold eCs
    rw [e 2 (by omega), e 3 (by omega), e 4 (by omega), e 5 (by omega), e 6 (by omega), e 7 (by omega)]
    exact hm _ _ _ (h5 j hj) (by omega)
  · rw [e 0 (by omega)]; exact h6.md hm (by omega)
  · rw [e 0 (by omega)] at hi
    rw [e 8 (by omega), e (1000 + i) (by omega)]
    exact (h7 i hi).kept (fun b e hb => hm _ _ _ hb (by omega))
  · rw [e 0 (by omega)]; exact h8.md hm (by omega)
  · rw [e 0 (by omega)] at hi
    rw [e 9 (by omega)]
    exact hm _ _ _ (h9 i hi) (by omega)
  · rw [e 0 (by omega)]; exact h11.md hm (by omega)
  · rw [e 0 (by omega)] at hi
    rw [e 10 (by omega), e 11 (by omega)]
    exact hm _ _ _ (h12 i hi) (by omega)
theorem RXx_draw {G : cx_G} {f : Wd} {st : St} {x gr rw1 L1 L2 L3 cu L4 : Nat} {g1 g2 g3 g4 : Nat → Nat} {w : Nat → Int32} {d : Nat} (h : RXx G f st x gr rw1 L1 L2 L3 cu L4 g1 g2 g3 g4 w) : RXx G (wu f x 0 (.inr (9, [.ref gr, .ref L1, .ref L2, .ref L3, .ref cu, .int (nI d)]))) (s_up st 0 4 d) x gr rw1 L1 L2 L3 cu L4 g1 g2 g3 g4 w := by
  obtain ⟨h0, h1, h2, h3, h4, h5, h6, h7, h8, h9, h10, h11, h12⟩ := h
  have hm := md_put (e1 := .inr (9, [.ref gr, .ref L1, .ref L2, .ref L3, .ref cu, .int (nI d)])) h0
  have e : ∀ A, A ≠ 0 → s_up st 0 4 d A = st A := fun A hA => funext fun i => s_up_ne _ (by omega)
  have z : ∀ i, i ≠ 4 → s_up st 0 4 d 0 i = st 0 i := fun i hi => s_up_ne _ (by omega)
  refine ⟨?_, hm _ _ _ h1 (by omega), hm _ _ _ h2 (by omega), ?_, ?_, fun j hj => ?_, ?_, fun i hi => ?_, ?_, fun i hi => ?_, hm _ _ _ h10 (by omega), ?_, fun i hi => ?_⟩
  · rw [s_up_self]; exact wu_self _ _ _ _
  · rw [e 1 (by omega)]; exact h3
  · rw [z 0 (by omega)]; exact h4.md hm (by omega)
  · rw [z 0 (by omega)] at hj
    unfold eCs
    rw [e 2 (by omega), e 3 (by omega), e 4 (by omega), e 5 (by omega), e 6 (by omega), e 7 (by omega)]
    exact hm _ _ _ (h5 j hj) (by omega)
  · rw [z 1 (by omega)]; exact h6.md hm (by omega)
  · rw [z 1 (by omega)] at hi
    rw [e 8 (by omega), e (1000 + i) (by omega)]
    exact (h7 i hi).kept (fun b e hb => hm _ _ _ hb (by omega))
  · rw [z 2 (by omega)]; exact h8.md hm (by omega)
  · rw [z 2 (by omega)] at hi
    rw [e 9 (by omega)]
    exact hm _ _ _ (h9 i hi) (by omega)
  · rw [z 3 (by omega)]; exact h11.md hm (by omega)
  · rw [z 3 (by omega)] at hi
    rw [e 10 (by omega), e 11 (by omega)]
    exact hm _ _ _ (h12 i hi) (by omega)
theorem RX_eye {G : cx_G} {f f1 : Wd} {st : St} {x gr rw1 L1 L2 L3 cu L4 q k : Nat} {g1 g2 g3 g4 : Nat → Nat} {w : Nat → Int32} (h : RXx G f st x gr rw1 L1 L2 L3 cu L4 g1 g2 g3 g4 w) (hm : md (fun t => t = 5) f f1) (hq : f1 q = some (8, .inr (4, [.int (nI k)]))) (hL : LRx G f1 L3 5 (st 0 2 + 1) (va_up g3 (st 0 2) q)) : RX G f1 (eyeSt st k) x := by
  obtain ⟨h0, h1, h2, h3, h4, h5, h6, h7, h8, h9, h10, h11, h12⟩ := h
  have e : ∀ A, A ≠ 0 → A ≠ 9 → eyeSt st k A = st A := fun A hA h9 => funext fun i => eye_e _ _ (by omega)
  have z : ∀ i, i ≠ 2 → eyeSt st k 0 i = st 0 i := fun i hi => eye_e _ _ (by omega)
  refine ⟨gr, rw1, L1, L2, L3, cu, L4, g1, g2, va_up g3 (st 0 2) q, g4, w, ?_, hm _ _ _ h1 (by omega), hm _ _ _ h2 (by omega), ?_, ?_, fun j hj => ?_, ?_, fun i hi => ?_, ?_, fun i hi => ?_, hm _ _ _ h10 (by omega), ?_, fun i hi => ?_⟩
  · rw [z 4 (by omega)]; exact hm _ _ _ h0 (by omega)
  · rw [e 1 (by omega) (by omega)]; exact h3
  · rw [z 0 (by omega)]; exact h4.md hm (by omega)
  · rw [z 0 (by omega)] at hj
    unfold eCs
    rw [e 2 (by omega) (by omega), e 3 (by omega) (by omega), e 4 (by omega) (by omega), e 5 (by omega) (by omega), e 6 (by omega) (by omega), e 7 (by omega) (by omega)]
    exact hm _ _ _ (h5 j hj) (by omega)
  · rw [z 1 (by omega)]; exact h6.md hm (by omega)
  · rw [z 1 (by omega)] at hi
    rw [e 8 (by omega) (by omega), e (1000 + i) (by omega) (by omega)]
    exact (h7 i hi).kept (fun b e hb => hm _ _ _ hb (by omega))
  · rw [eye_n]; exact hL
  · rw [eye_n] at hi
    by_cases y : i = st 0 2
    · subst y
      rw [va_up_self, eye_9]; exact hq
    · rw [va_up_ne _ _ y, eye_e _ _ (by omega)]; exact hm _ _ _ (h9 i (by omega)) (by omega)
  · rw [z 3 (by omega)]; exact h11.md hm (by omega)
  · rw [z 3 (by omega)] at hi
    rw [e 10 (by omega) (by omega), e 11 (by omega) (by omega)]
    exact hm _ _ _ (h12 i hi) (by omega)
theorem RX_anch {G : cx_G} {f f1 : Wd} {st : St} {x gr rw1 L1 L2 L3 cu L4 q u v : Nat} {g1 g2 g3 g4 : Nat → Nat} {w : Nat → Int32} (h : RXx G f st x gr rw1 L1 L2 L3 cu L4 g1 g2 g3 g4 w) (hm : md (fun t => t = 7) f f1) (hq : f1 q = some (8, .inr (1, [.long (lN u), .long (lN v)]))) (hL : LRx G f1 L4 7 (st 0 3 + 1) (va_up g4 (st 0 3) q)) : RX G f1 (anchSt st u v) x := by
  obtain ⟨h0, h1, h2, h3, h4, h5, h6, h7, h8, h9, h10, h11, h12⟩ := h
  have e : ∀ A, A ≠ 0 → A ≠ 10 → A ≠ 11 → anchSt st u v A = st A := fun A hA h9 h10 => funext fun i => anch_e _ _ _ (by omega)
  have z : ∀ i, i ≠ 3 → anchSt st u v 0 i = st 0 i := fun i hi => anch_e _ _ _ (by omega)
  refine ⟨gr, rw1, L1, L2, L3, cu, L4, g1, g2, g3, va_up g4 (st 0 3) q, w, ?_, hm _ _ _ h1 (by omega), hm _ _ _ h2 (by omega), ?_, ?_, fun j hj => ?_, ?_, fun i hi => ?_, ?_, fun i hi => ?_, hm _ _ _ h10 (by omega), ?_, fun i hi => ?_⟩
  · rw [z 4 (by omega)]; exact hm _ _ _ h0 (by omega)
  · rw [e 1 (by omega) (by omega) (by omega)]; exact h3
  · rw [z 0 (by omega)]; exact h4.md hm (by omega)
  · rw [z 0 (by omega)] at hj
    unfold eCs
    rw [e 2 (by omega) (by omega) (by omega), e 3 (by omega) (by omega) (by omega), e 4 (by omega) (by omega) (by omega), e 5 (by omega) (by omega) (by omega), e 6 (by omega) (by omega) (by omega), e 7 (by omega) (by omega) (by omega)]
    exact hm _ _ _ (h5 j hj) (by omega)
  · rw [z 1 (by omega)]; exact h6.md hm (by omega)
  · rw [z 1 (by omega)] at hi
    rw [e 8 (by omega) (by omega) (by omega), e (1000 + i) (by omega) (by omega) (by omega)]
    exact (h7 i hi).kept (fun b e hb => hm _ _ _ hb (by omega))
  · rw [z 2 (by omega)]; exact h8.md hm (by omega)
  · rw [z 2 (by omega)] at hi
    rw [e 9 (by omega) (by omega) (by omega)]
    exact hm _ _ _ (h9 i hi) (by omega)
  · rw [anch_n]; exact hL
  · rw [anch_n] at hi
    by_cases y : i = st 0 3
    · subst y
      rw [va_up_self, anch_10, anch_11]; exact hq
    · rw [va_up_ne _ _ y, anch_e _ _ _ (by omega), anch_e _ _ _ (by omega)]; exact hm _ _ _ (h12 i (by omega)) (by omega)
