/-! the state, in numbers, and what the heap holds of it -/
/-- what crater k loses by crater j, a newer one -/
def lossK (st : St) (k j : Nat) : Nat := lossN (st 2 k) (st 3 k) (st 5 k) (st 6 k) (st 2 j) (st 3 j) (st 5 j) (st 4 j)
def lossC (st : St) (k n : Nat) : Nat := sm (fun j => if k < j then lossK st k j else 0) n
def lossL (st : St) (k t : Nat) : Nat := sm (fun i => if k < st 8 i then st (1000 + i) (16 * st 3 k + st 2 k) else 0) t
def cIn (st : St) (k : Nat) : Prop := st 2 k < 16 ∧ st 3 k < 16 ∧ 1 ≤ st 4 k ∧ st 4 k ≤ 6 ∧ 1 ≤ st 5 k ∧ st 5 k ≤ 7 ∧ st 6 k ≤ 30 ∧ st 7 k ≤ st 6 k
def sInv (st : St) : Prop :=
  (st 0 0 ≤ 200 ∧ st 0 1 ≤ 100 ∧ st 0 2 ≤ 6 ∧ st 0 3 ≤ 8 ∧ st 0 4 < 65537) ∧
  (∀ c, c < 256 → st 1 c ≤ 2) ∧
  (∀ k, k < st 0 0 → cIn st k) ∧
  (∀ i, i < st 0 1 → st 8 i ≤ st 0 0 ∧ ∀ c, c < 256 → st (1000 + i) c ≤ 80) ∧
  (∀ i, i < st 0 2 → 1 ≤ st 9 i ∧ st 9 i ≤ 9) ∧
  (∀ i, i < st 0 3 → 1 ≤ st 10 i ∧ st 10 i ≤ 5000000000 ∧ 1 ≤ st 11 i ∧ st 11 i ≤ 100000000) ∧
  (∀ i, i + 1 < st 0 3 → st 10 i < st 10 (i + 1) ∧ st 11 i < st 11 (i + 1)) ∧
  (∀ k, k < st 0 0 → st 7 k = st 6 k - (lossC st k (st 0 0) + lossL st k (st 0 1)))
abbrev eCs (st : St) (k : Nat) : va_E := eC (st 2 k) (st 3 k) (st 4 k) (st 5 k) (st 6 k) (st 7 k)
/-- a flood or a softening: how many craters there were, what it takes by cells -/
def lesO (G : cx_G) (f : Wd) (o c : Nat) (φ : Nat → Nat) : Prop :=
  (∃ (fl v x y tx ty : Nat), f o = some (8, .inr (6, [.int (nI c), .ref fl, .int (nI v)])) ∧ f fl = some (8, eF x y tx ty) ∧ (x < 16 ∧ y < 16 ∧ tx < 16 ∧ ty < 16) ∧ ∀ cx cy, cx < 16 → cy < 16 → φ (16 * cy + cx) = if x ≤ cx ∧ cx ≤ tx ∧ y ≤ cy ∧ cy ≤ ty then v else 0) ∨
  (∃ (gr rw1 v : Nat) (w : Nat → Int32) (g : Nat → Nat), f o = some (8, .inr (8, [.int (nI c), .ref gr, .int (nI v)])) ∧ f gr = some (8, .inr (7, [.ref rw1])) ∧ f rw1 = some (8, eI G 16 w) ∧ grd w g ∧ (∀ c, c < 256 → g c ≤ 2) ∧ v ≤ 40 ∧ ∀ cx cy, cx < 16 → cy < 16 → φ (16 * cy + cx) = if g (16 * cy + cx) = 1 then v else if g (16 * cy + cx) = 2 then 2 * v else v / 2)
theorem lesO.kept {G : cx_G} {f f' : Wd} {o c : Nat} {φ : Nat → Nat} (h : lesO G f o c φ) (hk : ∀ (b : Nat) (e : va_E), f b = some (8, e) → f' b = some (8, e)) : lesO G f' o c φ := by
  rcases h with ⟨fl, v, x, y, tx, ty, h1, h2, h3⟩ | ⟨gr, rw1, v, w, g, h1, h2, h3, h4⟩
  · exact Or.inl ⟨fl, v, x, y, tx, ty, hk _ _ h1, hk _ _ h2, h3⟩
  · exact Or.inr ⟨gr, rw1, v, w, g, hk _ _ h1, hk _ _ h2, hk _ _ h3, h4⟩
/-- the class's cells: the object x, the grounds, the four lists, what lies in them -/
def RXx (G : cx_G) (f : Wd) (st : St) (x gr rw1 L1 L2 L3 cu L4 : Nat) (g1 g2 g3 g4 : Nat → Nat) (w : Nat → Int32) : Prop :=
  f x = some (0, .inr (9, [.ref gr, .ref L1, .ref L2, .ref L3, .ref cu, .int (nI (st 0 4))])) ∧
  f gr = some (1, .inr (7, [.ref rw1])) ∧ f rw1 = some (2, eI G 16 w) ∧ grd w (st 1) ∧
  LRx G f L1 3 (st 0 0) g1 ∧ (∀ k, k < st 0 0 → f (g1 k) = some (100 + k, eCs st k)) ∧
  LRx G f L2 4 (st 0 1) g2 ∧ (∀ i, i < st 0 1 → lesO G f (g2 i) (st 8 i) (st (1000 + i))) ∧
  LRx G f L3 5 (st 0 2) g3 ∧ (∀ i, i < st 0 2 → f (g3 i) = some (8, .inr (4, [.int (nI (st 9 i))]))) ∧
  f cu = some (6, .inr (3, [.ref L4])) ∧
  LRx G f L4 7 (st 0 3) g4 ∧ (∀ i, i < st 0 3 → f (g4 i) = some (8, .inr (1, [.long (lN (st 10 i)), .long (lN (st 11 i))])))
def RX (G : cx_G) (f : Wd) (st : St) (x : Nat) : Prop := ∃ (gr rw1 L1 L2 L3 cu L4 : Nat) (g1 g2 g3 g4 : Nat → Nat) (w : Nat → Int32), RXx G f st x gr rw1 L1 L2 L3 cu L4 g1 g2 g3 g4 w
/-- the reference's cells -/
def RMx (G : cx_G) (f : Wd) (st : St) (m : Nat) (A : Nat → Nat) (V : Nat → Nat → Int32) (VL : Nat → Nat → Int64) (thr : Int32) : Prop :=
  f m = some (1000, .inr (10, [.ref (A 1), .int (nI (st 0 0)), .ref (A 2), .ref (A 3), .ref (A 5), .ref (A 7), .int (nI (st 0 4)), .int (nI (st 0 1)), .int (nI (st 0 2)), .ref (A 9), .int (nI (st 0 3)), .ref (A 10), .ref (A 11), .int thr])) ∧
  (f (A 1) = some (1001, eI G 256 (V 1)) ∧ f (A 2) = some (1002, eI G 200 (V 2)) ∧ f (A 3) = some (1003, eI G 200 (V 3)) ∧ f (A 5) = some (1005, eI G 200 (V 5)) ∧ f (A 7) = some (1007, eI G 200 (V 7)) ∧ f (A 9) = some (1009, eI G 6 (V 9)) ∧ f (A 10) = some (1010, eJ G 8 (VL 10)) ∧ f (A 11) = some (1011, eJ G 8 (VL 11))) ∧
  (∀ c, c < 256 → V 1 c = nI (st 1 c)) ∧ (∀ k, k < st 0 0 → V 2 k = nI (st 2 k) ∧ V 3 k = nI (st 3 k) ∧ V 5 k = nI (st 5 k) ∧ V 7 k = nI (st 7 k)) ∧
  (∀ i, i < st 0 2 → V 9 i = nI (st 9 i)) ∧ (∀ i, i < st 0 3 → VL 10 i = lN (st 10 i) ∧ VL 11 i = lN (st 11 i))
def RM (G : cx_G) (f : Wd) (st : St) (m : Nat) (thr : Int32) : Prop := ∃ (A : Nat → Nat) (V : Nat → Nat → Int32) (VL : Nat → Nat → Int64), RMx G f st m A V VL thr
/-- which tags are the class's, which the reference's -/
def tX (t : Nat) : Prop := t < 1000
def tM (t : Nat) : Prop := 1000 ≤ t ∧ t < 2000
theorem RM.kept {G : cx_G} {f f' : Wd} {st : St} {m : Nat} {thr : Int32} (h : RM G f st m thr) (hm : md tX f f') : RM G f' st m thr := by
  obtain ⟨A, V, VL, h0, ⟨h1, h2, h3, h4, h5, h6, h7, h8⟩, h9⟩ := h
  have k : ∀ (b t : Nat) (e : va_E), f b = some (t, e) → 1000 ≤ t → f' b = some (t, e) := fun b t e hb ht => hm b t e hb (by unfold tX; omega)
  exact ⟨A, V, VL, k _ _ _ h0 (by omega), ⟨k _ _ _ h1 (by omega), k _ _ _ h2 (by omega), k _ _ _ h3 (by omega), k _ _ _ h4 (by omega), k _ _ _ h5 (by omega), k _ _ _ h6 (by omega), k _ _ _ h7 (by omega), k _ _ _ h8 (by omega)⟩, h9⟩
theorem RXx.kept {G : cx_G} {f f' : Wd} {st : St} {x gr rw1 L1 L2 L3 cu L4 : Nat} {g1 g2 g3 g4 : Nat → Nat} {w : Nat → Int32} (h : RXx G f st x gr rw1 L1 L2 L3 cu L4 g1 g2 g3 g4 w) (k : ∀ (b t : Nat) (e : va_E), f b = some (t, e) → t < 1000 → f' b = some (t, e)) (hn : st 0 0 ≤ 200) : RXx G f' st x gr rw1 L1 L2 L3 cu L4 g1 g2 g3 g4 w := by
  obtain ⟨h0, h1, h2, h3, h4, h5, h6, h7, h8, h9, h10, h11, h12⟩ := h
  exact ⟨k _ _ _ h0 (by omega), k _ _ _ h1 (by omega), k _ _ _ h2 (by omega), h3, h4.kept (fun b e hb => k _ _ _ hb (by omega)), fun i hi => k _ _ _ (h5 i hi) (by omega), h6.kept (fun b e hb => k _ _ _ hb (by omega)), fun i hi => (h7 i hi).kept (fun b e hb => k _ _ _ hb (by omega)), h8.kept (fun b e hb => k _ _ _ hb (by omega)), fun i hi => k _ _ _ (h9 i hi) (by omega), k _ _ _ h10 (by omega), h11.kept (fun b e hb => k _ _ _ hb (by omega)), fun i hi => k _ _ _ (h12 i hi) (by omega)⟩
theorem RX.kept {G : cx_G} {f f' : Wd} {st : St} {x : Nat} (h : RX G f st x) (hm : md (fun t => ¬ tX t) f f') (hn : st 0 0 ≤ 200) : RX G f' st x := by
  obtain ⟨gr, rw1, L1, L2, L3, cu, L4, g1, g2, g3, g4, w, h⟩ := h
  exact ⟨gr, rw1, L1, L2, L3, cu, L4, g1, g2, g3, g4, w, h.kept (fun b t e hb ht => hm b t e hb (fun q => q ht)) hn⟩
