/-! numbers, and what the document says in numbers: both the class and the reference are tied to these words -/
def sq (a b : Nat) : Nat := (a - b) * (a - b) + (b - a) * (b - a)
theorem sq_comm (a b : Nat) : sq a b = sq b a := by unfold sq; omega
theorem sq_lt {a b n : Nat} (ha : a < n) (hb : b < n) : sq a b < n * n := by
  unfold sq
  rcases Nat.le_total a b with h | h
  · rw [Nat.sub_eq_zero_of_le h, Nat.zero_mul, Nat.zero_add]
    exact Nat.mul_lt_mul'' (by omega) (by omega)
  · rw [Nat.sub_eq_zero_of_le h, Nat.zero_mul, Nat.add_zero]
    exact Nat.mul_lt_mul'' (by omega) (by omega)
theorem nI_sub_neg (a b : Nat) : nI a - nI b = -(nI b - nI a) := Int32.neg_sub.symm
theorem nI_sqd (a b : Nat) : (nI a - nI b) * (nI a - nI b) = nI (sq a b) := by
  unfold sq
  rcases Nat.le_total b a with h | h
  · rw [Nat.sub_eq_zero_of_le h, Nat.zero_mul, Nat.add_zero, pk_sub h, pk_mul]
  · rw [Nat.sub_eq_zero_of_le h, Nat.zero_mul, Nat.zero_add, nI_sub_neg, Int32.neg_mul_neg, pk_sub h, pk_mul]
/-- what a crater is by the ground and the size -/
def radOn (g z : Nat) : Nat := if g = 1 then (if z - 1 < 1 then 1 else z - 1) else if g = 2 then z + 1 else z
def depOn (g z : Nat) : Nat := if g = 1 then 3 * z else if g = 2 then 5 * z else 4 * z
theorem radOn_in {g z : Nat} (h1 : 1 ≤ z) (h6 : z ≤ 6) : 1 ≤ radOn g z ∧ radOn g z ≤ 7 := by
  unfold radOn
  split
  · split <;> omega
  · split <;> omega
theorem depOn_in {g z : Nat} (h1 : 1 ≤ z) (h6 : z ≤ 6) : 1 ≤ depOn g z ∧ depOn g z ≤ 30 := by
  unfold depOn
  split
  · omega
  · split <;> omega
def sizeOf (q : Nat) : Nat := if q < 40 then 1 else if q < 52 then 2 else if q < 58 then 3 else if q < 61 then 4 else if q < 63 then 5 else 6
theorem sizeOf_in (q : Nat) : 1 ≤ sizeOf q ∧ sizeOf q ≤ 6 := by
  unfold sizeOf
  repeat' split
  all_goals omega
/-- what a crater (x y, radius r, first depth fd) loses by a newer one (x2 y2, radius r2, size z2) -/
def lossN (x y r fd x2 y2 r2 z2 : Nat) : Nat := if r ≤ r2 ∧ sq x2 x + sq y2 y ≤ r2 * r2 then fd else if sq x2 x + sq y2 y ≤ (r + r2) * (r + r2) then z2 else 0
/-- the state: 0: craters, floods and softenings, eyes, anchors, the number drawn; 1 the grounds; 2 3 x y; 4 sizes; 5 radii; 6 first depths; 7 depths; 8 how many craters at a flood or softening; 9 skills; 10 years; 11 densities; 1000 + i: what flood or softening i takes, by cells -/
abbrev St : Type := Nat → Nat → Nat
def s_up (st : St) (F j v : Nat) : St := fun A i => if A = F ∧ i = j then v else st A i
theorem s_up_self (st : St) (F j v : Nat) : s_up st F j v F j = v := by simp [s_up]
theorem s_up_ne (st : St) {F j v A i : Nat} (h : A ≠ F ∨ i ≠ j) : s_up st F j v A i = st A i := by
  unfold s_up
  rw [if_neg]
  omega
/-- how many k < n there are with p -/
def cn (p : Nat → Bool) : Nat → Nat
  | 0 => 0
  | n + 1 => cn p n + (if p n = true then 1 else 0)
theorem cn_le (p : Nat → Bool) : ∀ n, cn p n ≤ n
  | 0 => Nat.le_refl 0
  | n + 1 => by
    have h := cn_le p n
    show cn p n + _ ≤ _
    split <;> omega
theorem cn_cong {p q : Nat → Bool} : ∀ {n : Nat}, (∀ k, k < n → p k = q k) → cn p n = cn q n
  | 0, _ => rfl
  | n + 1, h => by
    show cn p n + _ = cn q n + _
    rw [cn_cong (fun k hk => h k (by omega)), h n (by omega)]
/-- the sum of f k over k < n -/
def sm (f : Nat → Nat) : Nat → Nat
  | 0 => 0
  | n + 1 => sm f n + f n
theorem sm_cong {f g : Nat → Nat} : ∀ {n : Nat}, (∀ k, k < n → f k = g k) → sm f n = sm g n
  | 0, _ => rfl
  | n + 1, h => by
    show sm f n + _ = sm g n + _
    rw [sm_cong (fun k hk => h k (by omega)), h n (by omega)]
theorem sm_bound {f : Nat → Nat} {c : Nat} : ∀ {n : Nat}, (∀ k, k < n → f k ≤ c) → sm f n ≤ n * c
  | 0, _ => by simp [sm]
  | n + 1, h => by
    have h1 := sm_bound (n := n) (fun k hk => h k (by omega))
    have h2 := h n (by omega)
    show sm f n + f n ≤ _
    rw [Nat.succ_mul]
    omega
theorem sm_zero : ∀ (n : Nat), sm (fun _ => 0) n = 0
  | 0 => rfl
  | n + 1 => by show sm _ n + 0 = 0; rw [sm_zero n]
/-- the cells of the class -/
abbrev eC (x y z r fd d : Nat) : va_E := .inr (2, [.int (nI x), .int (nI y), .int (nI z), .int (nI r), .int (nI fd), .int (nI d)])
abbrev eF (x y tx ty : Nat) : va_E := .inr (5, [.int (nI x), .int (nI y), .int (nI tx), .int (nI ty)])
theorem max0 {d w : Nat} (hd : d < 2 ^ 30) (hw : w < 2 ^ 30) : (if (0 : Int32) < nI d - nI w then nI d - nI w else 0) = nI (d - w) := by
  rcases Nat.lt_or_ge w d with h | h
  · rw [pk_sub (Nat.le_of_lt h), if_pos (show (0 : Int32) < nI (d - w) from nI_lt (a := 0) (b := d - w) (by omega) (by omega))]
  · rw [Nat.sub_eq_zero_of_le h]
    split
    · rename_i q
      rcases Nat.lt_or_ge d w with h2 | h2
      · have h3 := pk_sneg hw h2
        rw [Int32.lt_iff_toInt_lt] at q h3
        omega
      · have h4 : d = w := by omega
        rw [h4, pk_sub (Nat.le_refl _), Nat.sub_self] at q ⊢
    · rfl
theorem wu_id {f : Wd} {a t : Nat} {e : va_E} (h : f a = some (t, e)) : wu f a t e = f := by
  funext z
  show va_up f a _ z = f z
  unfold va_up
  split
  · rename_i q
    rw [q, h]
  · rfl
theorem nI_m1 {z : Nat} (h : 1 ≤ z) : nI z - 1 = nI (z - 1) := by
  obtain ⟨w, rfl⟩ : ∃ w, z = w + 1 := ⟨z - 1, by omega⟩
  exact nI_pred w
/-- the grounds in the rows of an int array, two bits a cell -/
def grd (w : Nat → Int32) (g : Nat → Nat) : Prop := ∀ x y : Nat, x < 16 → y < 16 → ((w y).toUInt32 >>> ((2 * nI x).toUInt32 &&& Int32.toUInt32 31)).toInt32 &&& 3 = nI (g (16 * y + x))
/-- what a flood or a softening takes, by cells -/
def inF (x y tx ty cx cy : Nat) : Prop := x ≤ cx ∧ cx ≤ tx ∧ y ≤ cy ∧ cy ≤ ty
