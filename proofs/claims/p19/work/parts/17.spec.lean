/-! what a stone, a flood, a softening make of the state -/
def lossB (st : St) (k x y z : Nat) : Nat := lossN (st 2 k) (st 3 k) (st 5 k) (st 6 k) x y (radOn (st 1 (16 * y + x)) z) z
def goneB (st : St) (x y z k : Nat) : Bool := decide (0 < st 7 k ∧ st 7 k ≤ lossB st k x y z)
def fallSt (st : St) (x y z : Nat) : St := fun A i =>
  if A = 0 ∧ i = 0 then st 0 0 + 1
  else if A = 2 ∧ i = st 0 0 then x else if A = 3 ∧ i = st 0 0 then y else if A = 4 ∧ i = st 0 0 then z
  else if A = 5 ∧ i = st 0 0 then radOn (st 1 (16 * y + x)) z
  else if (A = 6 ∨ A = 7) ∧ i = st 0 0 then depOn (st 1 (16 * y + x)) z
  else if A = 7 ∧ i < st 0 0 then st 7 i - lossB st i x y z
  else st A i
def lessC (st : St) (φ : Nat → Nat) (k : Nat) : Nat := φ (16 * st 3 k + st 2 k)
def goneL (st : St) (φ : Nat → Nat) (k : Nat) : Bool := decide (0 < st 7 k ∧ st 7 k ≤ lessC st φ k)
def lessSt (st : St) (φ : Nat → Nat) : St := fun A i =>
  if A = 0 ∧ i = 1 then st 0 1 + 1
  else if A = 8 ∧ i = st 0 1 then st 0 0
  else if A = 1000 + st 0 1 then φ i
  else if A = 7 ∧ i < st 0 0 then st 7 i - lessC st φ i
  else st A i
theorem fall_n (st : St) (x y z : Nat) : fallSt st x y z 0 0 = st 0 0 + 1 := if_pos ⟨rfl, rfl⟩
theorem fall_e (st : St) (x y z : Nat) {A i : Nat} (h : (A = 0 ∧ i ≠ 0) ∨ A = 1 ∨ 8 ≤ A ∨ (2 ≤ A ∧ A ≤ 6 ∧ i ≠ st 0 0)) : fallSt st x y z A i = st A i := by
  unfold fallSt
  rw [if_neg (by omega), if_neg (by omega), if_neg (by omega), if_neg (by omega), if_neg (by omega), if_neg (by omega), if_neg (by omega)]
theorem fall_d (st : St) (x y z : Nat) {i : Nat} (h : i < st 0 0) : fallSt st x y z 7 i = st 7 i - lossB st i x y z := by
  unfold fallSt
  rw [if_neg (by omega), if_neg (by omega), if_neg (by omega), if_neg (by omega), if_neg (by omega), if_neg (by omega), if_pos ⟨rfl, h⟩]
theorem fall_2 (st : St) (x y z : Nat) : fallSt st x y z 2 (st 0 0) = x := by
  unfold fallSt
  rw [if_neg (by omega), if_pos ⟨rfl, rfl⟩]
theorem fall_3 (st : St) (x y z : Nat) : fallSt st x y z 3 (st 0 0) = y := by
  unfold fallSt
  rw [if_neg (by omega), if_neg (by omega), if_pos ⟨rfl, rfl⟩]
theorem fall_4 (st : St) (x y z : Nat) : fallSt st x y z 4 (st 0 0) = z := by
  unfold fallSt
  rw [if_neg (by omega), if_neg (by omega), if_neg (by omega), if_pos ⟨rfl, rfl⟩]
theorem fall_5 (st : St) (x y z : Nat) : fallSt st x y z 5 (st 0 0) = radOn (st 1 (16 * y + x)) z := by
  unfold fallSt
  rw [if_neg (by omega), if_neg (by omega), if_neg (by omega), if_neg (by omega), if_pos ⟨rfl, rfl⟩]
theorem fall_6 (st : St) (x y z : Nat) : fallSt st x y z 6 (st 0 0) = depOn (st 1 (16 * y + x)) z := by
  unfold fallSt
  rw [if_neg (by omega), if_neg (by omega), if_neg (by omega), if_neg (by omega), if_neg (by omega), if_pos ⟨Or.inl rfl, rfl⟩]
theorem fall_7 (st : St) (x y z : Nat) : fallSt st x y z 7 (st 0 0) = depOn (st 1 (16 * y + x)) z := by
  unfold fallSt
  rw [if_neg (by omega), if_neg (by omega), if_neg (by omega), if_neg (by omega), if_neg (by omega), if_pos ⟨Or.inr rfl, rfl⟩]
theorem less_t (st : St) (φ : Nat → Nat) : lessSt st φ 0 1 = st 0 1 + 1 := if_pos ⟨rfl, rfl⟩
theorem less_8 (st : St) (φ : Nat → Nat) : lessSt st φ 8 (st 0 1) = st 0 0 := by
  unfold lessSt
  rw [if_neg (by omega), if_pos ⟨rfl, rfl⟩]
theorem less_φ (st : St) (φ : Nat → Nat) (i : Nat) : lessSt st φ (1000 + st 0 1) i = φ i := by
  unfold lessSt
  rw [if_neg (by omega), if_neg (by omega), if_pos rfl]
theorem less_d (st : St) (φ : Nat → Nat) {i : Nat} (h : i < st 0 0) : lessSt st φ 7 i = st 7 i - lessC st φ i := by
  unfold lessSt
  rw [if_neg (by omega), if_neg (by omega), if_neg (by omega), if_pos ⟨rfl, h⟩]
theorem less_e (st : St) (φ : Nat → Nat) {A i : Nat} (h : (A = 0 ∧ i ≠ 1) ∨ (1 ≤ A ∧ A ≤ 6) ∨ (A = 8 ∧ i ≠ st 0 1) ∨ (9 ≤ A ∧ A ≠ 1000 + st 0 1)) : lessSt st φ A i = st A i := by
  unfold lessSt
  rw [if_neg (by omega), if_neg (by omega), if_neg (by omega), if_neg (by omega)]
theorem cell_in {x y : Nat} (hx : x < 16) (hy : y < 16) : 16 * y + x < 256 := by omega
theorem sInv_fall {st : St} (hI : sInv st) {x y z : Nat} (hn : st 0 0 < 200) (hx : x < 16) (hy : y < 16) (hz1 : 1 ≤ z) (hz : z ≤ 6) : sInv (fallSt st x y z) := by
  obtain ⟨⟨a1, a2, a3, a4, a5⟩, b, c, d, e, f, g, h⟩ := hI
  have hr := radOn_in (g := st 1 (16 * y + x)) hz1 hz
  have hd := depOn_in (g := st 1 (16 * y + x)) hz1 hz
  have e1 : fallSt st x y z 0 1 = st 0 1 := fall_e _ _ _ _ (by omega)
  have e2 : fallSt st x y z 0 2 = st 0 2 := fall_e _ _ _ _ (by omega)
  have e3 : fallSt st x y z 0 3 = st 0 3 := fall_e _ _ _ _ (by omega)
  have e4 : fallSt st x y z 0 4 = st 0 4 := fall_e _ _ _ _ (by omega)
  have o : ∀ A i, 2 ≤ A → A ≤ 6 → i < st 0 0 → fallSt st x y z A i = st A i := fun A i h1 h2 h3 => fall_e _ _ _ _ (by omega)
  refine ⟨⟨by rw [fall_n]; omega, by rw [e1]; exact a2, by rw [e2]; exact a3, by rw [e3]; exact a4, by rw [e4]; exact a5⟩, fun q hq => by rw [fall_e _ _ _ _ (by omega)]; exact b q hq, fun k hk => ?_, fun i hi => ?_, fun i hi => ?_, fun i hi => ?_, fun i hi => ?_, fun k hk => ?_⟩
  · rw [fall_n] at hk
    rcases Nat.lt_or_ge k (st 0 0) with q | q
    · have hc := c k q
      unfold cIn at hc ⊢
      rw [o 2 k (by omega) (by omega) q, o 3 k (by omega) (by omega) q, o 4 k (by omega) (by omega) q, o 5 k (by omega) (by omega) q, o 6 k (by omega) (by omega) q, fall_d _ _ _ _ q]
      omega
    · have hk2 : k = st 0 0 := by omega
      subst hk2
      unfold cIn
      rw [fall_2, fall_3, fall_4, fall_5, fall_6, fall_7]
      omega
  · rw [e1] at hi
    have hc := d i hi
    rw [fall_n, fall_e _ _ _ _ (by omega)]
    exact ⟨by omega, fun q hq => by rw [fall_e _ _ _ _ (by omega)]; exact hc.2 q hq⟩
  · rw [e2] at hi
    rw [fall_e _ _ _ _ (by omega)]
    exact e i hi
  · rw [e3] at hi
    rw [fall_e _ _ _ _ (by omega), fall_e _ _ _ _ (by omega)]
    exact f i hi
  · rw [e3] at hi
    rw [fall_e _ _ _ _ (by omega), fall_e _ _ _ _ (by omega), fall_e _ _ _ _ (by omega), fall_e _ _ _ _ (by omega)]
    exact g i hi
  · rw [fall_n] at hk ⊢
    rw [e1]
    rcases Nat.lt_or_ge k (st 0 0) with q | q
    · have k1 : lossC (fallSt st x y z) k (st 0 0) = lossC st k (st 0 0) := sm_cong (fun j hj => by
        unfold lossK
        rw [o 2 k (by omega) (by omega) q, o 3 k (by omega) (by omega) q, o 5 k (by omega) (by omega) q, o 6 k (by omega) (by omega) q, o 2 j (by omega) (by omega) hj, o 3 j (by omega) (by omega) hj, o 5 j (by omega) (by omega) hj, o 4 j (by omega) (by omega) hj])
      have k2 : lossK (fallSt st x y z) k (st 0 0) = lossB st k x y z := by
        unfold lossK lossB
        rw [o 2 k (by omega) (by omega) q, o 3 k (by omega) (by omega) q, o 5 k (by omega) (by omega) q, o 6 k (by omega) (by omega) q, fall_2, fall_3, fall_4, fall_5]
      have k3 : lossL (fallSt st x y z) k (st 0 1) = lossL st k (st 0 1) := sm_cong (fun i hi => by
        rw [fall_e (A := 8) _ _ _ _ (by omega), fall_e (A := 1000 + i) _ _ _ _ (by omega), o 3 k (by omega) (by omega) q, o 2 k (by omega) (by omega) q])
      rw [lossC_s _ q, k1, k2, k3, fall_d _ _ _ _ q, o 6 k (by omega) (by omega) q, h k q]
      omega
    · have hk2 : k = st 0 0 := by omega
      subst hk2
      have k3 : lossL (fallSt st x y z) (st 0 0) (st 0 1) = 0 := by
        unfold lossL
        rw [sm_cong (g := fun _ => 0) (fun i hi => ?_)]
        · exact sm_zero _
        · rw [fall_e (A := 8) _ _ _ _ (by omega)]
          exact if_neg (by have := (d i hi).1; omega)
      rw [lossC_0, k3, fall_7, fall_6]
      omega
theorem sInv_less {st : St} (hI : sInv st) {φ : Nat → Nat} (ht : st 0 1 < 100) (hφ : ∀ c, c < 256 → φ c ≤ 80) : sInv (lessSt st φ) := by
  obtain ⟨⟨a1, a2, a3, a4, a5⟩, b, c, d, e, f, g, h⟩ := hI
  have e0 : lessSt st φ 0 0 = st 0 0 := less_e _ _ (by omega)
  have e2 : lessSt st φ 0 2 = st 0 2 := less_e _ _ (by omega)
  have e3 : lessSt st φ 0 3 = st 0 3 := less_e _ _ (by omega)
  have e4 : lessSt st φ 0 4 = st 0 4 := less_e _ _ (by omega)
  have o : ∀ A i, 1 ≤ A → A ≤ 6 → lessSt st φ A i = st A i := fun A i h1 h2 => less_e _ _ (by omega)
  refine ⟨⟨by rw [e0]; exact a1, by rw [less_t]; omega, by rw [e2]; exact a3, by rw [e3]; exact a4, by rw [e4]; exact a5⟩, fun q hq => by rw [o 1 q (by omega) (by omega)]; exact b q hq, fun k hk => ?_, fun i hi => ?_, fun i hi => ?_, fun i hi => ?_, fun i hi => ?_, fun k hk => ?_⟩
  · rw [e0] at hk
    have hc := c k hk
    unfold cIn at hc ⊢
    rw [o 2 k (by omega) (by omega), o 3 k (by omega) (by omega), o 4 k (by omega) (by omega), o 5 k (by omega) (by omega), o 6 k (by omega) (by omega), less_d _ _ hk]
    omega
  · rw [less_t] at hi
    rw [e0]
    rcases Nat.lt_or_ge i (st 0 1) with q | q
    · rw [less_e _ _ (by omega)]
      exact ⟨(d i q).1, fun w hw => by rw [less_e _ _ (by omega)]; exact (d i q).2 w hw⟩
    · have hk2 : i = st 0 1 := by omega
      subst hk2
      rw [less_8]
      exact ⟨Nat.le_refl _, fun w hw => by rw [less_φ]; exact hφ w hw⟩
  · rw [e2] at hi
    rw [less_e _ _ (by omega)]
    exact e i hi
  · rw [e3] at hi
    rw [less_e _ _ (by omega), less_e _ _ (by omega)]
    exact f i hi
  · rw [e3] at hi
    rw [less_e _ _ (by omega), less_e _ _ (by omega), less_e _ _ (by omega), less_e _ _ (by omega)]
    exact g i hi
  · rw [e0] at hk
    rw [e0, less_t]
    have k1 : lossC (lessSt st φ) k (st 0 0) = lossC st k (st 0 0) := sm_cong (fun j hj => by
      unfold lossK
      rw [o 2 k (by omega) (by omega), o 3 k (by omega) (by omega), o 5 k (by omega) (by omega), o 6 k (by omega) (by omega), o 2 j (by omega) (by omega), o 3 j (by omega) (by omega), o 5 j (by omega) (by omega), o 4 j (by omega) (by omega)])
    have k3 : lossL (lessSt st φ) k (st 0 1) = lossL st k (st 0 1) := sm_cong (fun i hi => by
      rw [less_e (A := 8) _ _ (by omega), less_e (A := 1000 + i) _ _ (by omega), o 3 k (by omega) (by omega), o 2 k (by omega) (by omega)])
    rw [lossL_t _ (by rw [less_8]; exact hk), k1, k3, less_φ, o 3 k (by omega) (by omega), o 2 k (by omega) (by omega), less_d _ _ hk, o 6 k (by omega) (by omega), h k hk]
    unfold lessC
    omega
