/-! the world as a map: which cell holds what, each with an owner's tag; one shape of contract for all methods -/
abbrev cx_G : Type := va_G × (ClassId × ClassId × ClassId) × (Heap × Nat × Nat × (Nat × Nat × (Nat → Int32)))
def gD (G : cx_G) : va_G := G.1
def gI (G : cx_G) : ClassId := G.2.1.1
def gJ (G : cx_G) : ClassId := G.2.1.2.1
def gO (G : cx_G) : ClassId := G.2.1.2.2
def gH (G : cx_G) : Heap := G.2.2.1
def gd (G : cx_G) : Nat := G.2.2.2.1
def gM (G : cx_G) : Nat := G.2.2.2.2.1
/-- the script: its cell, its length, its ints -/
def gb (G : cx_G) : Nat := G.2.2.2.2.2.1
def gL (G : cx_G) : Nat := G.2.2.2.2.2.2.1
def gx (G : cx_G) : Nat → Int32 := G.2.2.2.2.2.2.2
def gT (G : cx_G) : List (ClassId × FieldType) := [(gI G, .int), (gJ G, .long), (gO G, .object "java/lang/Object")]
def gA (G : cx_G) : Nat → Prop := fun q => (gH G).size ≤ q
abbrev Wd : Type := Nat → Option (Nat × va_E)
abbrev eI (G : cx_G) (n : Nat) (f : Nat → Int32) : va_E := .inl (gI G, n, .inl f)
abbrev eJ (G : cx_G) (n : Nat) (f : Nat → Int64) : va_E := .inl (gJ G, n, .inr (.inl f))
abbrev eO (G : cx_G) (n : Nat) (f : Nat → Option Nat) : va_E := .inl (gO G, n, .inr (.inr (.inr (.inr f))))
abbrev wu (f : Wd) (a t : Nat) (e : va_E) : Wd := va_up f a (some (t, e))
def hp (G : cx_G) (f : Wd) (H : Heap) : Prop :=
  (∀ (a t : Nat) (e : va_E), f a = some (t, e) → t ≠ 9999 → va_at (gD G) vwCl (a, e) H) ∧
  (∀ (a t : Nat) (e : va_E), f a = some (t, e) → (t ≠ 9999 ∧ gA G a) ∨ (t = 9999 ∧ a = gd G)) ∧
  f (gd G) = some (9999, eO G 0 (fun _ => none)) ∧ gd G < (gH G).size ∧
  (gH G).size ≤ H.size ∧ ∀ q, q < (gH G).size → H[q]? = (gH G)[q]?
theorem wu_self (f : Wd) (a t : Nat) (e : va_E) : wu f a t e a = some (t, e) := va_up_self _ _ _
theorem wu_ne (f : Wd) {a b : Nat} (t : Nat) (e : va_E) (h : b ≠ a) : wu f a t e b = f b := va_up_ne _ _ h
theorem wu_get {f : Wd} {a b t t1 : Nat} {e e1 : va_E} {t2 : Nat} {e2 : va_E} (ha : f a = some (t2, e2)) (hb : f b = some (t1, e1)) (h : t1 ≠ t2) : wu f a t e b = some (t1, e1) := by
  rw [wu_ne]
  · exact hb
  · intro q
    subst q
    rw [ha] at hb
    cases hb
    exact h rfl
theorem wu_gk {f : Wd} {a b t t1 : Nat} {e e1 : va_E} {t2 : Nat} {e2 : va_E} (ha : f a = some (t2, e2)) (hb : f b = some (t1, e1)) (h : e1 = e2 → False) : wu f a t e b = some (t1, e1) := by
  rw [wu_ne]
  · exact hb
  · intro q
    subst q
    rw [ha] at hb
    cases hb
    exact h rfl
theorem wu_new {f : Wd} {a b t t1 : Nat} {e e1 : va_E} (ha : f a = none) (hb : f b = some (t1, e1)) : wu f a t e b = some (t1, e1) := by
  rw [wu_ne]
  · exact hb
  · intro q
    subst q
    rw [ha] at hb
    cases hb
/-- the world as a list -/
theorem hp.list {G : cx_G} {f : Wd} {H : Heap} (h : hp G f H) : ∃ ws : va_W, va_P (gD G) vwCl ws H ∧ va_D (gA G) ws ∧ (∀ (a t : Nat) (e : va_E), f a = some (t, e) → t ≠ 9999 → ∃ k : Nat, ws[k]? = some (a, e)) ∧ (∀ (k : Nat) (q : Nat × va_E), ws[k]? = some q → ∃ t, t ≠ 9999 ∧ f q.1 = some (t, q.2)) := by
  classical
  have key : ∀ (k : Nat) (q : Nat × va_E), (((List.range H.size).filter (fun a => decide (∃ t e, f a = some (t, e) ∧ t ≠ 9999))).map (fun a => (a, ((f a).getD (0, .inr (0, []))).2)))[k]? = some q → ((List.range H.size).filter (fun a => decide (∃ t e, f a = some (t, e) ∧ t ≠ 9999)))[k]? = some q.1 ∧ ∃ t, t ≠ 9999 ∧ f q.1 = some (t, q.2) := by
    intro k q hq
    rw [List.getElem?_map] at hq
    cases hk : ((List.range H.size).filter (fun a => decide (∃ t e, f a = some (t, e) ∧ t ≠ 9999)))[k]? with
    | none => rw [hk] at hq; cases hq
    | some a =>
      rw [hk] at hq
      have hm := List.mem_of_getElem? hk
      have hm2 := (List.mem_filter.mp hm).2
      simp only [decide_eq_true_eq] at hm2
      obtain ⟨t, e, h1, h2⟩ := hm2
      have e1 : q = (a, e) := by
        have := Option.some.inj hq
        dsimp only at this
        rw [h1] at this
        exact this.symm
      subst e1
      exact ⟨rfl, t, h2, h1⟩
  refine ⟨((List.range H.size).filter (fun a => decide (∃ t e, f a = some (t, e) ∧ t ≠ 9999))).map (fun a => (a, ((f a).getD (0, .inr (0, []))).2)), fun k q hq => ?_, ⟨fun i j p q hi hj hpq => ?_, fun k q hq => ?_⟩, fun a t e ha ht => ?_, fun k q hq => (key k q hq).2⟩
  · obtain ⟨-, t, ht, h2⟩ := key k q hq
    exact h.1 q.1 t q.2 h2 ht
  · have h1 := (key i p hi).1
    have h2 := (key j q hj).1
    rw [hpq] at h1
    have hn : ((List.range H.size).filter (fun a => decide (∃ t e, f a = some (t, e) ∧ t ≠ 9999))).Pairwise (fun a b => a ≠ b) := List.Pairwise.filter _ List.nodup_range
    obtain ⟨hi2, e1⟩ := List.getElem?_eq_some_iff.mp h1
    obtain ⟨hj2, e2⟩ := List.getElem?_eq_some_iff.mp h2
    rw [List.pairwise_iff_getElem] at hn
    rcases Nat.lt_trichotomy i j with c | c | c
    · exact absurd (e1.trans e2.symm) (hn i j hi2 hj2 c)
    · exact c
    · exact absurd (e2.trans e1.symm) (hn j i hj2 hi2 c)
  · obtain ⟨-, t, h1, h2⟩ := key k q hq
    rcases h.2.1 q.1 t q.2 h2 with r | r
    · exact r.2
    · exact absurd r.1 h1
  · have hlt : a < H.size := (h.1 a t e ha ht).lt
    have hm : a ∈ (List.range H.size).filter (fun a => decide (∃ t e, f a = some (t, e) ∧ t ≠ 9999)) := List.mem_filter.mpr ⟨List.mem_range.mpr hlt, by simp only [decide_eq_true_eq]; exact ⟨t, e, ha, ht⟩⟩
    obtain ⟨k, hk⟩ := List.getElem?_of_mem hm
    refine ⟨k, ?_⟩
    rw [List.getElem?_map, hk]
    show some (a, ((f a).getD (0, .inr (0, []))).2) = _
    rw [ha]
    rfl
def cxB (G : cx_G) (s : State) : Prop := (gH G).size ≤ s.heap.size ∧ ∀ q, q < (gH G).size → s.heap[q]? = (gH G)[q]?
theorem cxB.kept {G : cx_G} {s : State} {H : Heap} {locs : List Loc} (B : cxB G s) (hS : va_S (gA G) s.heap H locs) : (gH G).size ≤ H.size ∧ ∀ q, q < (gH G).size → H[q]? = (gH G)[q]? :=
  ⟨Nat.le_trans B.1 hS.1, fun q hq => (hS.2.1 q (Nat.lt_of_lt_of_le hq B.1) (fun z => by have : (gH G).size ≤ q := z; omega)).trans (B.2 q hq)⟩
theorem hp.put {G : cx_G} {f : Wd} {s : State} {H H1 : Heap} {locs1 : List Loc} {ws : va_W} {a k t : Nat} {e e1 : va_E} (h : hp G f H) (B : cxB G s) (h3 : ∀ (a t : Nat) (e : va_E), f a = some (t, e) → t ≠ 9999 → ∃ k : Nat, ws[k]? = some (a, e)) (hk : ws[k]? = some (a, e)) (ha : f a = some (t, e)) (ht : t ≠ 9999) (hP1 : va_P (gD G) vwCl (ws.set k (a, e1)) H1) (hS1 : va_S (gA G) s.heap H1 locs1) : hp G (wu f a t e1) H1 := by
  have hl := (List.getElem?_eq_some_iff.mp hk).1
  have hB := B.kept hS1
  have hga : gA G a := by
    rcases h.2.1 a t e ha with r | r
    · exact r.2
    · exact absurd r.1 ht
  have hgd : gd G ≠ a := fun q => by
    have h4 := h.2.2.2.1
    rw [q] at h4
    have : (gH G).size ≤ a := hga
    omega
  refine ⟨fun b t2 e2 hb ht2 => ?_, fun b t2 e2 hb => ?_, ?_, h.2.2.2.1, hB.1, hB.2⟩
  · by_cases hba : b = a
    · subst hba
      rw [wu_self] at hb
      cases hb
      exact hP1 k (b, e1) (List.getElem?_set_self hl)
    · rw [wu_ne _ _ _ hba] at hb
      rcases h.2.1 b t2 e2 hb with r | r
      · obtain ⟨j, hj⟩ := h3 b t2 e2 hb r.1
        have hjk : j ≠ k := fun q => by
          subst q
          rw [hk] at hj
          cases hj
          exact hba rfl
        exact hP1 j (b, e2) (by rw [List.getElem?_set_ne (Ne.symm hjk)]; exact hj)
      · exact absurd r.1 ht2
  · by_cases hba : b = a
    · subst hba
      rw [wu_self] at hb
      cases hb
      exact Or.inl ⟨ht, hga⟩
    · rw [wu_ne _ _ _ hba] at hb
      exact h.2.1 b t2 e2 hb
  · rw [wu_ne _ _ _ hgd]
    exact h.2.2.1
theorem hp.push {G : cx_G} {f : Wd} {s : State} {H H1 : Heap} {locs1 : List Loc} {ws : va_W} {q t : Nat} {e : va_E} (h : hp G f H) (B : cxB G s) (h3 : ∀ (a t : Nat) (e : va_E), f a = some (t, e) → t ≠ 9999 → ∃ k : Nat, ws[k]? = some (a, e)) (ht : t ≠ 9999) (hP1 : va_P (gD G) vwCl (ws ++ [(q, e)]) H1) (hD1 : va_D (gA G) (ws ++ [(q, e)])) (hS1 : va_S (gA G) s.heap H1 locs1) : f q = none ∧ hp G (wu f q t e) H1 := by
  have hB := B.kept hS1
  have hlast : (ws ++ [(q, e)])[ws.length]? = some (q, e) := by rw [List.getElem?_append_right (Nat.le_refl _), Nat.sub_self]; rfl
  have hq : gA G q := hD1.2 _ _ hlast
  have hgd : gd G ≠ q := fun z => by
    have h4 := h.2.2.2.1
    rw [z] at h4
    have : (gH G).size ≤ q := hq
    omega
  have hn : f q = none := by
    cases hfq : f q with
    | none => rfl
    | some x =>
      obtain ⟨t1, e1⟩ := x
      exfalso
      rcases h.2.1 q t1 e1 hfq with r | r
      · obtain ⟨j, hj⟩ := h3 q t1 e1 hfq r.1
        have hjl := (List.getElem?_eq_some_iff.mp hj).1
        have := hD1.1 j ws.length (q, e1) (q, e) (by rw [List.getElem?_append_left hjl]; exact hj) hlast rfl
        omega
      · exact hgd r.2.symm
  refine ⟨hn, fun b t2 e2 hb ht2 => ?_, fun b t2 e2 hb => ?_, ?_, h.2.2.2.1, hB.1, hB.2⟩
  · by_cases hba : b = q
    · subst hba
      rw [wu_self] at hb
      cases hb
      exact hP1 _ _ hlast
    · rw [wu_ne _ _ _ hba] at hb
      rcases h.2.1 b t2 e2 hb with r | r
      · obtain ⟨j, hj⟩ := h3 b t2 e2 hb r.1
        have hjl := (List.getElem?_eq_some_iff.mp hj).1
        exact hP1 j (b, e2) (by rw [List.getElem?_append_left hjl]; exact hj)
      · exact absurd r.1 ht2
  · by_cases hba : b = q
    · subst hba
      rw [wu_self] at hb
      cases hb
      exact Or.inl ⟨ht, hq⟩
    · rw [wu_ne _ _ _ hba] at hb
      exact h.2.1 b t2 e2 hb
  · rw [wu_ne _ _ _ hgd]
    exact h.2.2.1
theorem ne_r {G : cx_G} {o : Nat × List Value} : (Sum.inr o : va_E) = eO G 0 (fun _ => none) → False := fun z => nomatch z
theorem ne_I {G : cx_G} {n : Nat} {g : Nat → Int32} : eI G n g = eO G 0 (fun _ => none) → False := fun z => by simp at z
theorem ne_J {G : cx_G} {n : Nat} {g : Nat → Int64} : eJ G n g = eO G 0 (fun _ => none) → False := fun z => by simp at z
theorem ne_O {G : cx_G} {n : Nat} {g : Nat → Option Nat} (h : n ≠ 0) : eO G n g = eO G 0 (fun _ => none) → False := fun z => by
  simp at z
  exact h z.1
theorem hp.ne {G : cx_G} {f : Wd} {H : Heap} {a t : Nat} {e : va_E} (h : hp G f H) (ha : f a = some (t, e)) (he : e = eO G 0 (fun _ => none) → False) : t ≠ 9999 := by
  rcases h.2.1 a t e ha with r | r
  · exact r.1
  · exfalso
    have h3 := h.2.2.1
    rw [← r.2, ha] at h3
    exact he (congrArg Prod.snd (Option.some.inj h3))
theorem hp.one {G : cx_G} {f : Wd} {H : Heap} {a t : Nat} {e : va_E} (h : hp G f H) (ha : f a = some (t, e)) (he : e = eO G 0 (fun _ => none) → False := by first | exact ne_r | exact ne_I | exact ne_J) : va_P (gD G) vwCl [(a, e)] H := by
  intro k q hk
  have hz : k < 1 := (List.getElem?_eq_some_iff.mp hk).1
  rw [show k = 0 by omega] at hk
  cases hk
  exact h.1 a t e ha (h.ne ha he)
theorem hp.base {G : cx_G} {f : Wd} {s : State} (h : hp G f s.heap) : cxB G s := ⟨h.2.2.2.2.1, h.2.2.2.2.2⟩
/-- what the tables and the old cells say, in all states alike -/
def yc (C T : String) (U : State) : Prop := ∃ c t : ClassId, U.vm.findClass C = some c ∧ U.vm.findClass T = some t ∧ U.vm.assignable c t = true
theorem yc.moved {C T : String} {u U : State} (hvm : u.vm.Alike U.vm) (h : yc C T u) : yc C T U := by
  obtain ⟨c, t, h1, h2, h3⟩ := h
  exact ⟨c, t, by rw [hvm.findClass]; exact h1, by rw [hvm.findClass]; exact h2, by rw [hvm.assignable]; exact h3⟩
theorem yc.nw {C T : String} {U : State} (h : yc C T U) : va_Nw (.castable C T) U := by
  obtain ⟨c, t, h1, h2, h3⟩ := h
  simp [va_Nw, Cond.before, Cond.holds, Cond.value, h1, h2, h3]
theorem yc.of {args : Array Value} {C T : String} {U : State} (h : (Cond.castable C T).before args U = true) : yc C T U := by
  obtain ⟨c, t, h1, h2, h3⟩ := Cond.castable_spec h
  exact ⟨c, t, h1, h2, h3⟩
def gS : List (Nat × String) := [(247, "no such cell"), (256, "out of range"), (261, "there would be more than 200 craters"), (259, "the field goes to less than where it begins"), (263, "100 floods and softenings were told"), (123, "there are 6 eyes"), (144, "there are 8 anchors, or it has not more of both than the last"), (252, "no such eye"), (168, "there is no age"), (250, "no such crater")]
def gY : List (String × String) := [("Craterclock$Anchor", "java/lang/Object"), ("Craterclock$Crater", "java/lang/Object"), ("Craterclock$Eye", "java/lang/Object"), ("Craterclock$Flood", "java/lang/Object"), ("Craterclock$Softening", "java/lang/Object"), ("Craterclock$Flood", "Craterclock$Lessening"), ("Craterclock$Softening", "Craterclock$Lessening"), ("[I", "java/lang/Cloneable"), ("java/lang/IndexOutOfBoundsException", "java/lang/IndexOutOfBoundsException"), ("java/lang/IllegalArgumentException", "java/lang/IllegalArgumentException"), ("java/lang/IllegalStateException", "java/lang/IllegalStateException")]
def gN : List (String × String) := [("java/lang/IllegalArgumentException", "java/lang/IndexOutOfBoundsException"), ("java/lang/IllegalStateException", "java/lang/IndexOutOfBoundsException"), ("java/lang/IndexOutOfBoundsException", "java/lang/IllegalArgumentException"), ("java/lang/IllegalStateException", "java/lang/IllegalArgumentException"), ("java/lang/IndexOutOfBoundsException", "java/lang/IllegalStateException"), ("java/lang/IllegalArgumentException", "java/lang/IllegalStateException")]
def gB : List MethodName := [Bundle.initS "java/lang/RuntimeException", Bundle.initS "java/lang/Exception", Bundle.initS Bundle.tN, ⟨"Craterclock$Lessening", "lossOf", "(LCraterclock$Crater;)I"⟩]
theorem nwD_moved {x : MethodName} {u U : State} (hvm : u.vm.Alike U.vm) (h : va_Nw (.declares x) u) : va_Nw (.declares x) U := va_tabs rfl (rfl : (u.setVm U.vm).vm = U.vm) (by rw [Cond.declares_setVm hvm]; exact h)
/-- the lists' first row of no elements, and the script: old cells -/
def gE (G : cx_G) (U : State) : Prop := ∃ cell : Cell, (gH G)[gd G]? = some cell ∧ U.isArrayOf cell (.object "java/lang/Object") ∧ cell.vm ≠ .unknown ∧ cell.slots.size = 0 ∧ gb G < (gH G).size ∧ va_X (gb G) (gL G) (gx G) U (gH G)
theorem gE.moved {G : cx_G} {u U : State} (hvm : u.vm.Alike U.vm) (h : gE G u) : gE G U := by
  obtain ⟨cell, h1, h2, h3, h4, h5, h6⟩ := h
  exact ⟨cell, h1, State.isArrayOf_alike hvm h2, h3, h4, h5, va_X.moved hvm h6⟩
def gk (G : cx_G) (U : State) : Prop :=
  va_K (gD G) vwCl (gT G) U ∧ va_Z "java/util/ArrayList" "DEFAULTCAPACITY_EMPTY_ELEMENTDATA" "[Ljava/lang/Object;" (.ref (gd G)) (gA G) U (gH G) ∧
  vx_Zq Bundle.tN "UNASSIGNED_STACK" Bundle.steD (gA G) U (gH G) ∧ vx_Zq Bundle.tN "SUPPRESSED_SENTINEL" Bundle.listD (gA G) U (gH G) ∧
  (∀ q ∈ gS, ∃ sa, vk_R "Craterclock" q.1 q.2 sa U) ∧ (∀ q ∈ gY, yc q.1 q.2 U) ∧ (∀ q ∈ gN, va_Nc q.1 q.2 U) ∧ va_AO "java/lang/Object" U ∧ va_Mi "[Ljava/lang/Object;" (gM G) U ∧ (va_Dc U ∧ gE G U) ∧ ∀ x ∈ gB, va_Nw (.declares x) U
theorem gk.to {G : cx_G} {s U : State} (h : gk G s) (ha : s.vm.Alike U.vm) (hs : ∀ (k : Nat) (tx : String) (sa : Nat), vk_R "Craterclock" k tx sa s → vk_R "Craterclock" k tx sa U) : gk G U := by
  obtain ⟨h1, h2, h3, h4, h5, h6, h7, h8, h9, h10, h11⟩ := h
  exact ⟨va_K.moved ha h1, va_Z.moved ha h2, vx_Zq.moved ha h3, vx_Zq.moved ha h4, fun q hq => by obtain ⟨sa, h⟩ := h5 q hq; exact ⟨sa, hs _ _ _ h⟩, fun q hq => yc.moved ha (h6 q hq), fun q hq => va_Nc.moved ha (h7 q hq), va_AO.moved ha h8, va_Mi.moved ha h9, ⟨va_Dc.moved ha h10.1, gE.moved ha h10.2⟩, fun x hx => nwD_moved ha (h11 x hx)⟩
theorem gk.warm {G : cx_G} {s U : State} (hW : s.WarmedH U.vm) (h : gk G s) : gk G U := h.to hW.alike (fun _ _ _ q => vk_R.warm hW q)
theorem gk.call {G : cx_G} {U : State} (g : JFrame) (mk : MethodId) (a : Array Value) (h : gk G U) : gk G (U.calling g mk a) := gk.to (U := U.calling g mk a) h (Vm.Alike.refl U.vm) (fun _ _ _ q => vk_R.same (U := U.calling g mk a) (u := U) rfl q)
def Pin (G : cx_G) (f : Wd) : State → Prop := fun U => hp G f U.heap ∧ gk G U
abbrev MI (l : Launch) (G : cx_G) (y : MethodName) (ws : List Cond) (fr lo mc ms : Nat) (as : List Value) (f : Wd) (Φ : Int32 → Wd → Prop) : Prop :=
  Met l y ws { frames := fr, cells := mc, slots := ms, locals := lo } (va_Pc as (Pin G f)) (va_Qi Φ (fun f' t => hp G f' t.heap) (gA G)) mc ms (gA G)
abbrev ML (l : Launch) (G : cx_G) (y : MethodName) (ws : List Cond) (fr lo mc ms : Nat) (as : List Value) (f : Wd) (Φ : Int64 → Wd → Prop) : Prop :=
  Met l y ws { frames := fr, cells := mc, slots := ms, locals := lo } (va_Pc as (Pin G f)) (va_Ql Φ (fun f' t => hp G f' t.heap) (gA G)) mc ms (gA G)
abbrev MV (l : Launch) (G : cx_G) (y : MethodName) (ws : List Cond) (fr lo mc ms : Nat) (as : List Value) (f : Wd) (Φ : Wd → Prop) : Prop :=
  Met l y ws { frames := fr, cells := mc, slots := ms, locals := lo } (va_Pc as (Pin G f)) (va_Qv Φ (fun f' t => hp G f' t.heap) (gA G)) mc ms (gA G)
def QR (G : cx_G) (Φ : Nat → Wd → Prop) : Array Value → State → Outcome → State → Prop := va_Qr (fun u : Nat × Wd => Φ u.1 u.2) (fun u a t => a = u.1 ∧ hp G u.2 t.heap) (gA G)
abbrev MR (l : Launch) (G : cx_G) (y : MethodName) (ws : List Cond) (fr lo mc ms : Nat) (as : List Value) (f : Wd) (Φ : Nat → Wd → Prop) : Prop :=
  Met l y ws { frames := fr, cells := mc, slots := ms, locals := lo } (va_Pc as (Pin G f)) (QR G Φ) mc ms (gA G)
/-- what a body knows -/
def cxC (G : cx_G) (p : Program) (l : Launch) (R : Room) (c : Code) (cc : ByteArray) (nL : Nat) (m : MethodId) (meth : Method) (s : State) (args : Array Value) (own : String) (Ts : List Cond) : Prop :=
  p.tables.exec = Jvm.exec ∧ c.code = cc ∧ c.maxLocals = nL ∧ s.vm.findClass own = some m.cls ∧ (∀ w ∈ Ts, w.before args s = true) ∧ gk G s ∧ cxB G s ∧ meth.locks = false
def cxS (G : cx_G) (s : State) (f : Wd) (H : Heap) (locs : List Loc) : Prop := hp G f H ∧ va_S (gA G) s.heap H locs
theorem Pin.blind {G : cx_G} {f : Wd} {as : List Value} : FrameBlind (va_Pc as (Pin G f)) := fun a U g mk q => ⟨q.1, q.2.1, gk.call g mk a q.2.2⟩
theorem cx_body {l : Launch} {G : cx_G} {y : MethodName} {ws : List Cond} {rm : Room} {as : List Value} {f : Wd} {cc : ByteArray} {n : Nat} {ret : Option FieldType} {Q : Array Value → State → Outcome → State → Prop} {mc ms : Nat} {ws' : List Cond}
    (hy : plainName y.cls = true) (hw : ws = Cond.code y cc n ret :: ws') (hn : (lg_sl as).length ≤ n)
    (body : ∀ (p : Program) (e : Env) (s : State) (m : MethodId) (below : List Frame) (meth : Method) (c : Code) (ls : Array Slot), cxC G p l rm c cc n m meth s as.toArray y.cls ws → meth.sig.returnType = ret → meth.name = y.name → cxS G s f s.heap [] → lv_has ls n (lv_args 0 as) →
      W p l e rm s m as.toArray below meth c s.heap [] 0 0 (MQ below Q as.toArray s mc ms (gA G)) (F0 m 0 ls [])) :
    Met l y ws rm (va_Pc as (Pin G f)) Q mc ms (gA G) := by
  refine Met.ofW (cc := cc) (maxL := n) (ret := ret) hy hw ?_
  intro p e s m args below meth c s₁ B hml hv
  obtain ⟨rfl, hP, hK⟩ := hv
  have hts := atoms_spec (ws := ws) B.pre
  have hl := lv_entry as (n := n) hn
  rw [lg_entry_eq]
  generalize (lg_sl as ++ List.replicate (n - (lg_sl as).length) Slot.unset).toArray = ls at hl ⊢
  exact body p e s m below meth c ls ⟨B.exec, B.bytes, hml, findClass_of_methodNamed B.named, hts, hK, hP.base, B.notSynchronized⟩ B.returns (name_of_methodNamed B.named B.method).1 ⟨hP, va_S.rf⟩ hl
