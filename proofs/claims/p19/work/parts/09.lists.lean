/-! what is apart by tags; lists -/
def md (T : Nat → Prop) (f f' : Wd) : Prop := ∀ (b t : Nat) (e : va_E), f b = some (t, e) → ¬ T t → f' b = some (t, e)
theorem md_rf (T : Nat → Prop) (f : Wd) : md T f f := fun _ _ _ h _ => h
theorem md_tr {T T1 T2 : Nat → Prop} {f f1 f2 : Wd} (h1 : md T1 f f1) (h2 : md T2 f1 f2) (k1 : ∀ t, T1 t → T t) (k2 : ∀ t, T2 t → T t) : md T f f2 := fun b t e h n => h2 b t e (h1 b t e h (fun q => n (k1 t q))) (fun q => n (k2 t q))
theorem md_mono {T T1 : Nat → Prop} {f f1 : Wd} (h1 : md T1 f f1) (k1 : ∀ t, T1 t → T t) : md T f f1 := fun b t e h n => h1 b t e h (fun q => n (k1 t q))
theorem md_put {f : Wd} {a t : Nat} {e e1 : va_E} (h : f a = some (t, e)) : md (fun x => x = t) f (wu f a t e1) := fun b t2 e2 hb n => wu_get h hb n
theorem md_new {f : Wd} {a t : Nat} {e1 : va_E} (h : f a = none) : md (fun _ => False) f (wu f a t e1) := fun b t2 e2 hb _ => wu_new h hb
/-- an element of a list of references -/
def elO (f : Wd) (y : Nat) : Prop := ∃ (ty ci : Nat) (vs : List Value) (r : vw_C), f y = some (ty, .inr (ci, vs)) ∧ vwCl[ci]? = some r ∧ (r.1, "java/lang/Object") ∈ gY
theorem elO.kept {f f' : Wd} {y : Nat} (h : elO f y) (hk : ∀ (t : Nat) (e : va_E), f y = some (t, e) → f' y = some (t, e)) : elO f' y := by
  obtain ⟨ty, ci, vs, r, h1, h2⟩ := h
  exact ⟨ty, ci, vs, r, hk _ _ h1, h2⟩
theorem elO.ne {f : Wd} {y L t : Nat} {fs : List Value} (h : elO f y) (hL : f L = some (t, .inr (0, fs))) : y ≠ L := fun q => by
  obtain ⟨ty, ci, vs, r, h1, h2, h3⟩ := h
  rw [q, hL] at h1
  cases h1
  cases h2
  exact absurd h3 (by decide +kernel)
theorem elO.putL {f : Wd} {y L t t2 : Nat} {fs : List Value} {e : va_E} (h : elO f y) (hL : f L = some (t, .inr (0, fs))) : elO (wu f L t2 e) y := h.kept (fun t e he => by rw [wu_ne _ _ _ (h.ne hL)]; exact he)
theorem add_el {n v : Nat} {h : Nat → Option Nat} {g : Nat → Nat} (h0 : ∀ i, i < n → h i = some (g i)) : ∀ i, i < n + 1 → va_up h n (some v) i = some (va_up g n v i) := fun i hi => by
  unfold va_up
  by_cases q : i = n
  · rw [if_pos q, if_pos q]
  · rw [if_neg q, if_neg q]; exact h0 i (by omega)
theorem wu_wu (f : Wd) (a t t2 : Nat) (e e2 : va_E) : wu (wu f a t e) a t2 e2 = wu f a t2 e2 := by
  funext z
  show va_up (va_up f a _) a _ z = va_up f a _ z
  unfold va_up
  split <;> rfl
def LRx (G : cx_G) (f : Wd) (L t n : Nat) (g : Nat → Nat) : Prop := ∃ (m : Int32) (arr cap : Nat) (h : Nat → Option Nat), f L = some (t, .inr (0, [.int m, .ref arr, .int (nI n)])) ∧ (∀ i, i < n → h i = some (g i)) ∧ ((n = 0 ∧ arr = gd G) ∨ (f arr = some (t, eO G cap h) ∧ n ≤ cap ∧ 10 ≤ cap ∧ cap ≤ 300))
theorem LRx.kept {G : cx_G} {f f' : Wd} {L t n : Nat} {g : Nat → Nat} (h : LRx G f L t n g) (hk : ∀ (b : Nat) (e : va_E), f b = some (t, e) → f' b = some (t, e)) : LRx G f' L t n g := by
  obtain ⟨m, arr, cap, h0, h1, h2, h3⟩ := h
  refine ⟨m, arr, cap, h0, hk _ _ h1, h2, ?_⟩
  rcases h3 with h3 | h3
  · exact Or.inl h3
  · exact Or.inr ⟨hk _ _ h3.1, h3.2⟩
theorem LRx.md {G : cx_G} {T : Nat → Prop} {f f' : Wd} {L t n : Nat} {g : Nat → Nat} (h : LRx G f L t n g) (hm : md T f f') (ht : ¬ T t) : LRx G f' L t n g := h.kept (fun b e hb => hm b t e hb ht)
theorem LRx.obj {G : cx_G} {f : Wd} {L t n : Nat} {g : Nat → Nat} (h : LRx G f L t n g) : ∃ (t : Nat) (fs : List Value), f L = some (t, .inr (0, fs)) := by
  obtain ⟨m, arr, cap, h0, h1, -⟩ := h
  exact ⟨_, _, h1⟩
theorem LRx.cong {G : cx_G} {f : Wd} {L t n : Nat} {g g' : Nat → Nat} (h : LRx G f L t n g) (hg : ∀ i, i < n → g i = g' i) : LRx G f L t n g' := by
  obtain ⟨m, arr, cap, h0, h1, h2, h3⟩ := h
  exact ⟨m, arr, cap, h0, h1, fun i hi => by rw [h2 i hi, hg i hi], h3⟩
section CXL
variable {G : cx_G} {p : Program} {l : Launch} {e : Env} {R : Room} {s : State} {m : MethodId} {args : Array Value} {below : List Frame} {meth : Method} {c : Code} {H : Heap} {locs : List Loc} {cells slots : Nat} {Q : State → Prop}
variable {cc : ByteArray} {nL : Nat} {own : String} {Ts : List Cond} {pc : Nat} {ls : Array Slot} {rest st : List Value} {f : Wd} {a t mc ms : Nat}
theorem r_ldcM (X : cxC G p l R c cc nL m meth s args own Ts) {index : Nat} (hlink : Cond.classLink own index "[Ljava/lang/Object;" ∈ Ts) (hdg : decode cc pc = .ok (.ldc index, 2)) (k : W p l e R s m args below meth c H locs cells slots Q (F0 m (pc + 2) ls (.ref (gM G) :: rest))) : W p l e R s m args below meth c H locs cells slots Q (F0 m pc ls rest) :=
  va_ldcM X.1 X.2.1 X.2.2.2.1 (X.2.2.2.2.1 _ hlink) X.2.2.2.2.2.1.2.2.2.2.2.2.2.2.1 hdg k
theorem r_getC (X : cxC G p l R c cc nL m meth s args own Ts) (S : cxS G s f H locs) {index n : Nat} {f0 : Nat → Option Nat} (hls : ls.size = nL) (hlink : Cond.methodLink own index ⟨"java/lang/Object", "getClass", "()Ljava/lang/Class;"⟩ ∈ Ts) (hsel : Cond.selects "[Ljava/lang/Object;" ⟨"java/lang/Object", "getClass", "()Ljava/lang/Class;"⟩ ⟨"java/lang/Object", "getClass", "()Ljava/lang/Class;"⟩ ∈ Ts) (hinst : Cond.instanceMethod ⟨"java/lang/Object", "getClass", "()Ljava/lang/Class;"⟩ ∈ Ts) (hnat : Cond.native ⟨"java/lang/Object", "getClass", "()Ljava/lang/Class;"⟩ ∈ Ts) (ha : f a = some (t, eO G n f0)) (ht : t ≠ 9999) (hframes : 1 ≤ R.frames) (hlocals : (rest.map fun v => v.category).sum + 14 ≤ R.locals) (hdg : decode cc pc = .ok (.invokevirtual index, 3))
    (k : W p l e R s m args below meth c H locs cells slots Q (F0 m (pc + 3) ls (.ref (gM G) :: rest))) : W p l e R s m args below meth c H locs cells slots Q (F0 m pc ls (.ref a :: rest)) := by
  have hcell : H[a]? = some (vp_cell (gO G) (n, .inr (.inr (.inr (.inr f0))))) := S.1.1 a t _ ha ht
  have hRA := (X.2.2.2.2.2.1.1.2 2 (gO G, .object "java/lang/Object") rfl).2
  exact va_getC X.1 X.2.1 (by rw [X.2.2.1, hls]) X.2.2.2.1 (X.2.2.2.2.1 _ hlink) (va_Dc.use X.2.2.2.2.2.1.2.2.2.2.2.2.2.2.2.1.1) (X.2.2.2.2.1 _ hsel) (X.2.2.2.2.1 _ hinst) (X.2.2.2.2.1 _ hnat) X.2.2.2.2.2.1.2.2.2.2.2.2.2.2.1 ⟨_, hcell, rfl, va_nmO hRA (by decide +kernel)⟩ hframes hlocals hdg k
theorem r_copyO (X : cxC G p l R c cc nL m meth s args own Ts) (S : cxS G s f H locs) {index n0 n1 a0 t0 : Nat} {f0 g0 : Nat → Option Nat} (hls : ls.size = nL) (hlink : Cond.methodLink own index arraycopyName ∈ Ts) (hnat : Cond.native arraycopyName ∈ Ts) (hstat : Cond.static arraycopyName ∈ Ts) (hini : Cond.initialized "java/lang/System" ∈ Ts)
    (ha0 : f a0 = some (t0, eO G n0 f0)) (ht0 : t0 ≠ 9999) (ha : f a = some (t, eO G n1 g0)) (ht : t ≠ 9999) {n : Nat} (hn : n < 2 ^ 31) (h4 : n ≤ n0) (h5 : n ≤ n1) (hel : ∀ i, i < n → ∀ y, f0 i = some y → elO f y)
    (hframes : 1 ≤ R.frames) (hlocals : (rest.map fun v => v.category).sum + (nativeFrameWords "java/lang/System" "arraycopy" 5 + 11) ≤ R.locals) (hdg : decode cc pc = .ok (.invokestatic index, 3))
    (kk : ∀ (H : Heap) (locs : List Loc), cxS G s (wu f a t (eO G n1 (va_cpy f0 g0 0 0 n))) H locs → W p l e R s m args below meth c H locs cells slots Q (F0 m (pc + 3) ls rest)) : W p l e R s m args below meth c H locs cells slots Q (F0 m pc ls (.int (nI n) :: .int 0 :: .ref a :: .int 0 :: .ref a0 :: rest)) := by
  obtain ⟨ws, hP, hD, h3, -⟩ := S.1.list
  obtain ⟨q0, hq0⟩ := h3 a0 t0 _ ha0 ht0
  obtain ⟨q1, hq1⟩ := h3 a t _ ha ht
  have hc : (nI n).toNatClampNeg = n := nI_clamp hn
  have hz : (0 : Int32).toNatClampNeg = 0 := by decide
  refine va_copyM (E0 := "java/lang/Object") (E1 := "java/lang/Object") X.1 X.2.1 (by rw [X.2.2.1, hls]) X.2.2.2.1 (X.2.2.2.2.1 _ hlink) (X.2.2.2.2.1 _ hnat) (X.2.2.2.2.1 _ hstat) (X.2.2.2.2.1 _ hini) X.2.2.2.2.2.1.1 hP hD S.2 q0 q1 2 2 hq0 hq1 rfl rfl (by decide) (by decide) (nI_pos hn) (by rw [hc, hz]; omega) (by rw [hc, hz]; omega) (fun i hi y hy => ?_) hframes hlocals hdg (fun H1 locs1 hP1 _ hS1 => ?_)
  · rw [hc] at hi
    rw [hz, Nat.zero_add] at hy
    obtain ⟨ty, ci, vs, r, e1, e2, e3⟩ := hel i hi y hy
    refine va_rAny X.2.2.2.2.2.1.1 (S.1.one e1) (q0 := 0) rfl e2 (fun comp c0 h1 h2 => ?_)
    obtain ⟨c1, t1, f1, f2, f3⟩ := X.2.2.2.2.2.1.2.2.2.2.2.1 _ e3
    cases h1.symm.trans f2
    cases h2.symm.trans f1
    exact f3
  · rw [hc, hz] at hP1
    exact kk H1 locs1 ⟨S.1.put X.2.2.2.2.2.2.1 h3 hq1 ha ht hP1 hS1, hS1⟩
theorem r_cloneI (X : cxC G p l R c cc nL m meth s args own Ts) (S : cxS G s f H locs) (tg : Nat) (htg : tg ≠ 9999) {index n : Nat} {f0 : Nat → Int32} (hls : ls.size = nL)
    (hlink : Cond.methodLink own index ⟨"[I", "clone", "()Ljava/lang/Object;"⟩ ∈ Ts) (hsame : Cond.sameMethod "[I" "java/lang/Object" "clone" "()Ljava/lang/Object;" ∈ Ts) (hnat : Cond.native ⟨"java/lang/Object", "clone", "()Ljava/lang/Object;"⟩ ∈ Ts) (hinst : Cond.instanceMethod ⟨"java/lang/Object", "clone", "()Ljava/lang/Object;"⟩ ∈ Ts) (hsel : Cond.selects "[I" ⟨"[I", "clone", "()Ljava/lang/Object;"⟩ ⟨"java/lang/Object", "clone", "()Ljava/lang/Object;"⟩ ∈ Ts)
    (ha : f a = some (t, eI G n f0)) (ht : t ≠ 9999) (hframes : 1 ≤ R.frames) (hlocals : (rest.map fun v => v.category).sum + 14 ≤ R.locals) (hcells : cells + 1 ≤ R.cells) (hslots : slots + n ≤ R.slots) (hdg : decode cc pc = .ok (.invokevirtual index, 3))
    (kk : ∀ (q : Nat) (H : Heap), f q = none → cxS G s (wu f q tg (eI G n f0)) H locs → W p l e R s m args below meth c H locs (cells + 1) (slots + n) Q (F0 m (pc + 3) ls (.ref q :: rest))) : W p l e R s m args below meth c H locs cells slots Q (F0 m pc ls (.ref a :: rest)) := by
  obtain ⟨ws, hP, hD, h3, -⟩ := S.1.list
  obtain ⟨q0, hq0⟩ := h3 a t _ ha ht
  have hRA := (X.2.2.2.2.2.1.1.2 0 (gI G, .int) rfl).2
  refine va_clone (x := (n, .inl f0)) X.1 X.2.1 (by rw [X.2.2.1, hls]) X.2.2.2.1 (X.2.2.2.2.1 _ hlink) (X.2.2.2.2.1 _ hsame) (X.2.2.2.2.1 _ hnat) (X.2.2.2.2.1 _ hinst) (X.2.2.2.2.1 _ hsel) (X.2.2.2.2.2.1.2.2.2.2.2.1 ("[I", "java/lang/Cloneable") (by decide +kernel)).nw X.2.2.2.2.2.1.1 hP hD S.2 (fun q hq => Nat.le_trans X.2.2.2.2.2.2.1.1 hq) q0 0 hq0 rfl (va_nm_int hRA) (va_fit (fun _ _ => rfl)) hframes hlocals hcells hslots hdg (fun q H1 _ hP1 hD1 hS1 => ?_)
  obtain ⟨r1, r2⟩ := S.1.push X.2.2.2.2.2.2.1 h3 htg hP1 hD1 hS1
  exact kk q H1 r1 ⟨r2, hS1⟩
end CXL
