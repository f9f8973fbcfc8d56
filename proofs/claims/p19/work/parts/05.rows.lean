/-! an instruction, a row, over the world as a map -/
section CXR
variable {G : cx_G} {p : Program} {l : Launch} {e : Env} {R : Room} {s : State} {m : MethodId} {args : Array Value} {below : List Frame} {meth : Method} {c : Code} {H : Heap} {locs : List Loc} {cells slots : Nat} {Q : State → Prop}
variable {cc : ByteArray} {nL : Nat} {own : String} {Ts : List Cond} {pc : Nat} {ls : Array Slot} {rest : List Value} {f : Wd} {a t : Nat}
theorem r_get (X : cxC G p l R c cc nL m meth s args own Ts) (S : cxS G s f H locs) {ref C : String} {T : u_T} {N ci index : Nat} (hin : ∀ w ∈ u_ws C T N, w ∈ Ts) {fs : List Value} (ha : f a = some (t, .inr (ci, fs))) (hc : vwCl[ci]? = some (C, T, N)) (k : Nat) (hk : k < N) (hlink : Cond.fieldLink own index ref (T k).2.1 (T k).2.2.1 ∈ Ts)
    (hsame : ∀ x, s.fieldFound? (T k).1 (T k).2.1 (T k).2.2.1 = some x → s.fieldFound? ref (T k).2.1 (T k).2.2.1 = some x) {v : Value} (hv : fs[k]? = some v) (hdg : decode cc pc = .ok (.getfield index, 3))
    (kk : W p l e R s m args below meth c H locs cells slots Q (F0 m (pc + 3) ls (v :: rest))) : W p l e R s m args below meth c H locs cells slots Q (F0 m pc ls (.ref a :: rest)) :=
  va_get X.1 X.2.1 X.2.2.2.2.1 hin X.2.2.2.1 X.2.2.2.2.2.1.1 (S.1.one ha) 0 rfl hc k hk (X.2.2.2.2.1 _ hlink) hsame hv hdg kk
theorem r_put (X : cxC G p l R c cc nL m meth s args own Ts) (S : cxS G s f H locs) {ref C : String} {T : u_T} {N ci index : Nat} (hin : ∀ w ∈ u_ws C T N, w ∈ Ts) (ty0 : Nat → FieldType) (hty : ∀ k, k < N → parseFieldDescriptor (T k).2.2.1 = some (ty0 k)) (hnm : ∀ a, a < N → ∀ b, b < N → a ≠ b → (T a).2.1 ≠ (T b).2.1) {fs fs' : List Value} (ha : f a = some (t, .inr (ci, fs))) (ht : t ≠ 9999) (hc : vwCl[ci]? = some (C, T, N)) (k : Nat) (hk : k < N) (hlink : Cond.fieldLink own index ref (T k).2.1 (T k).2.2.1 ∈ Ts)
    (hsame : ∀ x, s.fieldFound? (T k).1 (T k).2.1 (T k).2.2.1 = some x → s.fieldFound? ref (T k).2.1 (T k).2.2.1 = some x) (hfin : (T k).2.2.2 = false) {ty : FieldType} {v : Value} (hd : parseFieldDescriptor (T k).2.2.1 = some ty) (hn : narrow ty v = v) (hfit : fits ty v = true) (hl : k < fs.length) (hfs : fs.set k v = fs') (hdg : decode cc pc = .ok (.putfield index, 3))
    (kk : ∀ (H : Heap) (locs : List Loc), cxS G s (wu f a t (.inr (ci, fs'))) H locs → W p l e R s m args below meth c H locs cells slots Q (F0 m (pc + 3) ls rest)) : W p l e R s m args below meth c H locs cells slots Q (F0 m pc ls (v :: .ref a :: rest)) := by
  subst hfs
  obtain ⟨ws, hP, hD, h3, -⟩ := S.1.list
  obtain ⟨q0, hq⟩ := h3 a t _ ha ht
  exact va_put X.1 X.2.1 X.2.2.2.2.1 hin ty0 hty hnm X.2.2.2.1 X.2.2.2.2.2.1.1 hP hD S.2 q0 hq hc k hk (X.2.2.2.2.1 _ hlink) hsame hfin hd hn hfit hl hdg (fun H1 locs1 hP1 _ hS1 => kk H1 locs1 ⟨S.1.put X.2.2.2.2.2.2.1 h3 hq ha ht hP1 hS1, hS1⟩)
theorem r_putF (X : cxC G p l R c cc nL m meth s args own Ts) (S : cxS G s f H locs) {ref C : String} {T : u_T} {N ci index : Nat} (hin : ∀ w ∈ u_ws C T N, w ∈ Ts) (ty0 : Nat → FieldType) (hty : ∀ k, k < N → parseFieldDescriptor (T k).2.2.1 = some (ty0 k)) (hnm : ∀ a, a < N → ∀ b, b < N → a ≠ b → (T a).2.1 ≠ (T b).2.1) {fs fs' : List Value} (ha : f a = some (t, .inr (ci, fs))) (ht : t ≠ 9999) (hc : vwCl[ci]? = some (C, T, N)) (k : Nat) (hk : k < N) (hlink : Cond.fieldLink own index ref (T k).2.1 (T k).2.2.1 ∈ Ts)
    (hsame : ∀ x, s.fieldFound? (T k).1 (T k).2.1 (T k).2.2.1 = some x → s.fieldFound? ref (T k).2.1 (T k).2.2.1 = some x) (hfin : (T k).2.2.2 = true) (hin2 : meth.name = "<init>") (hdecl : (T k).1 = own) {ty : FieldType} {v : Value} (hd : parseFieldDescriptor (T k).2.2.1 = some ty) (hn : narrow ty v = v) (hfit : fits ty v = true) (hl : k < fs.length) (hfs : fs.set k v = fs') (hdg : decode cc pc = .ok (.putfield index, 3))
    (kk : ∀ (H : Heap) (locs : List Loc), cxS G s (wu f a t (.inr (ci, fs'))) H locs → W p l e R s m args below meth c H locs cells slots Q (F0 m (pc + 3) ls rest)) : W p l e R s m args below meth c H locs cells slots Q (F0 m pc ls (v :: .ref a :: rest)) := by
  subst hfs
  obtain ⟨ws, hP, hD, h3, -⟩ := S.1.list
  obtain ⟨q0, hq⟩ := h3 a t _ ha ht
  exact va_putF X.1 X.2.1 X.2.2.2.2.1 hin ty0 hty hnm X.2.2.2.1 X.2.2.2.2.2.1.1 hP hD S.2 q0 hq hc k hk (X.2.2.2.2.1 _ hlink) hsame hfin hin2 hdecl hd hn hfit hl hdg (fun H1 locs1 hP1 _ hS1 => kk H1 locs1 ⟨S.1.put X.2.2.2.2.2.2.1 h3 hq ha ht hP1 hS1, hS1⟩)
theorem r_iald (X : cxC G p l R c cc nL m meth s args own Ts) (S : cxS G s f H locs) {n : Nat} {f0 : Nat → Int32} (ha : f a = some (t, eI G n f0)) {i : Int32} {v : Int32} (hin : vp_in i n) (hv : f0 i.toNatClampNeg = v) (hdg : decode cc pc = .ok (.iaload, 1))
    (kk : W p l e R s m args below meth c H locs cells slots Q (F0 m (pc + 1) ls (.int v :: rest))) : W p l e R s m args below meth c H locs cells slots Q (F0 m pc ls (.int i :: .ref a :: rest)) := by
  subst hv
  exact va_iald X.1 X.2.1 X.2.2.2.2.2.1.1 (S.1.one ha) 0 0 rfl rfl hin hdg kk
theorem r_lald (X : cxC G p l R c cc nL m meth s args own Ts) (S : cxS G s f H locs) {n : Nat} {f0 : Nat → Int64} (ha : f a = some (t, eJ G n f0)) {i : Int32} {v : Int64} (hin : vp_in i n) (hv : f0 i.toNatClampNeg = v) (hdg : decode cc pc = .ok (.laload, 1))
    (kk : W p l e R s m args below meth c H locs cells slots Q (F0 m (pc + 1) ls (.long v :: rest))) : W p l e R s m args below meth c H locs cells slots Q (F0 m pc ls (.int i :: .ref a :: rest)) := by
  subst hv
  exact va_lald X.1 X.2.1 X.2.2.2.2.2.1.1 (S.1.one ha) 0 1 rfl rfl hin hdg kk
theorem r_aald (X : cxC G p l R c cc nL m meth s args own Ts) (S : cxS G s f H locs) {n : Nat} {f0 : Nat → Option Nat} (ha : f a = some (t, eO G n f0)) {i : Int32} {v : Nat} (hin : vp_in i n) (hv : f0 i.toNatClampNeg = some v) (hdg : decode cc pc = .ok (.aaload, 1))
    (kk : W p l e R s m args below meth c H locs cells slots Q (F0 m (pc + 1) ls (.ref v :: rest))) : W p l e R s m args below meth c H locs cells slots Q (F0 m pc ls (.int i :: .ref a :: rest)) := by
  refine va_aldq X.1 X.2.1 X.2.2.2.2.2.1.1 (S.1.one ha (ne_O (fun q => hin (Or.inr (by rw [q]; exact Nat.zero_le _))))) 0 2 rfl rfl hin hdg ?_
  rw [hv]
  exact kk
theorem r_alenI (X : cxC G p l R c cc nL m meth s args own Ts) (S : cxS G s f H locs) {n : Nat} {f0 : Nat → Int32} (ha : f a = some (t, eI G n f0)) {v : Int32} (hv : Int32.ofNat n = v) (hdg : decode cc pc = .ok (.arraylength, 1))
    (kk : W p l e R s m args below meth c H locs cells slots Q (F0 m (pc + 1) ls (.int v :: rest))) : W p l e R s m args below meth c H locs cells slots Q (F0 m pc ls (.ref a :: rest)) :=
  va_alen X.1 X.2.1 X.2.2.2.2.2.1.1 (S.1.one ha) 0 0 rfl rfl hv hdg kk
theorem r_alenO (X : cxC G p l R c cc nL m meth s args own Ts) (S : cxS G s f H locs) {n : Nat} {f0 : Nat → Option Nat} (ha : f a = some (t, eO G n f0)) {v : Int32} (hv : Int32.ofNat n = v) (hdg : decode cc pc = .ok (.arraylength, 1))
    (kk : W p l e R s m args below meth c H locs cells slots Q (F0 m (pc + 1) ls (.int v :: rest))) : W p l e R s m args below meth c H locs cells slots Q (F0 m pc ls (.ref a :: rest)) := by
  by_cases ht : t = 9999
  · subst ht
    obtain ⟨cell, h1, h2, h3, h4, -⟩ := X.2.2.2.2.2.1.2.2.2.2.2.2.2.2.2.1.2
    have hg := S.1.2.2.1
    have ea : a = gd G := by
      rcases S.1.2.1 a 9999 _ ha with r | r
      · exact absurd rfl r.1
      · exact r.2
    have hc : H[a]? = some cell := by rw [ea]; exact (S.1.2.2.2.2.2 _ S.1.2.2.2.1).trans h1
    rw [← ea, ha] at hg
    have hn : n = 0 := by
      have := congrArg Prod.snd (Option.some.inj hg)
      simp at this
      exact this.1
    exact W.alen (n := v) X.1 X.2.1 hc h2 (by rw [h4, ← hv, hn] <;> rfl) rfl rfl hdg kk
  · refine va_alen X.1 X.2.1 X.2.2.2.2.2.1.1 (ws := [(a, eO G n f0)]) (fun k q hk => ?_) 0 2 rfl rfl hv hdg kk
    have hz : k < 1 := (List.getElem?_eq_some_iff.mp hk).1
    rw [show k = 0 by omega] at hk
    cases hk
    exact S.1.1 a t _ ha ht
theorem r_iast (X : cxC G p l R c cc nL m meth s args own Ts) (S : cxS G s f H locs) {n : Nat} {f0 : Nat → Int32} (ha : f a = some (t, eI G n f0)) (ht : t ≠ 9999) {i x : Int32} (hin : vp_in i n) (hdg : decode cc pc = .ok (.iastore, 1))
    (kk : ∀ (H : Heap) (locs : List Loc), cxS G s (wu f a t (eI G n (upd f0 i.toNatClampNeg x))) H locs → W p l e R s m args below meth c H locs cells slots Q (F0 m (pc + 1) ls rest)) : W p l e R s m args below meth c H locs cells slots Q (F0 m pc ls (.int x :: .int i :: .ref a :: rest)) := by
  obtain ⟨ws, hP, hD, h3, -⟩ := S.1.list
  obtain ⟨q0, hq⟩ := h3 a t _ ha ht
  exact va_iast X.1 X.2.1 X.2.2.2.2.2.1.1 hP hD S.2 q0 0 hq rfl hin hdg (fun H1 locs1 hP1 _ hS1 => kk H1 locs1 ⟨S.1.put X.2.2.2.2.2.2.1 h3 hq ha ht hP1 hS1, hS1⟩)
theorem r_last (X : cxC G p l R c cc nL m meth s args own Ts) (S : cxS G s f H locs) {n : Nat} {f0 : Nat → Int64} (ha : f a = some (t, eJ G n f0)) (ht : t ≠ 9999) {i : Int32} {x : Int64} (hin : vp_in i n) (hdg : decode cc pc = .ok (.lastore, 1))
    (kk : ∀ (H : Heap) (locs : List Loc), cxS G s (wu f a t (eJ G n (vp_updL f0 i.toNatClampNeg x))) H locs → W p l e R s m args below meth c H locs cells slots Q (F0 m (pc + 1) ls rest)) : W p l e R s m args below meth c H locs cells slots Q (F0 m pc ls (.long x :: .int i :: .ref a :: rest)) := by
  obtain ⟨ws, hP, hD, h3, -⟩ := S.1.list
  obtain ⟨q0, hq⟩ := h3 a t _ ha ht
  exact va_last X.1 X.2.1 X.2.2.2.2.2.1.1 hP hD S.2 q0 1 hq rfl hin hdg (fun H1 locs1 hP1 _ hS1 => kk H1 locs1 ⟨S.1.put X.2.2.2.2.2.2.1 h3 hq ha ht hP1 hS1, hS1⟩)
theorem r_aast (X : cxC G p l R c cc nL m meth s args own Ts) (S : cxS G s f H locs) {n : Nat} {f0 : Nat → Option Nat} (ha : f a = some (t, eO G n f0)) (ht : t ≠ 9999) {i : Int32} {v tv ci : Nat} {r : vw_C} {vs : List Value} (hv : f v = some (tv, .inr (ci, vs))) (hc : vwCl[ci]? = some r) (hca : (r.1, "java/lang/Object") ∈ gY) (hin : vp_in i n) (hdg : decode cc pc = .ok (.aastore, 1))
    (kk : ∀ (H : Heap) (locs : List Loc), cxS G s (wu f a t (eO G n (va_up f0 i.toNatClampNeg (some v)))) H locs → W p l e R s m args below meth c H locs cells slots Q (F0 m (pc + 1) ls rest)) : W p l e R s m args below meth c H locs cells slots Q (F0 m pc ls (.ref v :: .int i :: .ref a :: rest)) := by
  obtain ⟨ws, hP, hD, h3, -⟩ := S.1.list
  obtain ⟨q0, hq⟩ := h3 a t _ ha ht
  have hcY := (X.2.2.2.2.2.1.2.2.2.2.2.1 _ hca).nw
  refine va_astqM (E := "java/lang/Object") X.1 X.2.1 X.2.2.2.2.2.1.1 hP hD S.2 q0 2 hq rfl (va_rAny X.2.2.2.2.2.1.1 (S.1.one hv) (q0 := 0) rfl hc ?_) hin hdg (fun H1 locs1 hP1 _ hS1 => kk H1 locs1 ⟨S.1.put X.2.2.2.2.2.2.1 h3 hq ha ht hP1 hS1, hS1⟩)
  intro comp c0 h1 h2
  obtain ⟨c1, t1, f1, f2, f3⟩ := X.2.2.2.2.2.1.2.2.2.2.2.1 _ hca
  cases h1.symm.trans f2
  cases h2.symm.trans f1
  exact f3
theorem r_new (X : cxC G p l R c cc nL m meth s args own Ts) (S : cxS G s f H locs) (tg : Nat) (htg : tg ≠ 9999) {C : String} {T : u_T} {N ci index : Nat} (hin : ∀ w ∈ u_ws C T N, w ∈ Ts) (ty : Nat → FieldType) (hty : ∀ k, k < N → parseFieldDescriptor (T k).2.2.1 = some (ty k)) (hcl : Cond.classLink own index C ∈ Ts) (hinst : Cond.instantiable C N ∈ Ts) (hini : Cond.initialized C ∈ Ts) (hc : vwCl[ci]? = some (C, T, N)) {fs : List Value} (hfs : ∀ j, j < N → defaultValue (ty j) = vp_V fs j) (hcells : cells + 1 ≤ R.cells) (hslots : slots + N ≤ R.slots) (hdg : decode cc pc = .ok (.new index, 3))
    (kk : ∀ (q : Nat) (H : Heap), f q = none → cxS G s (wu f q tg (.inr (ci, fs))) H locs → W p l e R s m args below meth c H locs (cells + 1) (slots + N) Q (F0 m (pc + 3) ls (.ref q :: rest))) : W p l e R s m args below meth c H locs cells slots Q (F0 m pc ls rest) := by
  obtain ⟨ws, hP, hD, h3, -⟩ := S.1.list
  exact va_new X.1 X.2.1 X.2.2.2.2.1 hin ty hty X.2.2.2.1 (X.2.2.2.2.1 _ hcl) (X.2.2.2.2.1 _ hinst) (X.2.2.2.2.1 _ hini) X.2.2.2.2.2.1.1 hP hD S.2 (fun q hq => Nat.le_trans X.2.2.2.2.2.2.1.1 hq) hc hfs hcells hslots hdg (fun q H1 hP1 hD1 hS1 => by
    obtain ⟨r1, r2⟩ := S.1.push X.2.2.2.2.2.2.1 h3 htg hP1 hD1 hS1
    exact kk q H1 r1 ⟨r2, hS1⟩)
theorem cx_RAeq {U : State} {c1 c2 : ClassId} {ty : FieldType} (h1 : va_RA U c1 ty) (h2 : va_RA U c2 ty) : c1 = c2 := by
  cases ty with
  | object C =>
    obtain ⟨_, _, _, _, _, a1⟩ := h1
    obtain ⟨_, _, _, _, _, a2⟩ := h2
    exact Option.some.inj (a1.symm.trans a2)
  | _ => exact Option.some.inj ((show U.vm.findClass _ = some c1 from h1).symm.trans (show U.vm.findClass _ = some c2 from h2))
theorem r_newI (X : cxC G p l R c cc nL m meth s args own Ts) (S : cxS G s f H locs) (tg : Nat) (htg : tg ≠ 9999) (harr : Cond.arrayClass .int ∈ Ts) {n : Int32} {N' : Nat} (hn : ¬ n < 0) (hN : n.toNatClampNeg = N') (hbytes : N' * 4 ≤ 536870912) (hcells : cells + 1 ≤ R.cells) (hslots : slots + N' ≤ R.slots) (hdg : decode cc pc = .ok (.newarray .int, 2))
    (kk : ∀ (q : Nat) (H : Heap), f q = none → cxS G s (wu f q tg (eI G N' (fun _ => 0))) H locs → W p l e R s m args below meth c H locs (cells + 1) (slots + N') Q (F0 m (pc + 2) ls (.ref q :: rest))) : W p l e R s m args below meth c H locs cells slots Q (F0 m pc ls (.int n :: rest)) := by
  obtain ⟨ws, hP, hD, h3, -⟩ := S.1.list
  refine va_newa (atype := .int) (ty := .int) (a0 := (N', .inl (fun _ => 0))) X.1 X.2.1 (X.2.2.2.2.1 _ harr) rfl X.2.2.2.2.2.1.1 hP hD S.2 (fun q hq => Nat.le_trans X.2.2.2.2.2.2.1.1 hq) (fun _ => rfl) hn hN hbytes hcells hslots hdg (fun q cA H1 hK1 hP1 hD1 hS1 => ?_)
  have e1 : cA = gI G := cx_RAeq (hK1.2 3 (cA, .int) rfl).2 (hK1.2 0 (gI G, .int) rfl).2
  subst e1
  obtain ⟨r1, r2⟩ := S.1.push X.2.2.2.2.2.2.1 h3 htg hP1 hD1 hS1
  exact kk q H1 r1 ⟨r2, hS1⟩
theorem r_newJ (X : cxC G p l R c cc nL m meth s args own Ts) (S : cxS G s f H locs) (tg : Nat) (htg : tg ≠ 9999) (harr : Cond.arrayClass .long ∈ Ts) {n : Int32} {N' : Nat} (hn : ¬ n < 0) (hN : n.toNatClampNeg = N') (hbytes : N' * 8 ≤ 536870912) (hcells : cells + 1 ≤ R.cells) (hslots : slots + N' ≤ R.slots) (hdg : decode cc pc = .ok (.newarray .long, 2))
    (kk : ∀ (q : Nat) (H : Heap), f q = none → cxS G s (wu f q tg (eJ G N' (fun _ => 0))) H locs → W p l e R s m args below meth c H locs (cells + 1) (slots + N') Q (F0 m (pc + 2) ls (.ref q :: rest))) : W p l e R s m args below meth c H locs cells slots Q (F0 m pc ls (.int n :: rest)) := by
  obtain ⟨ws, hP, hD, h3, -⟩ := S.1.list
  refine va_newa (atype := .long) (ty := .long) (a0 := (N', .inr (.inl (fun _ => 0)))) X.1 X.2.1 (X.2.2.2.2.1 _ harr) rfl X.2.2.2.2.2.1.1 hP hD S.2 (fun q hq => Nat.le_trans X.2.2.2.2.2.2.1.1 hq) (fun _ => rfl) hn hN hbytes hcells hslots hdg (fun q cA H1 hK1 hP1 hD1 hS1 => ?_)
  have e1 : cA = gJ G := cx_RAeq (hK1.2 3 (cA, .long) rfl).2 (hK1.2 1 (gJ G, .long) rfl).2
  subst e1
  obtain ⟨r1, r2⟩ := S.1.push X.2.2.2.2.2.2.1 h3 htg hP1 hD1 hS1
  exact kk q H1 r1 ⟨r2, hS1⟩
theorem r_newO (X : cxC G p l R c cc nL m meth s args own Ts) (S : cxS G s f H locs) (tg : Nat) (htg : tg ≠ 9999) {index : Nat} (hlink : Cond.classLink own index "java/lang/Object" ∈ Ts) {n : Int32} {N' : Nat} (hn : ¬ n < 0) (hN : n.toNatClampNeg = N') (hbytes : N' * 4 ≤ 536870912) (hcells : cells + 1 ≤ R.cells) (hslots : slots + N' ≤ R.slots) (hdg : decode cc pc = .ok (.anewarray index, 3))
    (kk : ∀ (q : Nat) (H : Heap), f q = none → cxS G s (wu f q tg (eO G N' (fun _ => none))) H locs → W p l e R s m args below meth c H locs (cells + 1) (slots + N') Q (F0 m (pc + 3) ls (.ref q :: rest))) : W p l e R s m args below meth c H locs cells slots Q (F0 m pc ls (.int n :: rest)) := by
  obtain ⟨ws, hP, hD, h3, -⟩ := S.1.list
  refine va_newq X.1 X.2.1 X.2.2.2.1 (X.2.2.2.2.1 _ hlink) X.2.2.2.2.2.1.2.2.2.2.2.2.2.1 X.2.2.2.2.2.1.1 hP hD S.2 (fun q hq => Nat.le_trans X.2.2.2.2.2.2.1.1 hq) hn hN hbytes hcells hslots hdg (fun q cA H1 hK1 hP1 hD1 hS1 => ?_)
  have e1 : cA = gO G := cx_RAeq (hK1.2 3 (cA, .object "java/lang/Object") rfl).2 (hK1.2 2 (gO G, .object "java/lang/Object") rfl).2
  subst e1
  obtain ⟨r1, r2⟩ := S.1.push X.2.2.2.2.2.2.1 h3 htg hP1 hD1 hS1
  exact kk q H1 r1 ⟨r2, hS1⟩
theorem r_gets (X : cxC G p l R c cc nL m meth s args own Ts) (S : cxS G s f H locs) {index : Nat} {ref : String} (hr : ref = "java/util/ArrayList") (hlink : Cond.fieldLink own index ref "DEFAULTCAPACITY_EMPTY_ELEMENTDATA" "[Ljava/lang/Object;" ∈ Ts) (hdg : decode cc pc = .ok (.getstatic index, 3))
    (kk : W p l e R s m args below meth c H locs cells slots Q (F0 m (pc + 3) ls (.ref (gd G) :: rest))) : W p l e R s m args below meth c H locs cells slots Q (F0 m pc ls rest) := by
  subst hr
  exact va_gets X.1 X.2.1 (X.2.2.2.2.2.1.2.1.kept (fun q h1 _ => X.2.2.2.2.2.2.1.2 q h1)) S.2 X.2.2.2.1 (X.2.2.2.2.1 _ hlink) (fun _ h => h) hdg kk
theorem r_castS (X : cxC G p l R c cc nL m meth s args own Ts) (S : cxS G s f H locs) {index ci : Nat} {r : vw_C} {nm : String} {fs : List Value} (hr : r.1 = nm) (hlink : Cond.classLink own index nm ∈ Ts) (ha : f a = some (t, .inr (ci, fs))) (hc : vwCl[ci]? = some r) (hdg : decode cc pc = .ok (.checkcast index, 3))
    (kk : W p l e R s m args below meth c H locs cells slots Q (F0 m (pc + 3) ls (.ref a :: rest))) : W p l e R s m args below meth c H locs cells slots Q (F0 m pc ls (.ref a :: rest)) := by
  subst hr
  exact va_castS X.1 X.2.1 X.2.2.2.1 (X.2.2.2.2.1 _ hlink) (X.2.2.2.2.2.1.1.1 ci r hc).2 (va_recv X.2.2.2.2.2.1.1 (S.1.one ha) (q0 := 0) hc rfl) hdg kk
theorem r_castY (X : cxC G p l R c cc nL m meth s args own Ts) (S : cxS G s f H locs) {index ci : Nat} {r : vw_C} {nm : String} {fs : List Value} (hY : (r.1, nm) ∈ gY) (hlink : Cond.classLink own index nm ∈ Ts) (ha : f a = some (t, .inr (ci, fs))) (hc : vwCl[ci]? = some r) (hdg : decode cc pc = .ok (.checkcast index, 3))
    (kk : W p l e R s m args below meth c H locs cells slots Q (F0 m (pc + 3) ls (.ref a :: rest))) : W p l e R s m args below meth c H locs cells slots Q (F0 m pc ls (.ref a :: rest)) :=
  va_castY X.1 X.2.1 X.2.2.2.1 (X.2.2.2.2.1 _ hlink) (X.2.2.2.2.2.1.2.2.2.2.2.1 _ hY).nw (va_recv X.2.2.2.2.2.1.1 (S.1.one ha) (q0 := 0) hc rfl) hdg kk
theorem r_objInit (X : cxC G p l R c cc nL m meth s args own Ts) {idx : Nat} (hlink : Cond.methodLink own idx objectInit ∈ Ts) (hinst : Cond.instanceMethod objectInit ∈ Ts) (hcode : Cond.code objectInit ⟨#[0xb1]⟩ 1 none ∈ Ts) (hls : ls.size = nL) (hd : decode cc pc = .ok (.invokespecial idx, 3)) (hframes : 1 ≤ R.frames) (hlocals : (rest.map fun v => v.category).sum + 12 ≤ R.locals)
    (kk : W p l e R s m args below meth c H locs cells slots Q (F0 m (pc + 3) ls rest)) : W p l e R s m args below meth c H locs cells slots Q (F0 m pc ls (.ref a :: rest)) :=
  W.objInit X.1 X.2.1 X.2.2.2.1 (X.2.2.2.2.1 _ hlink) (X.2.2.2.2.1 _ hinst) (X.2.2.2.2.1 _ hcode) rfl (by rw [X.2.2.1]; exact hls) rfl hd hframes (by show 2 * 0 + _ + 12 ≤ _; omega) kk
theorem r_ldc (X : cxC G p l R c cc nL m meth s args own Ts) {index : Nat} {v : Int32} (hconst : Cond.constant own index v ∈ Ts) (hdg : decode cc pc = .ok (.ldc index, 2)) (k : W p l e R s m args below meth c H locs cells slots Q (F0 m (pc + 2) ls (.int v :: rest))) : W p l e R s m args below meth c H locs cells slots Q (F0 m pc ls rest) := lv_ldc X.1 X.2.1 X.2.2.2.1 (X.2.2.2.2.1 _ hconst) hdg k
theorem r_ldc2 (X : cxC G p l R c cc nL m meth s args own Ts) {index : Nat} {v : Int64} (hconst : Cond.constantLong own index v ∈ Ts) (hdg : decode cc pc = .ok (.ldc2_w index, 3)) (k : W p l e R s m args below meth c H locs cells slots Q (F0 m (pc + 3) ls (.long v :: rest))) : W p l e R s m args below meth c H locs cells slots Q (F0 m pc ls rest) := lv_ldc2 X.1 X.2.1 X.2.2.2.1 (X.2.2.2.2.1 _ hconst) hdg k
end CXR
