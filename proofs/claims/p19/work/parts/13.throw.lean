/-! methods that throw: a throw leaves the world as it is -/
theorem hp.ext {G : cx_G} {f : Wd} {H H1 : Heap} (h : hp G f H) (hz : H.size ≤ H1.size) (hq : ∀ q : Nat, q < H.size → H1[q]? = H[q]?) : hp G f H1 :=
  ⟨fun a t e ha ht => (h.1 a t e ha ht).kept (hq a (h.1 a t e ha ht).lt), h.2.1, h.2.2.1, h.2.2.2.1, Nat.le_trans h.2.2.2.2.1 hz, fun q hq2 => (hq q (Nat.lt_of_lt_of_le hq2 h.2.2.2.2.1)).trans (h.2.2.2.2.2 q hq2)⟩
def XC (G : cx_G) (f : Wd) (Ψ : String → Prop) : String → State → State → Prop := vx_X (fun _ : Unit => True) (fun E _ t => Ψ E ∧ hp G f t.heap) (gA G)
abbrev XV (l : Launch) (G : cx_G) (y : MethodName) (ws : List Cond) (fr lo mc ms : Nat) (as : List Value) (f : Wd) (Φ : Prop) (Ψ : String → Prop) : Prop :=
  vx_Met l y ws { frames := fr, cells := mc, slots := ms, locals := lo } (va_Pc as (Pin G f)) (va_Qv (fun _ : Unit => Φ) (fun _ t => hp G f t.heap) (gA G)) (XC G f Ψ) mc ms (gA G)
abbrev XI (l : Launch) (G : cx_G) (y : MethodName) (ws : List Cond) (fr lo mc ms : Nat) (as : List Value) (f : Wd) (Φ : Int32 → Wd → Prop) (Ψ : String → Prop) : Prop :=
  vx_Met l y ws { frames := fr, cells := mc, slots := ms, locals := lo } (va_Pc as (Pin G f)) (va_Qi Φ (fun f' t => hp G f' t.heap) (gA G)) (XC G f Ψ) mc ms (gA G)
abbrev XL (l : Launch) (G : cx_G) (y : MethodName) (ws : List Cond) (fr lo mc ms : Nat) (as : List Value) (f : Wd) (Φ : Int64 → Wd → Prop) (Ψ : String → Prop) : Prop :=
  vx_Met l y ws { frames := fr, cells := mc, slots := ms, locals := lo } (va_Pc as (Pin G f)) (va_Ql Φ (fun f' t => hp G f' t.heap) (gA G)) (XC G f Ψ) mc ms (gA G)
def gBx (X : String) : List Cond := [.declares (Bundle.initS "java/lang/RuntimeException"), .declares (Bundle.initS "java/lang/Exception"), .declares (Bundle.initS Bundle.tN), .castable X X]
theorem vx_body {l : Launch} {G : cx_G} {y : MethodName} {ws : List Cond} {rm : Room} {as : List Value} {f : Wd} {cc : ByteArray} {n : Nat} {ret : Option FieldType} {Q : Array Value → State → Outcome → State → Prop} {Xc : String → State → State → Prop} {mc ms : Nat} {ws' : List Cond}
    (hy : plainName y.cls = true) (hw : ws = Cond.code y cc n ret :: ws') (hn : (lg_sl as).length ≤ n)
    (body : ∀ (p : Program) (e : Env) (s : State) (m : MethodId) (below : List Frame) (meth : Method) (c : Code) (ls : Array Slot), cxC G p l rm c cc n m meth s as.toArray y.cls ws → meth.sig.returnType = ret → meth.name = y.name → (∀ x ∈ c.exceptionTable.toList, False) → cxS G s f s.heap [] → lv_has ls n (lv_args 0 as) →
      W p l e rm s m as.toArray below meth c s.heap [] 0 0 (vx_MQ below Q Xc as.toArray s mc ms (gA G)) (F0 m 0 ls [])) :
    vx_Met l y ws rm (va_Pc as (Pin G f)) Q Xc mc ms (gA G) := by
  refine vx_ofW (cc := cc) (maxL := n) (ret := ret) hy hw ?_
  intro p e s m args below meth c s₁ B hml hout hv
  obtain ⟨rfl, hP, hK⟩ := hv
  have hts := atoms_spec (ws := ws) B.pre
  have hl := lv_entry as (n := n) hn
  rw [lg_entry_eq]
  generalize (lg_sl as ++ List.replicate (n - (lg_sl as).length) Slot.unset).toArray = ls at hl ⊢
  exact body p e s m below meth c ls ⟨B.exec, B.bytes, hml, findClass_of_methodNamed B.named, hts, hK, hP.base, B.notSynchronized⟩ B.returns (name_of_methodNamed B.named B.method).1 hout ⟨hP, va_S.rf⟩ hl
section CXT
variable {G : cx_G} {p : Program} {l : Launch} {e : Env} {R : Room} {s : State} {m : MethodId} {args : Array Value} {below : List Frame} {meth : Method} {c : Code} {H : Heap} {locs : List Loc} {cells slots : Nat} {Q : State → Prop}
variable {cc : ByteArray} {nL : Nat} {own : String} {Ts : List Cond} {pc : Nat} {ls : Array Slot} {rest st : List Value} {f : Wd} {a t mc ms : Nat} {Qc : Array Value → State → Outcome → State → Prop} {Ψ : String → Prop}
theorem XC_of (S : cxS G s f H locs) {E : String} (hΨ : Ψ E) {t : State} (hz : H.size ≤ t.heap.size) (hq : ∀ q : Nat, q < H.size → t.heap[q]? = H[q]?) : XC G f Ψ E s t :=
  ⟨(), trivial, ⟨hΨ, S.1.ext hz hq⟩, Nat.le_trans S.2.1 hz, fun q h1 h2 => (hq q (Nat.lt_of_lt_of_le h1 S.2.1)).trans (S.2.2.1 q h1 h2)⟩
theorem cx_hat (X : cxC G p l R c cc nL m meth s args own Ts) {ic : Nat} {cls : String} {names : List String} (h1 : ∀ w ∈ (vx_atS own ic cls names).filter goodWord, w ∈ Ts) (h2 : ∀ w ∈ (vx_atS own ic cls names).filter (fun w => !goodWord w), w ∈ gBx cls) (hc : (cls, cls) ∈ gY) : ∀ w ∈ vx_atS own ic cls names, w.before args s = true := by
  refine vx_hat (B := gBx cls) (fun w hw => X.2.2.2.2.1 w (h1 w hw)) h2 ?_
  have hB := X.2.2.2.2.2.1.2.2.2.2.2.2.2.2.2.2
  refine vx_c (va_Nw.use rfl (hB _ (List.mem_cons_self))) (vx_c (va_Nw.use rfl (hB _ (List.mem_cons_of_mem _ List.mem_cons_self))) (vx_c (va_Nw.use rfl (hB _ (List.mem_cons_of_mem _ (List.mem_cons_of_mem _ List.mem_cons_self)))) (vx_c (va_Nw.use rfl (X.2.2.2.2.2.1.2.2.2.2.2.1 _ hc).nw) vx_n)))
theorem r_throw (X : cxC G p l R c cc nL m meth s args own Ts) (S : cxS G s f H locs) (hst : l.stackTraces = false) (hout : ∀ x ∈ c.exceptionTable.toList, False) {cls text : String} {ik is ic : Nat} (hown : own = "Craterclock") (hls : ls.size = nL) (hS : (is, text) ∈ gS) (hcls : Bundle.fit cls = true)
    (hk : Cond.classLink own ik cls ∈ Ts) (hini : Cond.initialized cls ∈ Ts) (hg1 : ∀ w ∈ (vx_atS own ic cls ["java/lang/RuntimeException", "java/lang/Exception"]).filter goodWord, w ∈ Ts) (hg2 : ∀ w ∈ (vx_atS own ic cls ["java/lang/RuntimeException", "java/lang/Exception"]).filter (fun w => !goodWord w), w ∈ gBx cls) (hcY : (cls, cls) ∈ gY)
    (hgood : ∀ w ∈ Cond.classLink own ik cls :: Cond.initialized cls :: vx_atS own ic cls ["java/lang/RuntimeException", "java/lang/Exception"], vx_ot w = true)
    (d0 : decode cc pc = .ok (.new ik, 3)) (d3 : decode cc (pc + 3) = .ok (.dup, 1)) (d4 : decode cc (pc + 4) = .ok (.ldc is, 2)) (d6 : decode cc (pc + 6) = .ok (.invokespecial ic, 3)) (d9 : decode cc (pc + 9) = .ok (.athrow, 1))
    (hRf : 6 ≤ R.frames) (hRl : (rest.map fun v => v.category).sum + 82 ≤ R.locals) (hRc : cells + 1 ≤ R.cells) (hRs : slots + 6 ≤ R.slots) (hc : cells + 1 ≤ mc) (hs : slots + 6 ≤ ms) (hΨ : Ψ cls) :
    W p l e R s m args below meth c H locs cells slots (vx_MQ below Qc (XC G f Ψ) args s mc ms (gA G)) (F0 m pc ls rest) := by
  subst hown
  obtain ⟨sa, hstr⟩ := X.2.2.2.2.2.1.2.2.2.2.1 _ hS
  have kq : ∀ a : Nat, a < (gH G).size → ¬ gA G a → s.heap[a]? = (gH G)[a]? := fun a h _ => X.2.2.2.2.2.2.1.2 a h
  exact vx_throwS X.1 X.2.1 hst X.2.2.2.1 hcls (by decide +kernel) (X.2.2.2.2.1 _ hk) (X.2.2.2.2.1 _ hini) hstr (cx_hat X hg1 hg2 hcY) hgood (X.2.2.2.2.2.1.2.2.1.kept kq) (X.2.2.2.2.2.1.2.2.2.1.kept kq) S.2 (by rw [X.2.2.1]; exact hls) d0 d3 d4 d6 d9 (fun x hx => (hout x hx).elim) hRf hRl hRc hRs X.2.2.2.2.2.2.2 (fun t _ hz hq => XC_of S hΨ hz hq) S.2.2.2 hc hs
theorem r_throwW (X : cxC G p l R c cc nL m meth s args own Ts) (S : cxS G s f H locs) (hst : l.stackTraces = false) (hout : ∀ x ∈ c.exceptionTable.toList, False) {cls text : String} {ik is ic : Nat} (hown : own = "Craterclock") (hls : ls.size = nL) (hS : (is, text) ∈ gS) (hcls : Bundle.fit cls = true)
    (hk : Cond.classLink own ik cls ∈ Ts) (hini : Cond.initialized cls ∈ Ts) (hg1 : ∀ w ∈ (vx_atS own ic cls ["java/lang/RuntimeException", "java/lang/Exception"]).filter goodWord, w ∈ Ts) (hg2 : ∀ w ∈ (vx_atS own ic cls ["java/lang/RuntimeException", "java/lang/Exception"]).filter (fun w => !goodWord w), w ∈ gBx cls) (hcY : (cls, cls) ∈ gY)
    (hgood : ∀ w ∈ Cond.classLink own ik cls :: Cond.initialized cls :: vx_atS own ic cls ["java/lang/RuntimeException", "java/lang/Exception"], vx_ot w = true)
    (d0 : decode cc pc = .ok (.new ik, 3)) (d3 : decode cc (pc + 3) = .ok (.dup, 1)) (d4 : decode cc (pc + 4) = .ok (.ldc_w is, 3)) (d6 : decode cc (pc + 7) = .ok (.invokespecial ic, 3)) (d9 : decode cc (pc + 10) = .ok (.athrow, 1))
    (hRf : 6 ≤ R.frames) (hRl : (rest.map fun v => v.category).sum + 82 ≤ R.locals) (hRc : cells + 1 ≤ R.cells) (hRs : slots + 6 ≤ R.slots) (hc : cells + 1 ≤ mc) (hs : slots + 6 ≤ ms) (hΨ : Ψ cls) :
    W p l e R s m args below meth c H locs cells slots (vx_MQ below Qc (XC G f Ψ) args s mc ms (gA G)) (F0 m pc ls rest) := by
  subst hown
  obtain ⟨sa, hstr⟩ := X.2.2.2.2.2.1.2.2.2.2.1 _ hS
  have kq : ∀ a : Nat, a < (gH G).size → ¬ gA G a → s.heap[a]? = (gH G)[a]? := fun a h _ => X.2.2.2.2.2.2.1.2 a h
  exact vx_throwSW X.1 X.2.1 hst X.2.2.2.1 hcls (by decide +kernel) (X.2.2.2.2.1 _ hk) (X.2.2.2.2.1 _ hini) hstr (cx_hat X hg1 hg2 hcY) hgood (X.2.2.2.2.2.1.2.2.1.kept kq) (X.2.2.2.2.2.1.2.2.2.1.kept kq) S.2 (by rw [X.2.2.1]; exact hls) d0 d3 d4 d6 d9 (fun x hx => (hout x hx).elim) hRf hRl hRc hRs X.2.2.2.2.2.2.2 (fun t _ hz hq => XC_of S hΨ hz hq) S.2.2.2 hc hs
variable {y : MethodName} {bytes : ByteArray} {maxL n index : Nat} {ret : Option FieldType} {ws ws' : List Cond} {rm : Room} {As : List Value} {b : Nat} {Xc : String → State → State → Prop}
theorem xrun_V (X : cxC G p l R c cc nL m meth s args own Ts) (S : cxS G s f H locs) (hM : vx_Met l y ws rm (va_Pc (.ref b :: As) (Pin G f)) Qc Xc mc ms (gA G)) {ci : Nat} {r : vw_C} {C : String} (n : Nat) (hg : GoodIn Ts (wsV own index C y ws)) (hw : ws = Cond.code y bytes maxL ret :: ws') (hrc : rm.cells = mc) (hrs : rm.slots = ms)
    (hd : y.cls = C ∧ y.cls ≠ "java/lang/invoke/MethodHandle" ∧ y.cls ≠ "java/lang/invoke/VarHandle" ∧ (parseMethodDescriptor y.desc).map (fun d => d.parameters.length) = some n) (hR : rm.frames + 1 ≤ R.frames ∧ 8 + (maxL + 11) + rm.locals ≤ R.locals)
    (hb : ∃ (t : Nat) (fs : List Value), f b = some (t, .inr (ci, fs))) (hc : vwCl[ci]? = some r) (hr : r.1 = C) (hn : As.length = n) (hls : ls.size = nL) (hst : st = As.reverse ++ .ref b :: rest) (hW : (rest.map fun v => v.category).sum ≤ 8) (hdg : decode cc pc = .ok (.invokevirtual index, 3)) (hf : cells + mc ≤ R.cells ∧ slots + ms ≤ R.slots) :
    vx_Run p l e R s m args below meth c H locs cells slots mc ms (F0 m pc ls st) rest (Qc (Value.ref b :: As).toArray) Xc (gA G) := by
  subst hr
  obtain ⟨t0, fs, hb⟩ := hb
  exact vx_runV (As := As) ⟨X.1, X.2.1, X.2.2.1, X.2.2.2.1, X.2.2.2.2.1⟩ hM (cwV n X.2.2.2.2.1 hg hw hrc hrs hd hR) ⟨Pin.blind, va_recv X.2.2.2.2.2.1.1 (S.1.one hb) (q0 := 0) hc rfl, fun U hU hW => ⟨rfl, by rw [hU]; exact S.1, gk.warm hW X.2.2.2.2.2.1⟩⟩ rfl hn hls hst (lv_room (pc := pc) (ls := ls) (rest := st) hW) hdg hf
theorem xrun_S (X : cxC G p l R c cc nL m meth s args own Ts) (S : cxS G s f H locs) (hM : vx_Met l y ws rm (va_Pc As (Pin G f)) Qc Xc mc ms (gA G)) (n : Nat) (hg : GoodIn Ts (va_wsS own index y ws)) (hw : ws = Cond.code y bytes maxL ret :: ws') (hrc : rm.cells = mc) (hrs : rm.slots = ms)
    (hd : y.cls ≠ "java/lang/invoke/MethodHandle" ∧ y.cls ≠ "java/lang/invoke/VarHandle" ∧ (parseMethodDescriptor y.desc).map (fun d => d.parameters.length) = some n) (hR : rm.frames + 1 ≤ R.frames ∧ 8 + (maxL + 11) + rm.locals ≤ R.locals)
    (hn : As.length = n) (hls : ls.size = nL) (hst : st = As.reverse ++ rest) (hW : (rest.map fun v => v.category).sum ≤ 8) (hdg : decode cc pc = .ok (.invokestatic index, 3)) (hf : cells + mc ≤ R.cells ∧ slots + ms ≤ R.slots) :
    vx_Run p l e R s m args below meth c H locs cells slots mc ms (F0 m pc ls st) rest (Qc As.toArray) Xc (gA G) :=
  vx_runS (As := As) ⟨X.1, X.2.1, X.2.2.1, X.2.2.2.1, X.2.2.2.2.1⟩ hM (va_cwS n X.2.2.2.2.1 hg hw hrc hrs hd hR) ⟨Pin.blind, fun U hU hW => ⟨rfl, by rw [hU]; exact S.1, gk.warm hW X.2.2.2.2.2.1⟩⟩ rfl hn hls hst (lv_room (pc := pc) (ls := ls) (rest := st) hW) hdg hf
/-- behind a call that may throw, in a method without a handler -/
theorem xcall_v {Φ : Prop} {Ψ1 : String → Prop} {a : Array Value} {mc1 ms1 : Nat} (hr : vx_Run p l e R s m args below meth c H locs cells slots mc1 ms1 (F0 m pc ls st) rest (va_Qv (fun _ : Unit => Φ) (fun _ t => hp G f t.heap) (gA G) a) (XC G f Ψ1) (gA G)) (S : cxS G s f H locs) (hout : ∀ x ∈ c.exceptionTable.toList, False) (hlocks : meth.locks = false) (hc : cells + mc1 ≤ mc) (hs : slots + ms1 ≤ ms) (hΨ : ∀ E, Ψ1 E → Ψ E)
    (kk : ∀ (H : Heap) (locs : List Loc), Φ → cxS G s f H locs → W p l e R s m args below meth c H locs (cells + mc1) (slots + ms1) (vx_MQ below Qc (XC G f Ψ) args s mc ms (gA G)) (F0 m (pc + 3) ls rest)) : W p l e R s m args below meth c H locs cells slots (vx_MQ below Qc (XC G f Ψ) args s mc ms (gA G)) (F0 m pc ls st) :=
  vx_callv hr S.2 (fun _ _ h => h) (fun _ h => h) (fun _ _ h => h) (fun E ce q9 u t H1 locs1 ht _ _ hB hz _ hS1 hce hcv hcl => vx_out (fun x hx => (hout x hx).elim) hlocks hce hcv hcl (fun t2 ht2 _ => ⟨(), trivial, ⟨hΨ E hB.1, by rw [ht2, ← ht]; exact hB.2⟩, by rw [ht2]; exact hS1.1, fun q h1 h2 => by rw [ht2]; exact hS1.2.1 q h1 h2⟩) hS1.2.2 hc hs)
    (fun u t H1 locs1 ht _ hΦ hB _ _ hS1 => kk H1 locs1 hΦ ⟨by rw [← ht]; exact hB, hS1⟩)
theorem e_vw {Φ : Prop} (X : cxC G p l R c cc nL m meth s args own Ts) (hr : meth.sig.returnType = none) (S : cxS G s f H locs) (hc : cells ≤ mc) (hs : slots ≤ ms) (hdg : decode cc pc = .ok (.return_, 1)) (hΦ : Φ) :
    W p l e R s m args below meth c H locs cells slots (MQ below (va_Qv (fun _ : Unit => Φ) (fun _ t => hp G f t.heap) (gA G)) args s mc ms (gA G)) (F0 m pc ls []) :=
  W.widen hc hs (W.vret X.1 X.2.1 hr (fun t ht hW => ⟨⟨(), rfl, hΦ, hp_eq ht S.1⟩, S.2.F ht⟩) S.2.2.2 hdg X.2.2.2.2.2.2.2)
end CXT
