/-! calls and ends, over the world as a map -/
theorem hp_eq {G : cx_G} {f : Wd} {t : State} {H : Heap} (ht : t.heap = H) (h : hp G f H) : hp G f t.heap := by rw [ht]; exact h
section CXK
variable {G : cx_G} {p : Program} {l : Launch} {e : Env} {R : Room} {s : State} {m : MethodId} {args : Array Value} {below : List Frame} {meth : Method} {c : Code} {H : Heap} {locs : List Loc} {cells slots : Nat} {Q : State → Prop}
variable {cc : ByteArray} {nL : Nat} {own : String} {Ts : List Cond} {pc : Nat} {ls : Array Slot} {rest st : List Value} {f : Wd} {a t : Nat}
variable {y : MethodName} {bytes : ByteArray} {maxL mc ms n index : Nat} {ret : Option FieldType} {ws ws' : List Cond} {rm : Room} {Qc : Array Value → State → Outcome → State → Prop} {As : List Value} {b : Nat}
theorem run_V (X : cxC G p l R c cc nL m meth s args own Ts) (S : cxS G s f H locs) (hM : Met l y ws rm (va_Pc (.ref b :: As) (Pin G f)) Qc mc ms (gA G)) {ci : Nat} {r : vw_C} {C : String} (n : Nat) (hg : GoodIn Ts (wsV own index C y ws)) (hw : ws = Cond.code y bytes maxL ret :: ws') (hrc : rm.cells = mc) (hrs : rm.slots = ms)
    (hd : y.cls = C ∧ y.cls ≠ "java/lang/invoke/MethodHandle" ∧ y.cls ≠ "java/lang/invoke/VarHandle" ∧ (parseMethodDescriptor y.desc).map (fun d => d.parameters.length) = some n) (hR : rm.frames + 1 ≤ R.frames ∧ 8 + (maxL + 11) + rm.locals ≤ R.locals)
    (hb : ∃ (t : Nat) (fs : List Value), f b = some (t, .inr (ci, fs))) (hc : vwCl[ci]? = some r) (hr : r.1 = C) (hn : As.length = n) (hls : ls.size = nL) (hst : st = As.reverse ++ .ref b :: rest) (hW : (rest.map fun v => v.category).sum ≤ 8) (hdg : decode cc pc = .ok (.invokevirtual index, 3)) (hf : cells + mc ≤ R.cells ∧ slots + ms ≤ R.slots) :
    va_Run p l e R s m args below meth c H locs cells slots mc ms (F0 m pc ls st) rest (Qc (Value.ref b :: As).toArray) (gA G) := by
  subst hr
  obtain ⟨t0, fs, hb⟩ := hb
  exact va_runV (As := As) ⟨X.1, X.2.1, X.2.2.1, X.2.2.2.1, X.2.2.2.2.1⟩ hM (cwV n X.2.2.2.2.1 hg hw hrc hrs hd hR) ⟨Pin.blind, va_recv X.2.2.2.2.2.1.1 (S.1.one hb) (q0 := 0) hc rfl, fun U hU hW => ⟨rfl, by rw [hU]; exact S.1, gk.warm hW X.2.2.2.2.2.1⟩⟩ rfl hn hls hst (lv_room (pc := pc) (ls := ls) (rest := st) hW) hdg hf
theorem run_S (X : cxC G p l R c cc nL m meth s args own Ts) (S : cxS G s f H locs) (hM : Met l y ws rm (va_Pc As (Pin G f)) Qc mc ms (gA G)) (n : Nat) (hg : GoodIn Ts (va_wsS own index y ws)) (hw : ws = Cond.code y bytes maxL ret :: ws') (hrc : rm.cells = mc) (hrs : rm.slots = ms)
    (hd : y.cls ≠ "java/lang/invoke/MethodHandle" ∧ y.cls ≠ "java/lang/invoke/VarHandle" ∧ (parseMethodDescriptor y.desc).map (fun d => d.parameters.length) = some n) (hR : rm.frames + 1 ≤ R.frames ∧ 8 + (maxL + 11) + rm.locals ≤ R.locals)
    (hn : As.length = n) (hls : ls.size = nL) (hst : st = As.reverse ++ rest) (hW : (rest.map fun v => v.category).sum ≤ 8) (hdg : decode cc pc = .ok (.invokestatic index, 3)) (hf : cells + mc ≤ R.cells ∧ slots + ms ≤ R.slots) :
    va_Run p l e R s m args below meth c H locs cells slots mc ms (F0 m pc ls st) rest (Qc As.toArray) (gA G) :=
  va_runS (As := As) ⟨X.1, X.2.1, X.2.2.1, X.2.2.2.1, X.2.2.2.2.1⟩ hM (va_cwS n X.2.2.2.2.1 hg hw hrc hrs hd hR) ⟨Pin.blind, fun U hU hW => ⟨rfl, by rw [hU]; exact S.1, gk.warm hW X.2.2.2.2.2.1⟩⟩ rfl hn hls hst (lv_room (pc := pc) (ls := ls) (rest := st) hW) hdg hf
theorem run_I (X : cxC G p l R c cc nL m meth s args own Ts) (S : cxS G s f H locs) (hM : Met l y ws rm (va_Pc (.ref b :: As) (Pin G f)) Qc mc ms (gA G)) (n : Nat) (hg : GoodIn Ts ws) (hw : ws = Cond.code y bytes maxL none :: ws') (hrc : rm.cells = mc) (hrs : rm.slots = ms) (hini : Cond.initialized y.cls ∈ Ts) (hlink : Cond.methodLink own index y ∈ Ts) (hinst : Cond.instanceMethod y ∈ Ts) (hyn : y.name = "<init>")
    (hd : y.cls ≠ "java/lang/invoke/MethodHandle" ∧ y.cls ≠ "java/lang/invoke/VarHandle" ∧ (parseMethodDescriptor y.desc).map (fun d => d.parameters.length) = some n) (hR : rm.frames + 1 ≤ R.frames ∧ 8 + (maxL + 11) + rm.locals ≤ R.locals)
    (hn : As.length = n) (hls : ls.size = nL) (hst : st = As.reverse ++ .ref b :: rest) (hW : (rest.map fun v => v.category).sum ≤ 8) (hdg : decode cc pc = .ok (.invokespecial index, 3)) (hf : cells + mc ≤ R.cells ∧ slots + ms ≤ R.slots) :
    va_Run p l e R s m args below meth c H locs cells slots mc ms (F0 m pc ls st) rest (Qc (Value.ref b :: As).toArray) (gA G) :=
  va_runI (As := As) ⟨X.1, X.2.1, X.2.2.1, X.2.2.2.1, X.2.2.2.2.1⟩ hM (cwI n X.2.2.2.2.1 hg hw hrc hrs (X.2.2.2.2.1 _ hini) (X.2.2.2.2.1 _ hlink) (X.2.2.2.2.1 _ hinst) hyn hd hR) ⟨Pin.blind, fun U hU hW => ⟨rfl, by rw [hU]; exact S.1, gk.warm hW X.2.2.2.2.2.1⟩⟩ rfl hn hls hst (lv_room (pc := pc) (ls := ls) (rest := st) hW) hdg hf
theorem call_i {Φ : Int32 → Wd → Prop} {a : Array Value} (hr : va_Run p l e R s m args below meth c H locs cells slots mc ms (F0 m pc ls st) rest (va_Qi Φ (fun f' t => hp G f' t.heap) (gA G) a) (gA G)) (S : cxS G s f H locs)
    (kk : ∀ (r : Int32) (f' : Wd) (H : Heap) (locs : List Loc), Φ r f' → cxS G s f' H locs → W p l e R s m args below meth c H locs (cells + mc) (slots + ms) Q (F0 m (pc + 3) ls (.int r :: rest))) : W p l e R s m args below meth c H locs cells slots Q (F0 m pc ls st) :=
  va_calli hr S.2 (fun _ _ h => h) (fun _ h => h) (fun r u t H1 locs1 ht _ hΦ hB _ _ hS1 => kk r u H1 locs1 hΦ ⟨by rw [← ht]; exact hB, hS1⟩)
theorem call_l {Φ : Int64 → Wd → Prop} {a : Array Value} (hr : va_Run p l e R s m args below meth c H locs cells slots mc ms (F0 m pc ls st) rest (va_Ql Φ (fun f' t => hp G f' t.heap) (gA G) a) (gA G)) (S : cxS G s f H locs)
    (kk : ∀ (r : Int64) (f' : Wd) (H : Heap) (locs : List Loc), Φ r f' → cxS G s f' H locs → W p l e R s m args below meth c H locs (cells + mc) (slots + ms) Q (F0 m (pc + 3) ls (.long r :: rest))) : W p l e R s m args below meth c H locs cells slots Q (F0 m pc ls st) :=
  va_calll hr S.2 (fun _ _ h => h) (fun _ h => h) (fun r u t H1 locs1 ht _ hΦ hB _ _ hS1 => kk r u H1 locs1 hΦ ⟨by rw [← ht]; exact hB, hS1⟩)
theorem call_v {Φ : Wd → Prop} {a : Array Value} (hr : va_Run p l e R s m args below meth c H locs cells slots mc ms (F0 m pc ls st) rest (va_Qv Φ (fun f' t => hp G f' t.heap) (gA G) a) (gA G)) (S : cxS G s f H locs)
    (kk : ∀ (f' : Wd) (H : Heap) (locs : List Loc), Φ f' → cxS G s f' H locs → W p l e R s m args below meth c H locs (cells + mc) (slots + ms) Q (F0 m (pc + 3) ls rest)) : W p l e R s m args below meth c H locs cells slots Q (F0 m pc ls st) :=
  va_callv hr S.2 (fun _ _ h => h) (fun _ h => h) (fun u t H1 locs1 ht _ hΦ hB _ _ hS1 => kk u H1 locs1 hΦ ⟨by rw [← ht]; exact hB, hS1⟩)
theorem call_r {Φ : Nat → Wd → Prop} {a : Array Value} (hr : va_Run p l e R s m args below meth c H locs cells slots mc ms (F0 m pc ls st) rest (QR G Φ a) (gA G)) (S : cxS G s f H locs)
    (kk : ∀ (r : Nat) (f' : Wd) (H : Heap) (locs : List Loc), Φ r f' → cxS G s f' H locs → W p l e R s m args below meth c H locs (cells + mc) (slots + ms) Q (F0 m (pc + 3) ls (.ref r :: rest))) : W p l e R s m args below meth c H locs cells slots Q (F0 m pc ls st) :=
  va_callr hr S.2 (fun _ _ h => h) (fun _ h => h) (fun u ra t H1 locs1 ht _ hΦ hB _ _ hS1 => by
    obtain ⟨rfl, hB⟩ := hB
    exact kk u.1 u.2 H1 locs1 hΦ ⟨by rw [← ht]; exact hB, hS1⟩)
theorem e_i {Φ : Int32 → Wd → Prop} {v : Int32} {mc ms : Nat} (X : cxC G p l R c cc nL m meth s args own Ts) (hr : meth.sig.returnType = some .int) (S : cxS G s f H locs) (hc : cells ≤ mc) (hs : slots ≤ ms) (hdg : decode cc pc = .ok (.ireturn, 1)) (hΦ : Φ v f) :
    W p l e R s m args below meth c H locs cells slots (MQ below (va_Qi Φ (fun f' t => hp G f' t.heap) (gA G)) args s mc ms (gA G)) (F0 m pc ls [.int v]) :=
  W.widen hc hs (W.iret X.1 X.2.1 hr (fun t ht hW => ⟨⟨v, f, rfl, hΦ, hp_eq ht S.1⟩, S.2.F ht⟩) S.2.2.2 hdg X.2.2.2.2.2.2.2)
theorem e_z {Φ : Int32 → Wd → Prop} {v : Int32} {mc ms : Nat} (X : cxC G p l R c cc nL m meth s args own Ts) (hr : meth.sig.returnType = some .boolean) (S : cxS G s f H locs) (hc : cells ≤ mc) (hs : slots ≤ ms) (hdg : decode cc pc = .ok (.ireturn, 1)) (hn : narrow .boolean (.int v) = .int v) (hΦ : Φ v f) :
    W p l e R s m args below meth c H locs cells slots (MQ below (va_Qi Φ (fun f' t => hp G f' t.heap) (gA G)) args s mc ms (gA G)) (F0 m pc ls [.int v]) :=
  W.widen hc hs (W.zret X.1 X.2.1 hr hn (fun t ht hW => ⟨⟨v, f, rfl, hΦ, hp_eq ht S.1⟩, S.2.F ht⟩) S.2.2.2 hdg X.2.2.2.2.2.2.2)
theorem e_l {Φ : Int64 → Wd → Prop} {v : Int64} {mc ms : Nat} (X : cxC G p l R c cc nL m meth s args own Ts) (hr : meth.sig.returnType = some .long) (S : cxS G s f H locs) (hc : cells ≤ mc) (hs : slots ≤ ms) (hdg : decode cc pc = .ok (.lreturn, 1)) (hΦ : Φ v f) :
    W p l e R s m args below meth c H locs cells slots (MQ below (va_Ql Φ (fun f' t => hp G f' t.heap) (gA G)) args s mc ms (gA G)) (F0 m pc ls [.long v]) :=
  W.widen hc hs (W.lret X.1 X.2.1 hr (fun t ht hW => ⟨⟨v, f, rfl, hΦ, hp_eq ht S.1⟩, S.2.F ht⟩) S.2.2.2 hdg X.2.2.2.2.2.2.2)
theorem e_v {Φ : Wd → Prop} {mc ms : Nat} (X : cxC G p l R c cc nL m meth s args own Ts) (hr : meth.sig.returnType = none) (S : cxS G s f H locs) (hc : cells ≤ mc) (hs : slots ≤ ms) (hdg : decode cc pc = .ok (.return_, 1)) (hΦ : Φ f) :
    W p l e R s m args below meth c H locs cells slots (MQ below (va_Qv Φ (fun f' t => hp G f' t.heap) (gA G)) args s mc ms (gA G)) (F0 m pc ls []) :=
  W.widen hc hs (W.vret X.1 X.2.1 hr (fun t ht hW => ⟨⟨f, rfl, hΦ, hp_eq ht S.1⟩, S.2.F ht⟩) S.2.2.2 hdg X.2.2.2.2.2.2.2)
theorem e_r {Φ : Nat → Wd → Prop} {v : Nat} {mc ms : Nat} {rt : FieldType} (X : cxC G p l R c cc nL m meth s args own Ts) (hr : meth.sig.returnType = some rt) (hrt : (∃ n, rt = .object n) ∨ ∃ t, rt = .array t) (S : cxS G s f H locs) (hc : cells ≤ mc) (hs : slots ≤ ms) (hdg : decode cc pc = .ok (.areturn, 1)) (hΦ : Φ v f) :
    W p l e R s m args below meth c H locs cells slots (MQ below (QR G Φ) args s mc ms (gA G)) (F0 m pc ls [.ref v]) :=
  W.widen hc hs (W.aret X.1 X.2.1 hr hrt (Or.inr ⟨v, rfl⟩) (fun t ht hW => ⟨⟨(v, f), v, rfl, hΦ, rfl, hp_eq ht S.1⟩, S.2.F ht⟩) S.2.2.2 hdg X.2.2.2.2.2.2.2)
end CXK
