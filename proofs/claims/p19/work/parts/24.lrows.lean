/-! rows for the law, in numbers -/
theorem k1_i {A : Prop} (h : k1 A = 0) : A := by
  by_cases a : A
  · exact a
  · rw [k1_1 a] at h; cases h
theorem k2_i {A B : Prop} (h : k2 A B = 0) : A ∧ B := by
  by_cases a : A
  · by_cases b : B
    · exact ⟨a, b⟩
    · rw [k2_2 a b] at h; cases h
  · rw [k2_1 a] at h; cases h
theorem k3_i {A B C : Prop} (h : k3 A B C = 0) : A ∧ B ∧ C := by
  by_cases a : A
  · by_cases b : B
    · by_cases c : C
      · exact ⟨a, b, c⟩
      · rw [k3_3 a b c] at h; cases h
    · rw [k3_2 a b] at h; cases h
  · rw [k3_1 a] at h; cases h
theorem kk1_le (A : Prop) : k1 A ≤ 3 := by
  by_cases a : A
  · rw [k1_0 a]; omega
  · rw [k1_1 a]; omega
theorem kk2_le (A B : Prop) : k2 A B ≤ 3 := by
  by_cases a : A
  · by_cases b : B
    · rw [k2_0 a b]; omega
    · rw [k2_2 a b]; omega
  · rw [k2_1 a]; omega
theorem kk3_le (A B C : Prop) : k3 A B C ≤ 3 := by
  by_cases a : A
  · by_cases b : B
    · by_cases c : C
      · rw [k3_0 a b c]; omega
      · rw [k3_3 a b c]; omega
    · rw [k3_2 a b]; omega
  · rw [k3_1 a]; omega
theorem sInv_le {st : St} (h : sInv st) : st 0 0 ≤ 200 := h.1.1
theorem nN_in {x : Int32} {a b : Int} (h : inI x a b) (h0 : 0 ≤ a) : a ≤ nN x ∧ (nN x : Int) ≤ b := by
  obtain ⟨h1, h2⟩ := h
  unfold nN
  omega
theorem nL_in {x : Int64} {a b : Int} (h : rgL x a b) (h0 : 0 ≤ a) : a ≤ nL x ∧ (nL x : Int) ≤ b := by
  obtain ⟨h1, h2⟩ := h
  unfold nL
  omega
theorem vxh_body {l : Launch} {G : cx_G} {y : MethodName} {ws : List Cond} {rm : Room} {as : List Value} {f : Wd} {cc : ByteArray} {n : Nat} {ret : Option FieldType} {Q : Array Value → State → Outcome → State → Prop} {Xc : String → State → State → Prop} {mc ms : Nat} {ws' : List Cond} {hh : List (Nat × Nat × Nat × Nat)}
    (hy : plainName y.cls = true) (hw : ws = Cond.codeWith y cc n ret hh :: ws') (hn : (lg_sl as).length ≤ n)
    (body : ∀ (p : Program) (e : Env) (s : State) (m : MethodId) (below : List Frame) (meth : Method) (c : Code) (ls : Array Slot), cxC G p l rm c cc n m meth s as.toArray y.cls ws → meth.sig.returnType = ret → meth.name = y.name → c.exceptionTable.toList = tableOf hh → cxS G s f s.heap [] → lv_has ls n (lv_args 0 as) →
      W p l e rm s m as.toArray below meth c s.heap [] 0 0 (vx_MQ below Q Xc as.toArray s mc ms (gA G)) (F0 m 0 ls [])) :
    vx_Met l y ws rm (va_Pc as (Pin G f)) Q Xc mc ms (gA G) := by
  refine vx_ofWH (cc := cc) (maxL := n) (ret := ret) (hh := hh) hy hw ?_
  intro p e s m args below meth c s₁ B hml hv
  obtain ⟨rfl, hP, hK⟩ := hv
  have hts := atoms_spec (ws := ws) B.pre
  have htab := vx_table (x := y) B (hts _ (by rw [hw]; exact List.mem_cons_self))
  have hl := lv_entry as (n := n) hn
  rw [lg_entry_eq]
  generalize (lg_sl as ++ List.replicate (n - (lg_sl as).length) Slot.unset).toArray = ls at hl ⊢
  exact body p e s m below meth c ls ⟨B.exec, B.bytes, hml, findClass_of_methodNamed B.named, hts, hK, hP.base, B.notSynchronized⟩ B.returns (name_of_methodNamed B.named B.method).1 htab ⟨hP, va_S.rf⟩ hl
section CXV
variable {G : cx_G} {p : Program} {l : Launch} {e : Env} {R : Room} {s : State} {m : MethodId} {args : Array Value} {below : List Frame} {meth : Method} {c : Code} {H : Heap} {locs : List Loc} {cells slots : Nat} {Q : State → Prop}
variable {cc : ByteArray} {nL : Nat} {own : String} {Ts : List Cond} {pc : Nat} {ls : Array Slot} {rest st : List Value} {f : Wd} {Ψ1 : String → Prop}
theorem xcall_it {Φ : Int32 → Wd → Prop} {a : Array Value} {mc1 ms1 : Nat} (hr : vx_Run p l e R s m args below meth c H locs cells slots mc1 ms1 (F0 m pc ls st) rest (va_Qi Φ (fun f' t => hp G f' t.heap) (gA G) a) (XC G f Ψ1) (gA G)) (S : cxS G s f H locs)
    (kx : ∀ (E : String) (H : Heap) (locs : List Loc) (q : Addr) (ce : Cell), Ψ1 E → cxS G s f H locs → H[q]? = some ce → ce.vm = .none → s.vm.findClass E = some ce.cls → vx_W p l e R s m args below meth c H locs (cells + mc1) (slots + ms1) Q (F0 m pc ls rest) q)
    (kk : ∀ (r : Int32) (f' : Wd) (H : Heap) (locs : List Loc), Φ r f' → cxS G s f' H locs → W p l e R s m args below meth c H locs (cells + mc1) (slots + ms1) Q (F0 m (pc + 3) ls (.int r :: rest))) : W p l e R s m args below meth c H locs cells slots Q (F0 m pc ls st) :=
  vx_calli hr S.2 (fun _ _ h => h) (fun _ h => h) (fun _ _ h => h) (fun E ce q9 u t H1 locs1 ht _ _ hB hz _ hS1 hce hcv hcl => kx E H1 locs1 q9 ce hB.1 ⟨by rw [← ht]; exact hB.2, hS1⟩ hce hcv hcl)
    (fun r u t H1 locs1 ht _ hΦ hB _ _ hS1 => kk r u H1 locs1 hΦ ⟨by rw [← ht]; exact hB, hS1⟩)
theorem xcall_lt {Φ : Int64 → Wd → Prop} {a : Array Value} {mc1 ms1 : Nat} (hr : vx_Run p l e R s m args below meth c H locs cells slots mc1 ms1 (F0 m pc ls st) rest (va_Ql Φ (fun f' t => hp G f' t.heap) (gA G) a) (XC G f Ψ1) (gA G)) (S : cxS G s f H locs)
    (kx : ∀ (E : String) (H : Heap) (locs : List Loc) (q : Addr) (ce : Cell), Ψ1 E → cxS G s f H locs → H[q]? = some ce → ce.vm = .none → s.vm.findClass E = some ce.cls → vx_W p l e R s m args below meth c H locs (cells + mc1) (slots + ms1) Q (F0 m pc ls rest) q)
    (kk : ∀ (r : Int64) (f' : Wd) (H : Heap) (locs : List Loc), Φ r f' → cxS G s f' H locs → W p l e R s m args below meth c H locs (cells + mc1) (slots + ms1) Q (F0 m (pc + 3) ls (.long r :: rest))) : W p l e R s m args below meth c H locs cells slots Q (F0 m pc ls st) :=
  vx_calll hr S.2 (fun _ _ h => h) (fun _ h => h) (fun _ _ h => h) (fun E ce q9 u t H1 locs1 ht _ _ hB hz _ hS1 hce hcv hcl => kx E H1 locs1 q9 ce hB.1 ⟨by rw [← ht]; exact hB.2, hS1⟩ hce hcv hcl)
    (fun r u t H1 locs1 ht _ hΦ hB _ _ hS1 => kk r u H1 locs1 hΦ ⟨by rw [← ht]; exact hB, hS1⟩)
theorem r_catch (X : cxC G p l R c cc nL m meth s args own Ts) {hh : List (Nat × Nat × Nat × Nat)} (htab : c.exceptionTable.toList = tableOf hh) {E : String} {ce : Cell} {q : Addr} {pc2 : Nat} (pre : List ExceptionTableEntry) (x : ExceptionTableEntry) (suf : List ExceptionTableEntry) (hsplit : tableOf hh = pre ++ x :: suf)
    (hpass : ∀ z ∈ pre, z.catchType ≠ 0 ∧ ∃ nm : String, Cond.classLink own z.catchType nm ∈ Ts ∧ (E, nm) ∈ gN) (hx : covers x pc = true) (h0 : x.catchType ≠ 0) (hlink : Cond.classLink own x.catchType E ∈ Ts) (hY : (E, E) ∈ gY) (hpc : x.handlerPc = pc2) (hcell : H[q]? = some ce) (hv : ce.vm = .none) (hcl : s.vm.findClass E = some ce.cls)
    (kk : W p l e R s m args below meth c H locs cells slots Q (F0 m pc2 ls [.ref q])) : vx_W p l e R s m args below meth c H locs cells slots Q (F0 m pc ls rest) q := by
  subst hpc
  refine vx_catch X.2.2.2.1 pre x suf (htab.trans hsplit) (fun z hz => ?_) hx h0 (X.2.2.2.2.1 _ hlink) (va_Nw.use rfl (X.2.2.2.2.2.1.2.2.2.2.2.1 _ hY).nw) hcell hv hcl kk
  obtain ⟨h1, nm, h2, h3⟩ := hpass z hz
  exact Or.inr ⟨h1, nm, X.2.2.2.2.1 _ h2, X.2.2.2.2.2.1.2.2.2.2.2.2.1 _ h3⟩
end CXV
theorem lgz (a : Int64) : lg_cmp a a = 0 := by
  have h1 : lg_cmp a a ≤ 0 := (lg_cmp_le a a).mpr (Int64.le_refl a)
  have h2 : ¬ lg_cmp a a < 0 := fun h => Int64.lt_irrefl ((lg_cmp_lt a a).mp h)
  rw [i_le] at h1
  rw [i_lt] at h2
  refine Int32.toInt_inj.mp ?_
  omega
section CXW
variable {G : cx_G} {p : Program} {l : Launch} {e : Env} {R : Room} {s : State} {m : MethodId} {args : Array Value} {below : List Frame} {meth : Method} {c : Code} {H : Heap} {locs : List Loc} {cells slots : Nat} {Q : State → Prop}
variable {cc : ByteArray} {nL : Nat} {own : String} {Ts : List Cond} {pc : Nat} {ls : Array Slot} {rest st : List Value} {f : Wd} {Qc : Array Value → State → Outcome → State → Prop}
variable {y : MethodName} {bytes : ByteArray} {maxL n index mc ms : Nat} {ret : Option FieldType} {ws ws' : List Cond} {rm : Room} {As : List Value} {b : Nat} {Xc : String → State → State → Prop}
theorem xrun_SX {hh : List (Nat × Nat × Nat × Nat)} (X : cxC G p l R c cc nL m meth s args own Ts) (S : cxS G s f H locs) (hM : vx_Met l y ws rm (va_Pc As (Pin G f)) Qc Xc mc ms (gA G)) (n : Nat) (hg : GoodIn Ts (va_wsS own index y ws)) (hw : ws = Cond.codeWith y bytes maxL ret hh :: ws') (hrc : rm.cells = mc) (hrs : rm.slots = ms)
    (hd : y.cls ≠ "java/lang/invoke/MethodHandle" ∧ y.cls ≠ "java/lang/invoke/VarHandle" ∧ (parseMethodDescriptor y.desc).map (fun d => d.parameters.length) = some n) (hR : rm.frames + 1 ≤ R.frames ∧ 8 + (maxL + 11) + rm.locals ≤ R.locals)
    (hn : As.length = n) (hls : ls.size = nL) (hst : st = As.reverse ++ rest) (hW : (rest.map fun v => v.category).sum ≤ 8) (hdg : decode cc pc = .ok (.invokestatic index, 3)) (hf : cells + mc ≤ R.cells ∧ slots + ms ≤ R.slots) :
    vx_Run p l e R s m args below meth c H locs cells slots mc ms (F0 m pc ls st) rest (Qc As.toArray) Xc (gA G) :=
  vx_runSX (As := As) ⟨X.1, X.2.1, X.2.2.1, X.2.2.2.1, X.2.2.2.2.1⟩ hM (vx_cwSW n X.2.2.2.2.1 hg hw hrc hrs hd hR) ⟨Pin.blind, fun U hU hW => ⟨rfl, by rw [hU]; exact S.1, gk.warm hW X.2.2.2.2.2.1⟩⟩ rfl hn hls hst (lv_room (pc := pc) (ls := ls) (rest := st) hW) hdg hf
end CXW
section NUM
variable {G : cx_G} {p : Program} {l : Launch} {e : Env} {R : Room} {s : State} {m : MethodId} {args : Array Value} {below : List Frame} {meth : Method} {c : Code} {H : Heap} {locs : List Loc} {cells slots : Nat} {Q : State → Prop}
variable {cc : ByteArray} {nL : Nat} {own : String} {Ts : List Cond} {pc tgt : Nat} {off : Int} {ls : Array Slot} {rest st : List Value} {f : Wd} {a b t : Nat}
theorem n_lt (X : cxC G p l R c cc nL m meth s args own Ts) (hdg : decode cc pc = .ok (.if_icmp .lt off, 3)) (ht : (pc : Int) + off = (tgt : Int)) (kt : a < b → W p l e R s m args below meth c H locs cells slots Q (F0 m tgt ls rest)) (kf : ¬ a < b → W p l e R s m args below meth c H locs cells slots Q (F0 m (pc + 3) ls rest)) (ha : a < 2 ^ 31 := by omega) (hb : b < 2 ^ 31 := by omega) : W p l e R s m args below meth c H locs cells slots Q (F0 m pc ls (.int (nI b) :: .int (nI a) :: rest)) :=
  lv_icmp_lt X.1 X.2.1 hdg ht (fun z => kt ((nI_ltI (by assumption) (by assumption)).mp z)) (fun z => kf (fun q => z ((nI_ltI (by assumption) (by assumption)).mpr q)))
theorem n_ge (X : cxC G p l R c cc nL m meth s args own Ts) (hdg : decode cc pc = .ok (.if_icmp .ge off, 3)) (ht : (pc : Int) + off = (tgt : Int)) (kt : b ≤ a → W p l e R s m args below meth c H locs cells slots Q (F0 m tgt ls rest)) (kf : ¬ b ≤ a → W p l e R s m args below meth c H locs cells slots Q (F0 m (pc + 3) ls rest)) (ha : a < 2 ^ 31 := by omega) (hb : b < 2 ^ 31 := by omega) : W p l e R s m args below meth c H locs cells slots Q (F0 m pc ls (.int (nI b) :: .int (nI a) :: rest)) :=
  lv_icmp_ge X.1 X.2.1 hdg ht (fun z => kt ((nI_leI (by assumption) (by assumption)).mp z)) (fun z => kf (fun q => z ((nI_leI (by assumption) (by assumption)).mpr q)))
theorem n_gt (X : cxC G p l R c cc nL m meth s args own Ts) (hdg : decode cc pc = .ok (.if_icmp .gt off, 3)) (ht : (pc : Int) + off = (tgt : Int)) (kt : b < a → W p l e R s m args below meth c H locs cells slots Q (F0 m tgt ls rest)) (kf : ¬ b < a → W p l e R s m args below meth c H locs cells slots Q (F0 m (pc + 3) ls rest)) (ha : a < 2 ^ 31 := by omega) (hb : b < 2 ^ 31 := by omega) : W p l e R s m args below meth c H locs cells slots Q (F0 m pc ls (.int (nI b) :: .int (nI a) :: rest)) :=
  lv_icmp_gt X.1 X.2.1 hdg ht (fun z => kt ((nI_ltI (by assumption) (by assumption)).mp z)) (fun z => kf (fun q => z ((nI_ltI (by assumption) (by assumption)).mpr q)))
theorem n_le (X : cxC G p l R c cc nL m meth s args own Ts) (hdg : decode cc pc = .ok (.if_icmp .le off, 3)) (ht : (pc : Int) + off = (tgt : Int)) (kt : a ≤ b → W p l e R s m args below meth c H locs cells slots Q (F0 m tgt ls rest)) (kf : ¬ a ≤ b → W p l e R s m args below meth c H locs cells slots Q (F0 m (pc + 3) ls rest)) (ha : a < 2 ^ 31 := by omega) (hb : b < 2 ^ 31 := by omega) : W p l e R s m args below meth c H locs cells slots Q (F0 m pc ls (.int (nI b) :: .int (nI a) :: rest)) :=
  lv_icmp_le X.1 X.2.1 hdg ht (fun z => kt ((nI_leI (by assumption) (by assumption)).mp z)) (fun z => kf (fun q => z ((nI_leI (by assumption) (by assumption)).mpr q)))
theorem n_eq (X : cxC G p l R c cc nL m meth s args own Ts) (hdg : decode cc pc = .ok (.if_icmp .eq off, 3)) (ht : (pc : Int) + off = (tgt : Int)) (kt : a = b → W p l e R s m args below meth c H locs cells slots Q (F0 m tgt ls rest)) (kf : ¬ a = b → W p l e R s m args below meth c H locs cells slots Q (F0 m (pc + 3) ls rest)) (ha : a < 2 ^ 31 := by omega) (hb : b < 2 ^ 31 := by omega) : W p l e R s m args below meth c H locs cells slots Q (F0 m pc ls (.int (nI b) :: .int (nI a) :: rest)) :=
  lv_icmp_eq X.1 X.2.1 hdg ht (fun z => kt ((nI_eq (by assumption) (by assumption)).mp z)) (fun z => kf (fun q => z ((nI_eq (by assumption) (by assumption)).mpr q)))
theorem n_ne (X : cxC G p l R c cc nL m meth s args own Ts) (hdg : decode cc pc = .ok (.if_icmp .ne off, 3)) (ht : (pc : Int) + off = (tgt : Int)) (kt : ¬ a = b → W p l e R s m args below meth c H locs cells slots Q (F0 m tgt ls rest)) (kf : a = b → W p l e R s m args below meth c H locs cells slots Q (F0 m (pc + 3) ls rest)) (ha : a < 2 ^ 31 := by omega) (hb : b < 2 ^ 31 := by omega) : W p l e R s m args below meth c H locs cells slots Q (F0 m pc ls (.int (nI b) :: .int (nI a) :: rest)) :=
  lv_icmp_ne X.1 X.2.1 hdg ht (fun z => kt (fun q => z ((nI_eq (by assumption) (by assumption)).mpr q))) (fun z => kf ((nI_eq (by assumption) (by assumption)).mp z))
theorem z_eq (X : cxC G p l R c cc nL m meth s args own Ts) (hdg : decode cc pc = .ok (.ifCond .eq off, 3)) (ht : (pc : Int) + off = (tgt : Int)) (kt : a = 0 → W p l e R s m args below meth c H locs cells slots Q (F0 m tgt ls rest)) (kf : ¬ a = 0 → W p l e R s m args below meth c H locs cells slots Q (F0 m (pc + 3) ls rest)) (ha : a < 2 ^ 31 := by omega) : W p l e R s m args below meth c H locs cells slots Q (F0 m pc ls (.int (nI a) :: rest)) :=
  lv_if_eq X.1 X.2.1 hdg ht (fun z => kt ((nI_eq (b := 0) ha (by omega)).mp z)) (fun z => kf (fun q => z ((nI_eq (b := 0) ha (by omega)).mpr q)))
theorem z_ne (X : cxC G p l R c cc nL m meth s args own Ts) (hdg : decode cc pc = .ok (.ifCond .ne off, 3)) (ht : (pc : Int) + off = (tgt : Int)) (kt : ¬ a = 0 → W p l e R s m args below meth c H locs cells slots Q (F0 m tgt ls rest)) (kf : a = 0 → W p l e R s m args below meth c H locs cells slots Q (F0 m (pc + 3) ls rest)) (ha : a < 2 ^ 31 := by omega) : W p l e R s m args below meth c H locs cells slots Q (F0 m pc ls (.int (nI a) :: rest)) :=
  lv_if_ne X.1 X.2.1 hdg ht (fun z => kt (fun q => z ((nI_eq (b := 0) ha (by omega)).mpr q))) (fun z => kf ((nI_eq (b := 0) ha (by omega)).mp z))
theorem z_le (X : cxC G p l R c cc nL m meth s args own Ts) (hdg : decode cc pc = .ok (.ifCond .le off, 3)) (ht : (pc : Int) + off = (tgt : Int)) (kt : a = 0 → W p l e R s m args below meth c H locs cells slots Q (F0 m tgt ls rest)) (kf : 0 < a → W p l e R s m args below meth c H locs cells slots Q (F0 m (pc + 3) ls rest)) (ha : a < 2 ^ 31 := by omega) : W p l e R s m args below meth c H locs cells slots Q (F0 m pc ls (.int (nI a) :: rest)) :=
  lv_if_le X.1 X.2.1 hdg ht (fun z => kt (nI_le0 ha z)) (fun z => kf (nI_gt0 z))
theorem z_lt (X : cxC G p l R c cc nL m meth s args own Ts) (hdg : decode cc pc = .ok (.ifCond .lt off, 3)) (ht : (pc : Int) + off = (tgt : Int)) (kf : W p l e R s m args below meth c H locs cells slots Q (F0 m (pc + 3) ls rest)) (ha : a < 2 ^ 31 := by omega) : W p l e R s m args below meth c H locs cells slots Q (F0 m pc ls (.int (nI a) :: rest)) :=
  lv_if_lt X.1 X.2.1 hdg ht (fun z => absurd z (nI_pos ha)) (fun _ => kf)
theorem z_ge (X : cxC G p l R c cc nL m meth s args own Ts) (hdg : decode cc pc = .ok (.ifCond .ge off, 3)) (ht : (pc : Int) + off = (tgt : Int)) (kt : W p l e R s m args below meth c H locs cells slots Q (F0 m tgt ls rest)) (ha : a < 2 ^ 31 := by omega) : W p l e R s m args below meth c H locs cells slots Q (F0 m pc ls (.int (nI a) :: rest)) :=
  lv_if_ge X.1 X.2.1 hdg ht (fun _ => kt) (fun z => absurd (nI_pos' ha) z)
theorem n_add (X : cxC G p l R c cc nL m meth s args own Ts) (hdg : decode cc pc = .ok (.iadd, 1)) (k : W p l e R s m args below meth c H locs cells slots Q (F0 m (pc + 1) ls (.int (nI (a + b)) :: rest))) : W p l e R s m args below meth c H locs cells slots Q (F0 m pc ls (.int (nI b) :: .int (nI a) :: rest)) :=
  lv_iadd X.1 X.2.1 hdg (by rw [nI_add]; exact k)
theorem n_mul (X : cxC G p l R c cc nL m meth s args own Ts) (hdg : decode cc pc = .ok (.imul, 1)) (k : W p l e R s m args below meth c H locs cells slots Q (F0 m (pc + 1) ls (.int (nI (a * b)) :: rest))) : W p l e R s m args below meth c H locs cells slots Q (F0 m pc ls (.int (nI b) :: .int (nI a) :: rest)) :=
  lv_imul X.1 X.2.1 hdg (by rw [pk_mul]; exact k)
theorem n_sub (X : cxC G p l R c cc nL m meth s args own Ts) (hdg : decode cc pc = .ok (.isub, 1)) (k : W p l e R s m args below meth c H locs cells slots Q (F0 m (pc + 1) ls (.int (nI (a - b)) :: rest))) (h : b ≤ a := by omega) : W p l e R s m args below meth c H locs cells slots Q (F0 m pc ls (.int (nI b) :: .int (nI a) :: rest)) :=
  lv_isub X.1 X.2.1 hdg (by rw [pk_sub h]; exact k)
theorem n_div (X : cxC G p l R c cc nL m meth s args own Ts) (hdg : decode cc pc = .ok (.idiv, 1)) (k : W p l e R s m args below meth c H locs cells slots Q (F0 m (pc + 1) ls (.int (nI (a / b)) :: rest))) (ha : a < 2 ^ 31 := by omega) (h0 : 0 < b := by omega) (hb : b < 2 ^ 31 := by omega) : W p l e R s m args below meth c H locs cells slots Q (F0 m pc ls (.int (nI b) :: .int (nI a) :: rest)) :=
  lv_idiv X.1 X.2.1 hdg (nI_ne0 h0 hb) (by rw [pk_div ha h0 hb]; exact k)
theorem n_rem (X : cxC G p l R c cc nL m meth s args own Ts) (hdg : decode cc pc = .ok (.irem, 1)) (k : W p l e R s m args below meth c H locs cells slots Q (F0 m (pc + 1) ls (.int (nI (a % b)) :: rest))) (ha : a < 2 ^ 31 := by omega) (h0 : 0 < b := by omega) (hb : b < 2 ^ 31 := by omega) : W p l e R s m args below meth c H locs cells slots Q (F0 m pc ls (.int (nI b) :: .int (nI a) :: rest)) :=
  lv_irem X.1 X.2.1 hdg (nI_ne0 h0 hb) (by rw [pk_rem ha h0 hb]; exact k)
theorem n_ladd (X : cxC G p l R c cc nL m meth s args own Ts) (hdg : decode cc pc = .ok (.ladd, 1)) (k : W p l e R s m args below meth c H locs cells slots Q (F0 m (pc + 1) ls (.long (lN (a + b)) :: rest))) : W p l e R s m args below meth c H locs cells slots Q (F0 m pc ls (.long (lN b) :: .long (lN a) :: rest)) :=
  lv_ladd X.1 X.2.1 hdg (by rw [lN_add]; exact k)
theorem n_lmul (X : cxC G p l R c cc nL m meth s args own Ts) (hdg : decode cc pc = .ok (.lmul, 1)) (k : W p l e R s m args below meth c H locs cells slots Q (F0 m (pc + 1) ls (.long (lN (a * b)) :: rest))) : W p l e R s m args below meth c H locs cells slots Q (F0 m pc ls (.long (lN b) :: .long (lN a) :: rest)) :=
  lv_lmul X.1 X.2.1 hdg (by rw [lN_mul]; exact k)
theorem lN_ne0 {n : Nat} (h0 : 0 < n) (h : n < 2 ^ 63) : ¬ lN n = 0 := fun z => by
  have := (pk_lEQ (a := n) (b := 0) h (by omega)).mp z
  omega
theorem n_ldiv (X : cxC G p l R c cc nL m meth s args own Ts) (hdg : decode cc pc = .ok (.ldiv, 1)) (k : W p l e R s m args below meth c H locs cells slots Q (F0 m (pc + 1) ls (.long (lN (a / b)) :: rest))) (ha : a < 2 ^ 63 := by omega) (h0 : 0 < b := by omega) (hb : b < 2 ^ 63 := by omega) : W p l e R s m args below meth c H locs cells slots Q (F0 m pc ls (.long (lN b) :: .long (lN a) :: rest)) :=
  lv_ldiv X.1 X.2.1 hdg (lN_ne0 h0 hb) (by rw [pk_lDiv ha h0 hb]; exact k)
theorem n_i2l (X : cxC G p l R c cc nL m meth s args own Ts) (hdg : decode cc pc = .ok (.i2l, 1)) (k : W p l e R s m args below meth c H locs cells slots Q (F0 m (pc + 1) ls (.long (lN a) :: rest))) (ha : a < 2 ^ 31 := by omega) : W p l e R s m args below meth c H locs cells slots Q (F0 m pc ls (.int (nI a) :: rest)) :=
  lv_i2l X.1 X.2.1 hdg (nI_l ha) k
theorem ll_lt (X : cxC G p l R c cc nL m meth s args own Ts) (h1 : decode cc pc = .ok (.lcmp, 1)) (hdg : decode cc (pc + 1) = .ok (.ifCond .lt off, 3)) (ht : ((pc + 1 : Nat) : Int) + off = (tgt : Int)) (kt : a < b → W p l e R s m args below meth c H locs cells slots Q (F0 m tgt ls rest)) (kf : ¬ a < b → W p l e R s m args below meth c H locs cells slots Q (F0 m (pc + 1 + 3) ls rest)) (ha : a < 2 ^ 63 := by omega) (hb : b < 2 ^ 63 := by omega) : W p l e R s m args below meth c H locs cells slots Q (F0 m pc ls (.long (lN b) :: .long (lN a) :: rest)) :=
  W.lcmp X.1 X.2.1 h1 (lv_if_lt X.1 X.2.1 hdg ht (fun z => kt (((lg_cmp_lt _ _).trans (pk_lLT (by assumption) (by assumption))).mp z)) (fun z => kf (fun q => z (((lg_cmp_lt _ _).trans (pk_lLT (by assumption) (by assumption))).mpr q))))
theorem ll_ge (X : cxC G p l R c cc nL m meth s args own Ts) (h1 : decode cc pc = .ok (.lcmp, 1)) (hdg : decode cc (pc + 1) = .ok (.ifCond .ge off, 3)) (ht : ((pc + 1 : Nat) : Int) + off = (tgt : Int)) (kt : b ≤ a → W p l e R s m args below meth c H locs cells slots Q (F0 m tgt ls rest)) (kf : ¬ b ≤ a → W p l e R s m args below meth c H locs cells slots Q (F0 m (pc + 1 + 3) ls rest)) (ha : a < 2 ^ 63 := by omega) (hb : b < 2 ^ 63 := by omega) : W p l e R s m args below meth c H locs cells slots Q (F0 m pc ls (.long (lN b) :: .long (lN a) :: rest)) :=
  W.lcmp X.1 X.2.1 h1 (lv_if_ge X.1 X.2.1 hdg ht (fun z => kt (((lg_cmp_ge _ _).trans (pk_lLE (by assumption) (by assumption))).mp z)) (fun z => kf (fun q => z (((lg_cmp_ge _ _).trans (pk_lLE (by assumption) (by assumption))).mpr q))))
theorem ll_gt (X : cxC G p l R c cc nL m meth s args own Ts) (h1 : decode cc pc = .ok (.lcmp, 1)) (hdg : decode cc (pc + 1) = .ok (.ifCond .gt off, 3)) (ht : ((pc + 1 : Nat) : Int) + off = (tgt : Int)) (kt : b < a → W p l e R s m args below meth c H locs cells slots Q (F0 m tgt ls rest)) (kf : ¬ b < a → W p l e R s m args below meth c H locs cells slots Q (F0 m (pc + 1 + 3) ls rest)) (ha : a < 2 ^ 63 := by omega) (hb : b < 2 ^ 63 := by omega) : W p l e R s m args below meth c H locs cells slots Q (F0 m pc ls (.long (lN b) :: .long (lN a) :: rest)) :=
  W.lcmp X.1 X.2.1 h1 (lv_if_gt X.1 X.2.1 hdg ht (fun z => kt (((lg_cmp_gt _ _).trans (pk_lLT (by assumption) (by assumption))).mp z)) (fun z => kf (fun q => z (((lg_cmp_gt _ _).trans (pk_lLT (by assumption) (by assumption))).mpr q))))
theorem ll_le (X : cxC G p l R c cc nL m meth s args own Ts) (h1 : decode cc pc = .ok (.lcmp, 1)) (hdg : decode cc (pc + 1) = .ok (.ifCond .le off, 3)) (ht : ((pc + 1 : Nat) : Int) + off = (tgt : Int)) (kt : a ≤ b → W p l e R s m args below meth c H locs cells slots Q (F0 m tgt ls rest)) (kf : ¬ a ≤ b → W p l e R s m args below meth c H locs cells slots Q (F0 m (pc + 1 + 3) ls rest)) (ha : a < 2 ^ 63 := by omega) (hb : b < 2 ^ 63 := by omega) : W p l e R s m args below meth c H locs cells slots Q (F0 m pc ls (.long (lN b) :: .long (lN a) :: rest)) :=
  W.lcmp X.1 X.2.1 h1 (lv_if_le X.1 X.2.1 hdg ht (fun z => kt (((lg_cmp_le _ _).trans (pk_lLE (by assumption) (by assumption))).mp z)) (fun z => kf (fun q => z (((lg_cmp_le _ _).trans (pk_lLE (by assumption) (by assumption))).mpr q))))
theorem ll_eq (X : cxC G p l R c cc nL m meth s args own Ts) (h1 : decode cc pc = .ok (.lcmp, 1)) (hdg : decode cc (pc + 1) = .ok (.ifCond .eq off, 3)) (ht : ((pc + 1 : Nat) : Int) + off = (tgt : Int)) (kt : a = b → W p l e R s m args below meth c H locs cells slots Q (F0 m tgt ls rest)) (kf : ¬ a = b → W p l e R s m args below meth c H locs cells slots Q (F0 m (pc + 1 + 3) ls rest)) (ha : a < 2 ^ 63 := by omega) (hb : b < 2 ^ 63 := by omega) : W p l e R s m args below meth c H locs cells slots Q (F0 m pc ls (.long (lN b) :: .long (lN a) :: rest)) :=
  W.lcmp X.1 X.2.1 h1 (lv_if_eq X.1 X.2.1 hdg ht (fun z => kt (((lg_cmp_eq _ _).trans (pk_lEQ (by assumption) (by assumption))).mp z)) (fun z => kf (fun q => z (((lg_cmp_eq _ _).trans (pk_lEQ (by assumption) (by assumption))).mpr q))))
theorem ll_ne (X : cxC G p l R c cc nL m meth s args own Ts) (h1 : decode cc pc = .ok (.lcmp, 1)) (hdg : decode cc (pc + 1) = .ok (.ifCond .ne off, 3)) (ht : ((pc + 1 : Nat) : Int) + off = (tgt : Int)) (kt : ¬ a = b → W p l e R s m args below meth c H locs cells slots Q (F0 m tgt ls rest)) (kf : a = b → W p l e R s m args below meth c H locs cells slots Q (F0 m (pc + 1 + 3) ls rest)) (ha : a < 2 ^ 63 := by omega) (hb : b < 2 ^ 63 := by omega) : W p l e R s m args below meth c H locs cells slots Q (F0 m pc ls (.long (lN b) :: .long (lN a) :: rest)) :=
  W.lcmp X.1 X.2.1 h1 (lv_if_ne X.1 X.2.1 hdg ht (fun z => kt (fun q => z (((lg_cmp_eq _ _).trans (pk_lEQ (by assumption) (by assumption))).mpr q))) (fun z => kf (((lg_cmp_eq _ _).trans (pk_lEQ (by assumption) (by assumption))).mp z)))
theorem n_iald (X : cxC G p l R c cc nL m meth s args own Ts) (S : cxS G s f H locs) {n i : Nat} {f0 : Nat → Int32} {v : Int32} (ha : f a = some (t, eI G n f0)) (hv : f0 i = v) (hdg : decode cc pc = .ok (.iaload, 1)) (kk : W p l e R s m args below meth c H locs cells slots Q (F0 m (pc + 1) ls (.int v :: rest))) (hi : i < n := by omega) (hn : n < 2 ^ 31 := by omega) : W p l e R s m args below meth c H locs cells slots Q (F0 m pc ls (.int (nI i) :: .ref a :: rest)) :=
  r_iald X S ha (vp_in_nI hi hn) (by rw [nI_clamp (Nat.lt_trans hi hn)]; exact hv) hdg kk
theorem n_lald (X : cxC G p l R c cc nL m meth s args own Ts) (S : cxS G s f H locs) {n i : Nat} {f0 : Nat → Int64} {v : Int64} (ha : f a = some (t, eJ G n f0)) (hv : f0 i = v) (hdg : decode cc pc = .ok (.laload, 1)) (kk : W p l e R s m args below meth c H locs cells slots Q (F0 m (pc + 1) ls (.long v :: rest))) (hi : i < n := by omega) (hn : n < 2 ^ 31 := by omega) : W p l e R s m args below meth c H locs cells slots Q (F0 m pc ls (.int (nI i) :: .ref a :: rest)) :=
  r_lald X S ha (vp_in_nI hi hn) (by rw [nI_clamp (Nat.lt_trans hi hn)]; exact hv) hdg kk
theorem n_iast (X : cxC G p l R c cc nL m meth s args own Ts) (S : cxS G s f H locs) {n i : Nat} {f0 : Nat → Int32} {v : Int32} (ha : f a = some (t, eI G n f0)) (ht : t ≠ 9999) (hdg : decode cc pc = .ok (.iastore, 1)) (kk : ∀ (f' : Wd) (H : Heap) (locs : List Loc), f' = wu f a t (eI G n (upd f0 i v)) → cxS G s f' H locs → W p l e R s m args below meth c H locs cells slots Q (F0 m (pc + 1) ls rest)) (hi : i < n := by omega) (hn : n < 2 ^ 31 := by omega) : W p l e R s m args below meth c H locs cells slots Q (F0 m pc ls (.int v :: .int (nI i) :: .ref a :: rest)) :=
  r_iast X S ha ht (vp_in_nI hi hn) hdg (fun H locs S => kk _ H locs rfl (by rw [nI_clamp (Nat.lt_trans hi hn)] at S; exact S))
theorem n_last (X : cxC G p l R c cc nL m meth s args own Ts) (S : cxS G s f H locs) {n i : Nat} {f0 : Nat → Int64} {v : Int64} (ha : f a = some (t, eJ G n f0)) (ht : t ≠ 9999) (hdg : decode cc pc = .ok (.lastore, 1)) (kk : ∀ (f' : Wd) (H : Heap) (locs : List Loc), f' = wu f a t (eJ G n (vp_updL f0 i v)) → cxS G s f' H locs → W p l e R s m args below meth c H locs cells slots Q (F0 m (pc + 1) ls rest)) (hi : i < n := by omega) (hn : n < 2 ^ 31 := by omega) : W p l e R s m args below meth c H locs cells slots Q (F0 m pc ls (.long v :: .int (nI i) :: .ref a :: rest)) :=
  r_last X S ha ht (vp_in_nI hi hn) hdg (fun H locs S => kk _ H locs rfl (by rw [nI_clamp (Nat.lt_trans hi hn)] at S; exact S))
/-- the script -/
theorem n_sld (X : cxC G p l R c cc nL m meth s args own Ts) (S : cxS G s f H locs) {i : Nat} {v : Int32} (hv : gx G i = v) (hdg : decode cc pc = .ok (.iaload, 1)) (kk : W p l e R s m args below meth c H locs cells slots Q (F0 m (pc + 1) ls (.int v :: rest))) (hi : i < gL G) (hn : gL G < 2 ^ 31) : W p l e R s m args below meth c H locs cells slots Q (F0 m pc ls (.int (nI i) :: .ref (gb G) :: rest)) := by
  subst hv
  obtain ⟨cell, h1, h2, h3, h4, h5, h6⟩ := X.2.2.2.2.2.1.2.2.2.2.2.2.2.2.2.1.2
  have B := X.2.2.2.2.2.2.1
  refine va_sld X.1 X.2.1 (A := gA G) (H0 := s.heap) (h6.kept (B.2 _ h5)) (Nat.lt_of_lt_of_le h5 B.1) (fun z => by have : (gH G).size ≤ gb G := z; omega) S.2 (vp_in_nI hi hn) hdg ?_
  rw [nI_clamp (Nat.lt_trans hi hn)]
  exact kk
theorem n_slen (X : cxC G p l R c cc nL m meth s args own Ts) (S : cxS G s f H locs) (hdg : decode cc pc = .ok (.arraylength, 1)) (kk : W p l e R s m args below meth c H locs cells slots Q (F0 m (pc + 1) ls (.int (nI (gL G)) :: rest))) : W p l e R s m args below meth c H locs cells slots Q (F0 m pc ls (.ref (gb G) :: rest)) := by
  obtain ⟨cell, h1, h2, h3, h4, h5, h6⟩ := X.2.2.2.2.2.1.2.2.2.2.2.2.2.2.2.1.2
  have B := X.2.2.2.2.2.2.1
  exact va_slen X.1 X.2.1 (A := gA G) (H0 := s.heap) (h6.kept (B.2 _ h5)) (Nat.lt_of_lt_of_le h5 B.1) (fun z => by have : (gH G).size ≤ gb G := z; omega) S.2 hdg kk
theorem call_iq {mc ms : Nat} {Φ : Int32 → Prop} {a : Array Value} (hr : va_Run p l e R s m args below meth c H locs cells slots mc ms (F0 m pc ls st) rest (va_Qi (fun r (_ : Unit) => Φ r) (fun _ t => hp G f t.heap) (gA G) a) (gA G)) (S : cxS G s f H locs)
    (kk : ∀ (r : Int32) (H : Heap) (locs : List Loc), Φ r → cxS G s f H locs → W p l e R s m args below meth c H locs (cells + mc) (slots + ms) Q (F0 m (pc + 3) ls (.int r :: rest))) : W p l e R s m args below meth c H locs cells slots Q (F0 m pc ls st) :=
  va_calli hr S.2 (fun _ _ h => h) (fun _ h => h) (fun r u t H1 locs1 ht _ hΦ hB _ _ hS1 => kk r H1 locs1 hΦ ⟨by rw [← ht]; exact hB, hS1⟩)
theorem e_iq {Φ : Int32 → Prop} {v : Int32} {mc ms : Nat} (X : cxC G p l R c cc nL m meth s args own Ts) (hr : meth.sig.returnType = some .int) (S : cxS G s f H locs) (hc : cells ≤ mc) (hs : slots ≤ ms) (hdg : decode cc pc = .ok (.ireturn, 1)) (hΦ : Φ v) :
    W p l e R s m args below meth c H locs cells slots (MQ below (va_Qi (fun r (_ : Unit) => Φ r) (fun _ t => hp G f t.heap) (gA G)) args s mc ms (gA G)) (F0 m pc ls [.int v]) :=
  W.widen hc hs (W.iret X.1 X.2.1 hr (fun t ht hW => ⟨⟨v, (), rfl, hΦ, hp_eq ht S.1⟩, S.2.F ht⟩) S.2.2.2 hdg X.2.2.2.2.2.2.2)
theorem e_zq {Φ : Int32 → Prop} {v : Int32} {mc ms : Nat} (X : cxC G p l R c cc nL m meth s args own Ts) (hr : meth.sig.returnType = some .boolean) (S : cxS G s f H locs) (hc : cells ≤ mc) (hs : slots ≤ ms) (hdg : decode cc pc = .ok (.ireturn, 1)) (hn : narrow .boolean (.int v) = .int v) (hΦ : Φ v) :
    W p l e R s m args below meth c H locs cells slots (MQ below (va_Qi (fun r (_ : Unit) => Φ r) (fun _ t => hp G f t.heap) (gA G)) args s mc ms (gA G)) (F0 m pc ls [.int v]) :=
  W.widen hc hs (W.zret X.1 X.2.1 hr hn (fun t ht hW => ⟨⟨v, (), rfl, hΦ, hp_eq ht S.1⟩, S.2.F ht⟩) S.2.2.2 hdg X.2.2.2.2.2.2.2)
/-- a call that catches what is thrown in it -/
theorem acall_l {Φ : Int64 → Wd → Prop} {a : Array Value} {mc1 ms1 : Nat} (hr : vx_Run p l e R s m args below meth c H locs cells slots mc1 ms1 (F0 m pc ls st) rest (va_Ql Φ (fun f' t => hp G f' t.heap) (gA G) a) (XC G f (fun _ => False)) (gA G)) (S : cxS G s f H locs)
    (kk : ∀ (r : Int64) (f' : Wd) (H : Heap) (locs : List Loc), Φ r f' → cxS G s f' H locs → W p l e R s m args below meth c H locs (cells + mc1) (slots + ms1) Q (F0 m (pc + 3) ls (.long r :: rest))) : W p l e R s m args below meth c H locs cells slots Q (F0 m pc ls st) :=
  xcall_lt hr S (fun _ _ _ _ _ h => h.elim) kk
end NUM
abbrev QI (l : Launch) (G : cx_G) (y : MethodName) (ws : List Cond) (fr lo mc ms : Nat) (as : List Value) (f : Wd) (Φ : Int32 → Prop) : Prop :=
  Met l y ws { frames := fr, cells := mc, slots := ms, locals := lo } (va_Pc as (Pin G f)) (va_Qi (fun r (_ : Unit) => Φ r) (fun _ t => hp G f t.heap) (gA G)) mc ms (gA G)
theorem xi_q {l : Launch} {G : cx_G} {y : MethodName} {ws : List Cond} {fr lo mc ms K : Nat} {as : List Value} {f : Wd} {P : Int32 → Prop} {ns : List String} (h : XI l G y ws fr lo mc ms as f (fun r f' => K = 0 ∧ P r ∧ f' = f) (psi ns K)) (hK : K = 0) : QI l G y ws fr lo mc ms as f P := by
  refine Jvm.Free.MetFree.mono h (fun _ _ h => h) (fun _ _ _ _ _ h => h) (fun a s o t _ hq => ?_)
  rcases hq with ⟨⟨⟨r, u, h1, ⟨-, h2, rfl⟩, h3⟩, hF⟩, hL⟩ | ⟨q, h1, E, ce, L, ⟨u, -, ⟨⟨i, hi, hki⟩, -⟩, -⟩, -⟩
  · exact ⟨⟨⟨r, (), h1, h2, h3⟩, hF⟩, hL⟩
  · rw [hK] at hki
    omega
theorem xi_m {l : Launch} {G : cx_G} {y : MethodName} {ws : List Cond} {fr lo mc ms K : Nat} {as : List Value} {f : Wd} {P : Int32 → Wd → Prop} {ns : List String} (h : XI l G y ws fr lo mc ms as f (fun r f' => K = 0 ∧ P r f') (psi ns K)) (hK : K = 0) : MI l G y ws fr lo mc ms as f P := by
  refine Jvm.Free.MetFree.mono h (fun _ _ h => h) (fun _ _ _ _ _ h => h) (fun a s o t _ hq => ?_)
  rcases hq with ⟨⟨⟨r, u, h1, ⟨-, h2⟩, h3⟩, hF⟩, hL⟩ | ⟨q, h1, E, ce, L, ⟨u, -, ⟨⟨i, hi, hki⟩, -⟩, -⟩, -⟩
  · exact ⟨⟨⟨r, u, h1, h2, h3⟩, hF⟩, hL⟩
  · rw [hK] at hki
    omega
theorem inI_n {k : Nat} {a b : Int} (h : k < 2 ^ 31) (h1 : a ≤ (k : Int)) (h2 : (k : Int) ≤ b) : inI (nI k) a b := by
  unfold inI
  rw [i_n h]
  exact ⟨h1, h2⟩
theorem cell_n {x y : Nat} (hx : x < 16) (hy : y < 16) : cellP (nI x) (nI y) := ⟨inI_n (by omega) (by omega) (by omega), inI_n (by omega) (by omega) (by omega)⟩
theorem ord_n {x y tx ty : Nat} (hx : x ≤ tx) (hy : y ≤ ty) (h1 : tx < 16) (h2 : ty < 16) : ordP (nI x) (nI y) (nI tx) (nI ty) := by
  unfold ordP
  rw [i_n (by omega), i_n (by omega), i_n (by omega), i_n (by omega)]
  omega
theorem u_about (l : Launch) (hst : l.stackTraces = false) (G : cx_G) (f : Wd) (st : St) (x : Nat) (hI : sInv st) (hR0 : RX G f st x) (k v : Nat) (hk : k < st 0 0) (hv : v ≤ 3) : QI l G yX9_about wsX9_about 7 115 2 12 [.ref x, .int (nI k), .int (nI v)] f (fun r => r = nI (aboutN st k v)) := by
  have h9 := sInv_le hI
  have h := q_about l hst G f st x hI hR0 (nI k) (nI v)
  rw [nN_nI (by omega), nN_nI (by omega)] at h
  exact xi_q h (k2_0 (inI_n (by omega) (by omega) (by omega)) (inI_n (by omega) (by omega) (by omega)))
theorem u_depthAnew (l : Launch) (hst : l.stackTraces = false) (G : cx_G) (f : Wd) (st : St) (x : Nat) (hI : sInv st) (hR0 : RX G f st x) (k : Nat) (hk : k < st 0 0) : QI l G yX9_depthAnew wsX9_depthAnew 7 111 1 6 [.ref x, .int (nI k)] f (fun r => r = nI (st 7 k)) := by
  have h9 := sInv_le hI
  have h := q_depthAnew l hst G f st x hI hR0 (nI k)
  rw [nN_nI (by omega)] at h
  exact xi_q h (k1_0 (inI_n (by omega) (by omega) (by omega)))
theorem u_top (l : Launch) (hst : l.stackTraces = false) (G : cx_G) (f : Wd) (st : St) (x : Nat) (hI : sInv st) (hR0 : RX G f st x) (a b : Nat) (ha : a < 16) (hb : b < 16) : QI l G yX9_top wsX9_top 7 111 1 6 [.ref x, .int (nI a), .int (nI b)] f (fun r => r = tpI (topP st a b) (st 0 0)) := by
  have h := q_top l hst G f st x hI hR0 (nI a) (nI b)
  rw [nN_nI (by omega), nN_nI (by omega)] at h
  exact xi_q h (k1_0 (cell_n ha hb))
theorem u_topAnew (l : Launch) (hst : l.stackTraces = false) (G : cx_G) (f : Wd) (st : St) (x : Nat) (hI : sInv st) (hR0 : RX G f st x) (a b : Nat) (ha : a < 16) (hb : b < 16) : QI l G yX9_topAnew wsX9_topAnew 7 111 1 6 [.ref x, .int (nI a), .int (nI b)] f (fun r => r = tpI (topP st a b) (st 0 0)) := by
  have h := q_topAnew l hst G f st x hI hR0 (nI a) (nI b)
  rw [nN_nI (by omega), nN_nI (by omega)] at h
  exact xi_q h (k1_0 (cell_n ha hb))
theorem u_count (l : Launch) (hst : l.stackTraces = false) (G : cx_G) (f : Wd) (st : St) (x : Nat) (hI : sInv st) (hR0 : RX G f st x) (c x0 y0 tx ty k : Nat) (hc : c < st 0 2) (hx : x0 ≤ tx) (hy : y0 ≤ ty) (h1 : tx < 16) (h2 : ty < 16) (hk1 : 1 ≤ k) (hk7 : k ≤ 7) : QI l G yX9_count wsX9_count 8 136 6 34 [.ref x, .int (nI c), .int (nI x0), .int (nI y0), .int (nI tx), .int (nI ty), .int (nI k)] f (fun r => r = nI (cn (seenP st k c x0 y0 tx ty) (st 0 0))) := by
  have h9 := hI.1.2.2.1
  have h := q_count l hst G f st x hI hR0 (nI c) (nI x0) (nI y0) (nI tx) (nI ty) (nI k)
  rw [nN_nI (by omega), nN_nI (by omega), nN_nI (by omega), nN_nI (by omega), nN_nI (by omega), nN_nI (by omega)] at h
  exact xi_q h (k2_0 ⟨inI_n (by omega) (by omega) (by omega), cell_n (by omega) (by omega), cell_n (by omega) (by omega)⟩ ⟨inI_n (by omega) (by omega) (by omega), ord_n hx hy h1 h2⟩)
theorem u_whyNot (l : Launch) (hst : l.stackTraces = false) (G : cx_G) (f : Wd) (st : St) (x : Nat) (hI : sInv st) (hR0 : RX G f st x) (c x0 y0 tx ty : Nat) (hc : c < st 0 2) (hx : x0 ≤ tx) (hy : y0 ≤ ty) (h1 : tx < 16) (h2 : ty < 16) : QI l G yX9_whyNot wsX9_whyNot 8 136 5 28 [.ref x, .int (nI c), .int (nI x0), .int (nI y0), .int (nI tx), .int (nI ty)] f (fun r => r = nI (lackN st (densN st c x0 y0 tx ty))) := by
  have h9 := hI.1.2.2.1
  have h := q_whyNot l hst G f st x hI hR0 (nI c) (nI x0) (nI y0) (nI tx) (nI ty)
  rw [nN_nI (by omega), nN_nI (by omega), nN_nI (by omega), nN_nI (by omega), nN_nI (by omega)] at h
  exact xi_q h (k2_0 ⟨inI_n (by omega) (by omega) (by omega), cell_n (by omega) (by omega), cell_n (by omega) (by omega)⟩ (ord_n hx hy h1 h2))
theorem u_ground (l : Launch) (hst : l.stackTraces = false) (G : cx_G) (f : Wd) (st : St) (x : Nat) (hI : sInv st) (hR0 : RX G f st x) (a b k : Nat) (ha : a < 16) (hb : b < 16) (hk : k ≤ 2) : MI l G yX9_ground wsX9_ground 7 115 2 12 [.ref x, .int (nI a), .int (nI b), .int (nI k)] f (fun r f' => r = nI (st 1 (16 * b + a)) ∧ RX G f' (s_up st 1 (16 * b + a) k) x ∧ md tX f f') := by
  have h := c_ground l hst G f st x hI hR0 (nI a) (nI b) (nI k)
  rw [nN_nI (by omega), nN_nI (by omega), nN_nI (by omega)] at h
  exact xi_m h (k2_0 (cell_n ha hb) (inI_n (by omega) (by omega) (by omega)))
theorem u_stone (l : Launch) (hst : l.stackTraces = false) (G : cx_G) (f : Wd) (st : St) (x : Nat) (hI : sInv st) (hR0 : RX G f st x) (a b z : Nat) (ha : a < 16) (hb : b < 16) (hz : 1 ≤ z) (hz6 : z ≤ 6) (hn : st 0 0 + 1 ≤ 200) : MI l G yX9_stone wsX9_stone 8 218 5 324 [.ref x, .int (nI a), .int (nI b), .int (nI z)] f (fun r f' => r = nI (cn (goneB st a b z) (st 0 0)) ∧ RX G f' (fallSt st a b z) x ∧ md tX f f') := by
  have h := c_stone l hst G f st x hI hR0 (nI a) (nI b) (nI z)
  rw [nN_nI (by omega), nN_nI (by omega), nN_nI (by omega)] at h
  exact xi_m h (k3_0 (cell_n ha hb) (inI_n (by omega) (by omega) (by omega)) hn)
theorem u_draw (l : Launch) (hst : l.stackTraces = false) (G : cx_G) (f : Wd) (st : St) (x : Nat) (hI : sInv st) (hR0 : RX G f st x) (d : Nat) (h1 : 1 ≤ d) (h2 : d ≤ 65536) : MI l G yX9_draw wsX9_draw 7 115 1 6 [.ref x, .int (nI d)] f (fun r f' => r = nI (st 0 4) ∧ RX G f' (s_up st 0 4 d) x ∧ md tX f f') := by
  have h := c_draw l hst G f st x hI hR0 (nI d)
  rw [nN_nI (by omega)] at h
  exact xi_m h (k1_0 (inI_n (by omega) (by omega) (by omega)))
theorem u_rain (l : Launch) (hst : l.stackTraces = false) (G : cx_G) (f : Wd) (st : St) (x : Nat) (hI : sInv st) (hR0 : RX G f st x) (n : Nat) (h1 : 1 ≤ n) (h2 : n ≤ 30) (hn : st 0 0 + n ≤ 200) : MI l G yX9_rain wsX9_rain 8 218 62 9192 [.ref x, .int (nI n)] f (fun r f' => r = nI (cn (liveP (rainSt st n)) ((rainSt st n) 0 0)) ∧ RX G f' (rainSt st n) x ∧ md tX f f') := by
  have h := c_rain l hst G f st x hI hR0 (nI n)
  rw [nN_nI (by omega)] at h
  exact xi_m h (k2_0 (inI_n (by omega) (by omega) (by omega)) hn)
theorem u_eye (l : Launch) (hst : l.stackTraces = false) (G : cx_G) (f : Wd) (st : St) (x : Nat) (hI : sInv st) (hR0 : RX G f st x) (k : Nat) (h1 : 1 ≤ k) (h2 : k ≤ 9) (h6 : st 0 2 < 6) : MI l G yX9_eye wsX9_eye 7 191 3 307 [.ref x, .int (nI k)] f (fun r f' => r = nI (st 0 2) ∧ RX G f' (eyeSt st k) x ∧ md tX f f') := by
  have h := c_eye l hst G f st x hI hR0 (nI k)
  rw [nN_nI (by omega)] at h
  exact xi_m h (k2_0 (inI_n (by omega) (by omega) (by omega)) h6)
theorem u_anchor (l : Launch) (hst : l.stackTraces = false) (G : cx_G) (f : Wd) (st : St) (x : Nat) (hI : sInv st) (hR0 : RX G f st x) (u v : Nat) (h1 : 1 ≤ u) (h2 : u ≤ 5000000000) (h3 : 1 ≤ v) (h4 : v ≤ 100000000) (hc : canP st u v) : MI l G yX9_anchor wsX9_anchor 8 215 4 314 [.ref x, .long (lN u), .long (lN v)] f (fun r f' => r = nI (st 0 3 + 1) ∧ RX G f' (anchSt st u v) x ∧ md tX f f') := by
  have h := c_anchor l hst G f st x hI hR0 (lN u) (lN v)
  rw [nL_lN (by omega), nL_lN (by omega)] at h
  refine xi_m h (k2_0 ⟨⟨?_, ?_⟩, ⟨?_, ?_⟩⟩ hc)
  all_goals rw [pk_lT (by omega)]
  all_goals omega
