/-! the law: its callers of the class's methods, which catch -/
theorem k1_i {A : Prop} (h : k1 A = 0) : A := by
  by_cases a : A
  · exact a
  · rw [k1_1 a] at h; cases h
theorem k2_i {A B : Prop} (h : k2 A B = 0) : A ∧ B := by
  by_cases a : A
  · by_cases b : B
    · exact ⟨a, b⟩
    · rw [k2_2 a b] at h; cases h
  · rw [k2_1 a] at h; cases h
theorem k3_i {A B C : Prop} (h : k3 A B C = 0) : A ∧ B ∧ C := by
  by_cases a : A
  · by_cases b : B
    · by_cases c : C
      · exact ⟨a, b, c⟩
      · rw [k3_3 a b c] at h; cases h
    · rw [k3_2 a b] at h; cases h
  · rw [k3_1 a] at h; cases h
theorem kk1_le (A : Prop) : k1 A ≤ 3 := by
  by_cases a : A
  · rw [k1_0 a]; omega
  · rw [k1_1 a]; omega
theorem kk2_le (A B : Prop) : k2 A B ≤ 3 := by
  by_cases a : A
  · by_cases b : B
    · rw [k2_0 a b]; omega
    · rw [k2_2 a b]; omega
  · rw [k2_1 a]; omega
theorem kk3_le (A B C : Prop) : k3 A B C ≤ 3 := by
  by_cases a : A
  · by_cases b : B
    · by_cases c : C
      · rw [k3_0 a b c]; omega
      · rw [k3_3 a b c]; omega
    · rw [k3_2 a b]; omega
  · rw [k3_1 a]; omega
theorem stp_i {k : Nat} {a b : St} (h : k = 0 → sInv a) (hb : sInv b) : sInv (stp k a b) := by
  unfold stp
  split
  · exact h (by assumption)
  · exact hb
theorem sInv_le {st : St} (h : sInv st) : st 0 0 ≤ 200 := h.1.1
theorem nN_in {x : Int32} {a b : Int} (h : inI x a b) (h0 : 0 ≤ a) : a ≤ nN x ∧ (nN x : Int) ≤ b := by
  obtain ⟨h1, h2⟩ := h
  unfold nN
  omega
theorem nL_in {x : Int64} {a b : Int} (h : rgL x a b) (h0 : 0 ≤ a) : a ≤ nL x ∧ (nL x : Int) ≤ b := by
  obtain ⟨h1, h2⟩ := h
  unfold nL
  omega
theorem vxh_body {l : Launch} {G : cx_G} {y : MethodName} {ws : List Cond} {rm : Room} {as : List Value} {f : Wd} {cc : ByteArray} {n : Nat} {ret : Option FieldType} {Q : Array Value → State → Outcome → State → Prop} {Xc : String → State → State → Prop} {mc ms : Nat} {ws' : List Cond} {hh : List (Nat × Nat × Nat × Nat)}
    (hy : plainName y.cls = true) (hw : ws = Cond.codeWith y cc n ret hh :: ws') (hn : (lg_sl as).length ≤ n)
    (body : ∀ (p : Program) (e : Env) (s : State) (m : MethodId) (below : List Frame) (meth : Method) (c : Code) (ls : Array Slot), cxC G p l rm c cc n m meth s as.toArray y.cls ws → meth.sig.returnType = ret → meth.name = y.name → c.exceptionTable.toList = tableOf hh → cxS G s f s.heap [] → lv_has ls n (lv_args 0 as) →
      W p l e rm s m as.toArray below meth c s.heap [] 0 0 (vx_MQ below Q Xc as.toArray s mc ms (gA G)) (F0 m 0 ls [])) :
    vx_Met l y ws rm (va_Pc as (Pin G f)) Q Xc mc ms (gA G) := by
  refine vx_ofWH (cc := cc) (maxL := n) (ret := ret) (hh := hh) hy hw ?_
  intro p e s m args below meth c s₁ B hml hv
  obtain ⟨rfl, hP, hK⟩ := hv
  have hts := atoms_spec (ws := ws) B.pre
  have htab := vx_table (x := y) B (hts _ (by rw [hw]; exact List.mem_cons_self))
  have hl := lv_entry as (n := n) hn
  rw [lg_entry_eq]
  generalize (lg_sl as ++ List.replicate (n - (lg_sl as).length) Slot.unset).toArray = ls at hl ⊢
  exact body p e s m below meth c ls ⟨B.exec, B.bytes, hml, findClass_of_methodNamed B.named, hts, hK, hP.base, B.notSynchronized⟩ B.returns (name_of_methodNamed B.named B.method).1 htab ⟨hP, va_S.rf⟩ hl
section CXV
variable {G : cx_G} {p : Program} {l : Launch} {e : Env} {R : Room} {s : State} {m : MethodId} {args : Array Value} {below : List Frame} {meth : Method} {c : Code} {H : Heap} {locs : List Loc} {cells slots : Nat} {Q : State → Prop}
variable {cc : ByteArray} {nL : Nat} {own : String} {Ts : List Cond} {pc : Nat} {ls : Array Slot} {rest st : List Value} {f : Wd} {Ψ1 : String → Prop}
theorem xcall_it {Φ : Int32 → Wd → Prop} {a : Array Value} {mc1 ms1 : Nat} (hr : vx_Run p l e R s m args below meth c H locs cells slots mc1 ms1 (F0 m pc ls st) rest (va_Qi Φ (fun f' t => hp G f' t.heap) (gA G) a) (XC G f Ψ1) (gA G)) (S : cxS G s f H locs)
    (kx : ∀ (E : String) (H : Heap) (locs : List Loc) (q : Addr) (ce : Cell), Ψ1 E → cxS G s f H locs → H[q]? = some ce → ce.vm = .none → s.vm.findClass E = some ce.cls → vx_W p l e R s m args below meth c H locs (cells + mc1) (slots + ms1) Q (F0 m pc ls rest) q)
    (kk : ∀ (r : Int32) (f' : Wd) (H : Heap) (locs : List Loc), Φ r f' → cxS G s f' H locs → W p l e R s m args below meth c H locs (cells + mc1) (slots + ms1) Q (F0 m (pc + 3) ls (.int r :: rest))) : W p l e R s m args below meth c H locs cells slots Q (F0 m pc ls st) :=
  vx_calli hr S.2 (fun _ _ h => h) (fun _ h => h) (fun _ _ h => h) (fun E ce q9 u t H1 locs1 ht _ _ hB hz _ hS1 hce hcv hcl => kx E H1 locs1 q9 ce hB.1 ⟨by rw [← ht]; exact hB.2, hS1⟩ hce hcv hcl)
    (fun r u t H1 locs1 ht _ hΦ hB _ _ hS1 => kk r u H1 locs1 hΦ ⟨by rw [← ht]; exact hB, hS1⟩)
theorem xcall_lt {Φ : Int64 → Wd → Prop} {a : Array Value} {mc1 ms1 : Nat} (hr : vx_Run p l e R s m args below meth c H locs cells slots mc1 ms1 (F0 m pc ls st) rest (va_Ql Φ (fun f' t => hp G f' t.heap) (gA G) a) (XC G f Ψ1) (gA G)) (S : cxS G s f H locs)
    (kx : ∀ (E : String) (H : Heap) (locs : List Loc) (q : Addr) (ce : Cell), Ψ1 E → cxS G s f H locs → H[q]? = some ce → ce.vm = .none → s.vm.findClass E = some ce.cls → vx_W p l e R s m args below meth c H locs (cells + mc1) (slots + ms1) Q (F0 m pc ls rest) q)
    (kk : ∀ (r : Int64) (f' : Wd) (H : Heap) (locs : List Loc), Φ r f' → cxS G s f' H locs → W p l e R s m args below meth c H locs (cells + mc1) (slots + ms1) Q (F0 m (pc + 3) ls (.long r :: rest))) : W p l e R s m args below meth c H locs cells slots Q (F0 m pc ls st) :=
  vx_calll hr S.2 (fun _ _ h => h) (fun _ h => h) (fun _ _ h => h) (fun E ce q9 u t H1 locs1 ht _ _ hB hz _ hS1 hce hcv hcl => kx E H1 locs1 q9 ce hB.1 ⟨by rw [← ht]; exact hB.2, hS1⟩ hce hcv hcl)
    (fun r u t H1 locs1 ht _ hΦ hB _ _ hS1 => kk r u H1 locs1 hΦ ⟨by rw [← ht]; exact hB, hS1⟩)
theorem r_catch (X : cxC G p l R c cc nL m meth s args own Ts) {hh : List (Nat × Nat × Nat × Nat)} (htab : c.exceptionTable.toList = tableOf hh) {E : String} {ce : Cell} {q : Addr} {pc2 : Nat} (pre : List ExceptionTableEntry) (x : ExceptionTableEntry) (suf : List ExceptionTableEntry) (hsplit : tableOf hh = pre ++ x :: suf)
    (hpass : ∀ z ∈ pre, z.catchType ≠ 0 ∧ ∃ nm : String, Cond.classLink own z.catchType nm ∈ Ts ∧ (E, nm) ∈ gN) (hx : covers x pc = true) (h0 : x.catchType ≠ 0) (hlink : Cond.classLink own x.catchType E ∈ Ts) (hY : (E, E) ∈ gY) (hpc : x.handlerPc = pc2) (hcell : H[q]? = some ce) (hv : ce.vm = .none) (hcl : s.vm.findClass E = some ce.cls)
    (kk : W p l e R s m args below meth c H locs cells slots Q (F0 m pc2 ls [.ref q])) : vx_W p l e R s m args below meth c H locs cells slots Q (F0 m pc ls rest) q := by
  subst hpc
  refine vx_catch X.2.2.2.1 pre x suf (htab.trans hsplit) (fun z hz => ?_) hx h0 (X.2.2.2.2.1 _ hlink) (va_Nw.use rfl (X.2.2.2.2.2.1.2.2.2.2.2.1 _ hY).nw) hcell hv hcl kk
  obtain ⟨h1, nm, h2, h3⟩ := hpass z hz
  exact Or.inr ⟨h1, nm, X.2.2.2.2.1 _ h2, X.2.2.2.2.2.1.2.2.2.2.2.2.1 _ h3⟩
end CXV
theorem j_ground (st : St) (hI : sInv st) (a : Int32) (b : Int32) (k : Int32) (hk : (k2 (cellP a b) (inI k 0 2)) = 0) : sInv (s_up st 1 (16 * nN b + nN a) (nN k)) := by have h := nN_in (k2_i hk).2 (by omega); exact sInv_ground hI (by omega)
theorem i_ground (st : St) (hI : sInv st) (a : Int32) (b : Int32) (k : Int32) : sInv (stp (k2 (cellP a b) (inI k 0 2)) (s_up st 1 (16 * nN b + nN a) (nN k)) st) := stp_i (j_ground st hI a b k) hI
theorem j_stone (st : St) (hI : sInv st) (a : Int32) (b : Int32) (z : Int32) (hk : (k3 (cellP a b) (inI z 1 6) (st 0 0 + 1 ≤ 200)) = 0) : sInv (fallSt st (nN a) (nN b) (nN z)) := by obtain ⟨h1, h2, h3⟩ := k3_i hk; have q1 := nN_in h1.1 (by omega); have q2 := nN_in h1.2 (by omega); have q3 := nN_in h2 (by omega); exact sInv_fall hI (by omega) (by omega) (by omega) (by omega) (by omega)
theorem i_stone (st : St) (hI : sInv st) (a : Int32) (b : Int32) (z : Int32) : sInv (stp (k3 (cellP a b) (inI z 1 6) (st 0 0 + 1 ≤ 200)) (fallSt st (nN a) (nN b) (nN z)) st) := stp_i (j_stone st hI a b z) hI
theorem j_draw (st : St) (hI : sInv st) (a : Int32) (hk : (k1 (inI a 1 65536)) = 0) : sInv (s_up st 0 4 (nN a)) := by have h := nN_in (k1_i hk) (by omega); exact sInv_draw hI (by omega)
theorem i_draw (st : St) (hI : sInv st) (a : Int32) : sInv (stp (k1 (inI a 1 65536)) (s_up st 0 4 (nN a)) st) := stp_i (j_draw st hI a) hI
theorem j_rain (st : St) (hI : sInv st) (n : Int32) (hk : (k2 (inI n 1 30) (st 0 0 + nN n ≤ 200)) = 0) : sInv (rainSt st (nN n)) := sInv_rain hI _ (k2_i hk).2
theorem i_rain (st : St) (hI : sInv st) (n : Int32) : sInv (stp (k2 (inI n 1 30) (st 0 0 + nN n ≤ 200)) (rainSt st (nN n)) st) := stp_i (j_rain st hI n) hI
theorem j_flood (st : St) (hI : sInv st) (a : Int32) (b : Int32) (p : Int32) (q : Int32) (v : Int32) (hk : (k3 (cellP a b ∧ cellP p q) (inI v 1 40 ∧ ordP a b p q) (st 0 1 < 100)) = 0) : sInv (lessSt st (floodφ (nN a) (nN b) (nN p) (nN q) (nN v))) := by obtain ⟨h1, h2, h3⟩ := k3_i hk; have q1 := nN_in h2.1 (by omega); exact sInv_less hI h3 (flood_le (by omega))
theorem i_flood (st : St) (hI : sInv st) (a : Int32) (b : Int32) (p : Int32) (q : Int32) (v : Int32) : sInv (stp (k3 (cellP a b ∧ cellP p q) (inI v 1 40 ∧ ordP a b p q) (st 0 1 < 100)) (lessSt st (floodφ (nN a) (nN b) (nN p) (nN q) (nN v))) st) := stp_i (j_flood st hI a b p q v) hI
theorem j_soften (st : St) (hI : sInv st) (v : Int32) (hk : (k2 (inI v 1 40) (st 0 1 < 100)) = 0) : sInv (lessSt st (softφ (st 1) (nN v))) := by obtain ⟨h1, h3⟩ := k2_i hk; have q1 := nN_in h1 (by omega); exact sInv_less hI h3 (soft_le (by omega))
theorem i_soften (st : St) (hI : sInv st) (v : Int32) : sInv (stp (k2 (inI v 1 40) (st 0 1 < 100)) (lessSt st (softφ (st 1) (nN v))) st) := stp_i (j_soften st hI v) hI
theorem j_eye (st : St) (hI : sInv st) (a : Int32) (hk : (k2 (inI a 1 9) (st 0 2 < 6)) = 0) : sInv (eyeSt st (nN a)) := by obtain ⟨h1, h3⟩ := k2_i hk; have q1 := nN_in h1 (by omega); exact sInv_eye hI h3 (by omega) (by omega)
theorem i_eye (st : St) (hI : sInv st) (a : Int32) : sInv (stp (k2 (inI a 1 9) (st 0 2 < 6)) (eyeSt st (nN a)) st) := stp_i (j_eye st hI a) hI
theorem j_anchor (st : St) (hI : sInv st) (u : Int64) (v : Int64) (hk : (k2 (rgL u 1 5000000000 ∧ rgL v 1 100000000) (canP st (nL u) (nL v))) = 0) : sInv (anchSt st (nL u) (nL v)) := by obtain ⟨h1, h3⟩ := k2_i hk; have q1 := nL_in h1.1 (by omega); have q2 := nL_in h1.2 (by omega); exact sInv_anch hI h3 (by omega) (by omega) (by omega) (by omega)
theorem i_anchor (st : St) (hI : sInv st) (u : Int64) (v : Int64) : sInv (stp (k2 (rgL u 1 5000000000 ∧ rgL v 1 100000000) (canP st (nL u) (nL v))) (anchSt st (nL u) (nL v)) st) := stp_i (j_anchor st hI u v) hI
theorem j_count (st : St) (hI : sInv st) (c : Int32) (a : Int32) (b : Int32) (p : Int32) (q : Int32) (k : Int32) (hk : (k2 (eyeP st c a b p q) (inI k 1 7 ∧ ordP a b p q)) = 0) : sInv st := hI
theorem i_count (st : St) (hI : sInv st) (c : Int32) (a : Int32) (b : Int32) (p : Int32) (q : Int32) (k : Int32) : sInv (stp (k2 (eyeP st c a b p q) (inI k 1 7 ∧ ordP a b p q)) st st) := stp_i (j_count st hI c a b p q k) hI
theorem j_age (st : St) (hI : sInv st) (c : Int32) (a : Int32) (b : Int32) (p : Int32) (q : Int32) (hk : (k3 (eyeP st c a b p q) (ordP a b p q) (lackN st (densN st (nN c) (nN a) (nN b) (nN p) (nN q)) = 0)) = 0) : sInv st := hI
theorem i_age (st : St) (hI : sInv st) (c : Int32) (a : Int32) (b : Int32) (p : Int32) (q : Int32) : sInv (stp (k3 (eyeP st c a b p q) (ordP a b p q) (lackN st (densN st (nN c) (nN a) (nN b) (nN p) (nN q)) = 0)) st st) := stp_i (j_age st hI c a b p q) hI
theorem j_whyNot (st : St) (hI : sInv st) (c : Int32) (a : Int32) (b : Int32) (p : Int32) (q : Int32) (hk : (k2 (eyeP st c a b p q) (ordP a b p q)) = 0) : sInv st := hI
theorem i_whyNot (st : St) (hI : sInv st) (c : Int32) (a : Int32) (b : Int32) (p : Int32) (q : Int32) : sInv (stp (k2 (eyeP st c a b p q) (ordP a b p q)) st st) := stp_i (j_whyNot st hI c a b p q) hI
theorem j_about (st : St) (hI : sInv st) (c : Int32) (v : Int32) (hk : (k2 (inI c 0 ((st 0 0 : Int) - 1)) (inI v 0 3)) = 0) : sInv st := hI
theorem i_about (st : St) (hI : sInv st) (c : Int32) (v : Int32) : sInv (stp (k2 (inI c 0 ((st 0 0 : Int) - 1)) (inI v 0 3)) st st) := stp_i (j_about st hI c v) hI
theorem j_depthAnew (st : St) (hI : sInv st) (c : Int32) (hk : (k1 (inI c 0 ((st 0 0 : Int) - 1))) = 0) : sInv st := hI
theorem i_depthAnew (st : St) (hI : sInv st) (c : Int32) : sInv (stp (k1 (inI c 0 ((st 0 0 : Int) - 1))) st st) := stp_i (j_depthAnew st hI c) hI
theorem j_top (st : St) (hI : sInv st) (a : Int32) (b : Int32) (hk : (k1 (cellP a b)) = 0) : sInv st := hI
theorem i_top (st : St) (hI : sInv st) (a : Int32) (b : Int32) : sInv (stp (k1 (cellP a b)) st st) := stp_i (j_top st hI a b) hI
theorem j_topAnew (st : St) (hI : sInv st) (a : Int32) (b : Int32) (hk : (k1 (cellP a b)) = 0) : sInv st := hI
theorem i_topAnew (st : St) (hI : sInv st) (a : Int32) (b : Int32) : sInv (stp (k1 (cellP a b)) st st) := stp_i (j_topAnew st hI a b) hI
set_option maxRecDepth 100000 in
set_option maxHeartbeats 4000000 in
/-- calls ground -/
theorem h_ground (l : Launch) (hst : l.stackTraces = false) (G : cx_G) (f : Wd) (st : St) (x : Nat) (hI : sInv st) (hR0 : RX G f st x) (a : Int32) (b : Int32) (k : Int32) (ou : Nat) (wo : Nat → Int64) (ho : f ou = some (2000, eJ G 1 wo)) : XI l G yL_ground wsL_ground 8 139 2 12 [.ref x, .int a, .int b, .int k, .ref ou] f (fun r f' => r = nI (k2 (cellP a b) (inI k 0 2)) ∧ RX G f' (stp (k2 (cellP a b) (inI k 0 2)) (s_up st 1 (16 * nN b + nN a) (nN k)) st) x ∧ (∃ wo2 : Nat → Int64, f' ou = some (2000, eJ G 1 wo2) ∧ ((k2 (cellP a b) (inI k 0 2)) = 0 → wo2 0 = (nI (st 1 (16 * nN b + nN a))).toInt64)) ∧ md (fun t => tX t ∨ t = 2000) f f') (fun _ => False) := by
  refine vxh_body (cc := cL_ground) (n := 6) (ret := (some .int)) (by decide +kernel) rfl (Nat.le_of_ble_eq_true rfl) ?_
  intro p0 e0 s0 m0 b0 meth0 c0 ls X hr hnm hout S hl
  have X : cxC G p0 l _ c0 cL_ground 6 m0 meth0 s0 _ RL wsL_ground := X
  have hl : lv_has ls 6 [(0, .ref x), (1, .int a), (2, .int b), (3, .int k), (4, .ref ou)] := hl
  obtain ⟨gr9, rw9, L91, L92, L93, cu9, L94, g91, g92, g93, g94, w9, hR9⟩ := id hR0
  have hx := hR9.1
  refine lv_aload X.1 X.2.1 dL_ground_0 (lv_at hl 4 rfl) ?_
  refine lv_iconst (v := 0) X.1 X.2.1 dL_ground_2 (by decide) ?_
  refine lv_aload_n X.1 X.2.1 dL_ground_3 rfl (lv_at hl 0 rfl) ?_
  refine lv_iload_n X.1 X.2.1 dL_ground_4 rfl (lv_at hl 1 rfl) ?_
  refine lv_iload_n X.1 X.2.1 dL_ground_5 rfl (lv_at hl 2 rfl) ?_
  refine lv_iload_n X.1 X.2.1 dL_ground_6 rfl (lv_at hl 3 rfl) ?_
  refine xcall_it (xrun_V X S (c_ground l hst G f st x hI hR0 a b k) 3 gL_ground_X9_ground rfl rfl rfl (by decide +kernel) ⟨(by exact Nat.le_of_ble_eq_true rfl), (by exact Nat.le_of_ble_eq_true rfl)⟩ ⟨_, _, hx⟩ rfl rfl rfl hl.1 rfl (by exact Nat.le_of_ble_eq_true rfl) dL_ground_7 ⟨(by exact Nat.le_of_ble_eq_true rfl), (by exact Nat.le_of_ble_eq_true rfl)⟩) S (fun E H locs qx ce hE S hce hcv hcl => ?_) (fun r_7 f_7 H locs hr_7 S => ?_)
  · obtain ⟨i, hi, hkc⟩ := hE
    rcases i with _ | _ | i
    · obtain rfl := Option.some.inj (show some "java/lang/IndexOutOfBoundsException" = some E from hi)
      have hkc : (k2 (cellP a b) (inI k 0 2)) = 1 := hkc
      refine r_catch X hout [] ⟨0, 12, 15, 13⟩ [⟨0, 12, 19, 15⟩] rfl (fun z hz => nomatch hz) rfl (by decide) (by decide +kernel) (by decide +kernel) (pc2 := 15) rfl hce hcv hcl ?_
      refine lv_astore (lv' := [(5, .ref qx), (0, .ref x), (1, .int a), (2, .int b), (3, .int k), (4, .ref ou)]) X.1 X.2.1 dL_ground_15 hl (by decide) rfl (fun ls hl => ?_)
      refine lv_iconst (v := 1) X.1 X.2.1 dL_ground_17 (by decide) ?_
      refine vx_ret (e_i X hr S (Nat.le_of_ble_eq_true rfl) (Nat.le_of_ble_eq_true rfl) dL_ground_18 ?_)
      rw [hkc]
      exact ⟨rfl, hR0, ⟨wo, ho, fun z => absurd z (by decide)⟩, md_rf _ _⟩
    · obtain rfl := Option.some.inj (show some "java/lang/IllegalArgumentException" = some E from hi)
      have hkc : (k2 (cellP a b) (inI k 0 2)) = 2 := hkc
      refine r_catch X hout [⟨0, 12, 15, 13⟩] ⟨0, 12, 19, 15⟩ [] rfl (fun z hz => by rcases List.mem_cons.mp hz with rfl | hz; exact ⟨by decide, "java/lang/IndexOutOfBoundsException", by decide +kernel, by decide +kernel⟩; exact nomatch hz) rfl (by decide) (by decide +kernel) (by decide +kernel) (pc2 := 19) rfl hce hcv hcl ?_
      refine lv_astore (lv' := [(5, .ref qx), (0, .ref x), (1, .int a), (2, .int b), (3, .int k), (4, .ref ou)]) X.1 X.2.1 dL_ground_19 hl (by decide) rfl (fun ls hl => ?_)
      refine lv_iconst (v := 2) X.1 X.2.1 dL_ground_21 (by decide) ?_
      refine vx_ret (e_i X hr S (Nat.le_of_ble_eq_true rfl) (Nat.le_of_ble_eq_true rfl) dL_ground_22 ?_)
      rw [hkc]
      exact ⟨rfl, hR0, ⟨wo, ho, fun z => absurd z (by decide)⟩, md_rf _ _⟩
    · exact nomatch (show (none : Option String) = some E from hi)
  · obtain ⟨hk, hrr, hRR, hmm⟩ := hr_7
    have ho_7 := hmm _ _ _ ho (by unfold tX; omega)
    refine lv_i2l (v := r_7.toInt64) X.1 X.2.1 dL_ground_10 rfl ?_
    refine r_last X S ho_7 (by decide) (pk_in 0 1 (by omega)) dL_ground_11 (fun H locs S => ?_)
    rw [(show (0 : Int32).toNatClampNeg = 0 from rfl)] at S
    obtain ⟨f_11, ef_11⟩ : ∃ z9 : Wd, z9 = wu f_7 ou 2000 (eJ G 1 (vp_updL wo 0 r_7.toInt64)) := ⟨_, rfl⟩
    rw [← ef_11] at S
    have ho_11 : f_11 ou = some (2000, eJ G 1 (vp_updL wo 0 r_7.toInt64)) := by rw [ef_11]; exact wu_self _ _ _ _
    refine lv_goto (tgt := 23) X.1 X.2.1 dL_ground_12 (by decide) ?_
    refine lv_iconst (v := 0) X.1 X.2.1 dL_ground_23 (by decide) ?_
    refine vx_ret (e_i X hr S (Nat.le_of_ble_eq_true rfl) (Nat.le_of_ble_eq_true rfl) dL_ground_24 ?_)
    have hI1 := sInv_le (j_ground st hI a b k hk)
    rw [hk]
    exact ⟨rfl, hRR.kept (by rw [ef_11]; exact md_mono (md_put ho_7) (fun t q => by unfold tX; omega)) hI1, ⟨_, ho_11, fun _ => by rw [pk_uLs]; rw [hrr]⟩, md_tr hmm (by rw [ef_11]; exact md_put ho_7) (fun t q => Or.inl q) (fun t q => Or.inr q)⟩

set_option maxRecDepth 100000 in
set_option maxHeartbeats 4000000 in
/-- calls stone -/
theorem h_stone (l : Launch) (hst : l.stackTraces = false) (G : cx_G) (f : Wd) (st : St) (x : Nat) (hI : sInv st) (hR0 : RX G f st x) (a : Int32) (b : Int32) (z : Int32) (ou : Nat) (wo : Nat → Int64) (ho : f ou = some (2000, eJ G 1 wo)) : XI l G yL_stone wsL_stone 9 241 5 324 [.ref x, .int a, .int b, .int z, .ref ou] f (fun r f' => r = nI (k3 (cellP a b) (inI z 1 6) (st 0 0 + 1 ≤ 200)) ∧ RX G f' (stp (k3 (cellP a b) (inI z 1 6) (st 0 0 + 1 ≤ 200)) (fallSt st (nN a) (nN b) (nN z)) st) x ∧ (∃ wo2 : Nat → Int64, f' ou = some (2000, eJ G 1 wo2) ∧ ((k3 (cellP a b) (inI z 1 6) (st 0 0 + 1 ≤ 200)) = 0 → wo2 0 = (nI (cn (goneB st (nN a) (nN b) (nN z)) (st 0 0))).toInt64)) ∧ md (fun t => tX t ∨ t = 2000) f f') (fun _ => False) := by
  refine vxh_body (cc := cL_stone) (n := 6) (ret := (some .int)) (by decide +kernel) rfl (Nat.le_of_ble_eq_true rfl) ?_
  intro p0 e0 s0 m0 b0 meth0 c0 ls X hr hnm hout S hl
  have X : cxC G p0 l _ c0 cL_stone 6 m0 meth0 s0 _ RL wsL_stone := X
  have hl : lv_has ls 6 [(0, .ref x), (1, .int a), (2, .int b), (3, .int z), (4, .ref ou)] := hl
  obtain ⟨gr9, rw9, L91, L92, L93, cu9, L94, g91, g92, g93, g94, w9, hR9⟩ := id hR0
  have hx := hR9.1
  refine lv_aload X.1 X.2.1 dL_stone_0 (lv_at hl 4 rfl) ?_
  refine lv_iconst (v := 0) X.1 X.2.1 dL_stone_2 (by decide) ?_
  refine lv_aload_n X.1 X.2.1 dL_stone_3 rfl (lv_at hl 0 rfl) ?_
  refine lv_iload_n X.1 X.2.1 dL_stone_4 rfl (lv_at hl 1 rfl) ?_
  refine lv_iload_n X.1 X.2.1 dL_stone_5 rfl (lv_at hl 2 rfl) ?_
  refine lv_iload_n X.1 X.2.1 dL_stone_6 rfl (lv_at hl 3 rfl) ?_
  refine xcall_it (xrun_V X S (c_stone l hst G f st x hI hR0 a b z) 3 gL_stone_X9_stone rfl rfl rfl (by decide +kernel) ⟨(by exact Nat.le_of_ble_eq_true rfl), (by exact Nat.le_of_ble_eq_true rfl)⟩ ⟨_, _, hx⟩ rfl rfl rfl hl.1 rfl (by exact Nat.le_of_ble_eq_true rfl) dL_stone_7 ⟨(by exact Nat.le_of_ble_eq_true rfl), (by exact Nat.le_of_ble_eq_true rfl)⟩) S (fun E H locs qx ce hE S hce hcv hcl => ?_) (fun r_7 f_7 H locs hr_7 S => ?_)
  · obtain ⟨i, hi, hkc⟩ := hE
    rcases i with _ | _ | _ | i
    · obtain rfl := Option.some.inj (show some "java/lang/IndexOutOfBoundsException" = some E from hi)
      have hkc : (k3 (cellP a b) (inI z 1 6) (st 0 0 + 1 ≤ 200)) = 1 := hkc
      refine r_catch X hout [] ⟨0, 12, 15, 13⟩ [⟨0, 12, 19, 15⟩, ⟨0, 12, 23, 20⟩] rfl (fun z hz => nomatch hz) rfl (by decide) (by decide +kernel) (by decide +kernel) (pc2 := 15) rfl hce hcv hcl ?_
      refine lv_astore (lv' := [(5, .ref qx), (0, .ref x), (1, .int a), (2, .int b), (3, .int z), (4, .ref ou)]) X.1 X.2.1 dL_stone_15 hl (by decide) rfl (fun ls hl => ?_)
      refine lv_iconst (v := 1) X.1 X.2.1 dL_stone_17 (by decide) ?_
      refine vx_ret (e_i X hr S (Nat.le_of_ble_eq_true rfl) (Nat.le_of_ble_eq_true rfl) dL_stone_18 ?_)
      rw [hkc]
      exact ⟨rfl, hR0, ⟨wo, ho, fun z => absurd z (by decide)⟩, md_rf _ _⟩
    · obtain rfl := Option.some.inj (show some "java/lang/IllegalArgumentException" = some E from hi)
      have hkc : (k3 (cellP a b) (inI z 1 6) (st 0 0 + 1 ≤ 200)) = 2 := hkc
      refine r_catch X hout [⟨0, 12, 15, 13⟩] ⟨0, 12, 19, 15⟩ [⟨0, 12, 23, 20⟩] rfl (fun z hz => by rcases List.mem_cons.mp hz with rfl | hz; exact ⟨by decide, "java/lang/IndexOutOfBoundsException", by decide +kernel, by decide +kernel⟩; exact nomatch hz) rfl (by decide) (by decide +kernel) (by decide +kernel) (pc2 := 19) rfl hce hcv hcl ?_
      refine lv_astore (lv' := [(5, .ref qx), (0, .ref x), (1, .int a), (2, .int b), (3, .int z), (4, .ref ou)]) X.1 X.2.1 dL_stone_19 hl (by decide) rfl (fun ls hl => ?_)
      refine lv_iconst (v := 2) X.1 X.2.1 dL_stone_21 (by decide) ?_
      refine vx_ret (e_i X hr S (Nat.le_of_ble_eq_true rfl) (Nat.le_of_ble_eq_true rfl) dL_stone_22 ?_)
      rw [hkc]
      exact ⟨rfl, hR0, ⟨wo, ho, fun z => absurd z (by decide)⟩, md_rf _ _⟩
    · obtain rfl := Option.some.inj (show some "java/lang/IllegalStateException" = some E from hi)
      have hkc : (k3 (cellP a b) (inI z 1 6) (st 0 0 + 1 ≤ 200)) = 3 := hkc
      refine r_catch X hout [⟨0, 12, 15, 13⟩, ⟨0, 12, 19, 15⟩] ⟨0, 12, 23, 20⟩ [] rfl (fun z hz => by rcases List.mem_cons.mp hz with rfl | hz; exact ⟨by decide, "java/lang/IndexOutOfBoundsException", by decide +kernel, by decide +kernel⟩; rcases List.mem_cons.mp hz with rfl | hz; exact ⟨by decide, "java/lang/IllegalArgumentException", by decide +kernel, by decide +kernel⟩; exact nomatch hz) rfl (by decide) (by decide +kernel) (by decide +kernel) (pc2 := 23) rfl hce hcv hcl ?_
      refine lv_astore (lv' := [(5, .ref qx), (0, .ref x), (1, .int a), (2, .int b), (3, .int z), (4, .ref ou)]) X.1 X.2.1 dL_stone_23 hl (by decide) rfl (fun ls hl => ?_)
      refine lv_iconst (v := 3) X.1 X.2.1 dL_stone_25 (by decide) ?_
      refine vx_ret (e_i X hr S (Nat.le_of_ble_eq_true rfl) (Nat.le_of_ble_eq_true rfl) dL_stone_26 ?_)
      rw [hkc]
      exact ⟨rfl, hR0, ⟨wo, ho, fun z => absurd z (by decide)⟩, md_rf _ _⟩
    · exact nomatch (show (none : Option String) = some E from hi)
  · obtain ⟨hk, hrr, hRR, hmm⟩ := hr_7
    have ho_7 := hmm _ _ _ ho (by unfold tX; omega)
    refine lv_i2l (v := r_7.toInt64) X.1 X.2.1 dL_stone_10 rfl ?_
    refine r_last X S ho_7 (by decide) (pk_in 0 1 (by omega)) dL_stone_11 (fun H locs S => ?_)
    rw [(show (0 : Int32).toNatClampNeg = 0 from rfl)] at S
    obtain ⟨f_11, ef_11⟩ : ∃ z9 : Wd, z9 = wu f_7 ou 2000 (eJ G 1 (vp_updL wo 0 r_7.toInt64)) := ⟨_, rfl⟩
    rw [← ef_11] at S
    have ho_11 : f_11 ou = some (2000, eJ G 1 (vp_updL wo 0 r_7.toInt64)) := by rw [ef_11]; exact wu_self _ _ _ _
    refine lv_goto (tgt := 27) X.1 X.2.1 dL_stone_12 (by decide) ?_
    refine lv_iconst (v := 0) X.1 X.2.1 dL_stone_27 (by decide) ?_
    refine vx_ret (e_i X hr S (Nat.le_of_ble_eq_true rfl) (Nat.le_of_ble_eq_true rfl) dL_stone_28 ?_)
    have hI1 := sInv_le (j_stone st hI a b z hk)
    rw [hk]
    exact ⟨rfl, hRR.kept (by rw [ef_11]; exact md_mono (md_put ho_7) (fun t q => by unfold tX; omega)) hI1, ⟨_, ho_11, fun _ => by rw [pk_uLs]; rw [hrr]⟩, md_tr hmm (by rw [ef_11]; exact md_put ho_7) (fun t q => Or.inl q) (fun t q => Or.inr q)⟩

set_option maxRecDepth 100000 in
set_option maxHeartbeats 4000000 in
/-- calls draw -/
theorem h_draw (l : Launch) (hst : l.stackTraces = false) (G : cx_G) (f : Wd) (st : St) (x : Nat) (hI : sInv st) (hR0 : RX G f st x) (a : Int32) (ou : Nat) (wo : Nat → Int64) (ho : f ou = some (2000, eJ G 1 wo)) : XI l G yL_draw wsL_draw 8 137 1 6 [.ref x, .int a, .ref ou] f (fun r f' => r = nI (k1 (inI a 1 65536)) ∧ RX G f' (stp (k1 (inI a 1 65536)) (s_up st 0 4 (nN a)) st) x ∧ (∃ wo2 : Nat → Int64, f' ou = some (2000, eJ G 1 wo2) ∧ ((k1 (inI a 1 65536)) = 0 → wo2 0 = (nI (st 0 4)).toInt64)) ∧ md (fun t => tX t ∨ t = 2000) f f') (fun _ => False) := by
  refine vxh_body (cc := cL_draw) (n := 4) (ret := (some .int)) (by decide +kernel) rfl (Nat.le_of_ble_eq_true rfl) ?_
  intro p0 e0 s0 m0 b0 meth0 c0 ls X hr hnm hout S hl
  have X : cxC G p0 l _ c0 cL_draw 4 m0 meth0 s0 _ RL wsL_draw := X
  have hl : lv_has ls 4 [(0, .ref x), (1, .int a), (2, .ref ou)] := hl
  obtain ⟨gr9, rw9, L91, L92, L93, cu9, L94, g91, g92, g93, g94, w9, hR9⟩ := id hR0
  have hx := hR9.1
  refine lv_aload_n X.1 X.2.1 dL_draw_0 rfl (lv_at hl 2 rfl) ?_
  refine lv_iconst (v := 0) X.1 X.2.1 dL_draw_1 (by decide) ?_
  refine lv_aload_n X.1 X.2.1 dL_draw_2 rfl (lv_at hl 0 rfl) ?_
  refine lv_iload_n X.1 X.2.1 dL_draw_3 rfl (lv_at hl 1 rfl) ?_
  refine xcall_it (xrun_V X S (c_draw l hst G f st x hI hR0 a) 1 gL_draw_X9_draw rfl rfl rfl (by decide +kernel) ⟨(by exact Nat.le_of_ble_eq_true rfl), (by exact Nat.le_of_ble_eq_true rfl)⟩ ⟨_, _, hx⟩ rfl rfl rfl hl.1 rfl (by exact Nat.le_of_ble_eq_true rfl) dL_draw_4 ⟨(by exact Nat.le_of_ble_eq_true rfl), (by exact Nat.le_of_ble_eq_true rfl)⟩) S (fun E H locs qx ce hE S hce hcv hcl => ?_) (fun r_4 f_4 H locs hr_4 S => ?_)
  · obtain ⟨i, hi, hkc⟩ := hE
    rcases i with _ | i
    · obtain rfl := Option.some.inj (show some "java/lang/IllegalArgumentException" = some E from hi)
      have hkc : (k1 (inI a 1 65536)) = 1 := hkc
      refine r_catch X hout [] ⟨0, 9, 12, 15⟩ [] rfl (fun z hz => nomatch hz) rfl (by decide) (by decide +kernel) (by decide +kernel) (pc2 := 12) rfl hce hcv hcl ?_
      refine lv_astore_n (lv' := [(3, .ref qx), (0, .ref x), (1, .int a), (2, .ref ou)]) X.1 X.2.1 dL_draw_12 rfl hl (by decide) rfl (fun ls hl => ?_)
      refine lv_iconst (v := 1) X.1 X.2.1 dL_draw_13 (by decide) ?_
      refine vx_ret (e_i X hr S (Nat.le_of_ble_eq_true rfl) (Nat.le_of_ble_eq_true rfl) dL_draw_14 ?_)
      rw [hkc]
      exact ⟨rfl, hR0, ⟨wo, ho, fun z => absurd z (by decide)⟩, md_rf _ _⟩
    · exact nomatch (show (none : Option String) = some E from hi)
  · obtain ⟨hk, hrr, hRR, hmm⟩ := hr_4
    have ho_4 := hmm _ _ _ ho (by unfold tX; omega)
    refine lv_i2l (v := r_4.toInt64) X.1 X.2.1 dL_draw_7 rfl ?_
    refine r_last X S ho_4 (by decide) (pk_in 0 1 (by omega)) dL_draw_8 (fun H locs S => ?_)
    rw [(show (0 : Int32).toNatClampNeg = 0 from rfl)] at S
    obtain ⟨f_8, ef_8⟩ : ∃ z9 : Wd, z9 = wu f_4 ou 2000 (eJ G 1 (vp_updL wo 0 r_4.toInt64)) := ⟨_, rfl⟩
    rw [← ef_8] at S
    have ho_8 : f_8 ou = some (2000, eJ G 1 (vp_updL wo 0 r_4.toInt64)) := by rw [ef_8]; exact wu_self _ _ _ _
    refine lv_goto (tgt := 15) X.1 X.2.1 dL_draw_9 (by decide) ?_
    refine lv_iconst (v := 0) X.1 X.2.1 dL_draw_15 (by decide) ?_
    refine vx_ret (e_i X hr S (Nat.le_of_ble_eq_true rfl) (Nat.le_of_ble_eq_true rfl) dL_draw_16 ?_)
    have hI1 := sInv_le (j_draw st hI a hk)
    rw [hk]
    exact ⟨rfl, hRR.kept (by rw [ef_8]; exact md_mono (md_put ho_4) (fun t q => by unfold tX; omega)) hI1, ⟨_, ho_8, fun _ => by rw [pk_uLs]; rw [hrr]⟩, md_tr hmm (by rw [ef_8]; exact md_put ho_4) (fun t q => Or.inl q) (fun t q => Or.inr q)⟩

set_option maxRecDepth 100000 in
set_option maxHeartbeats 4000000 in
/-- calls rain -/
theorem h_rain (l : Launch) (hst : l.stackTraces = false) (G : cx_G) (f : Wd) (st : St) (x : Nat) (hI : sInv st) (hR0 : RX G f st x) (n : Int32) (ou : Nat) (wo : Nat → Int64) (ho : f ou = some (2000, eJ G 1 wo)) : XI l G yL_rain wsL_rain 9 243 62 9192 [.ref x, .int n, .ref ou] f (fun r f' => r = nI (k2 (inI n 1 30) (st 0 0 + nN n ≤ 200)) ∧ RX G f' (stp (k2 (inI n 1 30) (st 0 0 + nN n ≤ 200)) (rainSt st (nN n)) st) x ∧ (∃ wo2 : Nat → Int64, f' ou = some (2000, eJ G 1 wo2) ∧ ((k2 (inI n 1 30) (st 0 0 + nN n ≤ 200)) = 0 → wo2 0 = (nI (cn (liveP (rainSt st (nN n))) (rainSt st (nN n) 0 0))).toInt64)) ∧ md (fun t => tX t ∨ t = 2000) f f') (fun _ => False) := by
  refine vxh_body (cc := cL_rain) (n := 4) (ret := (some .int)) (by decide +kernel) rfl (Nat.le_of_ble_eq_true rfl) ?_
  intro p0 e0 s0 m0 b0 meth0 c0 ls X hr hnm hout S hl
  have X : cxC G p0 l _ c0 cL_rain 4 m0 meth0 s0 _ RL wsL_rain := X
  have hl : lv_has ls 4 [(0, .ref x), (1, .int n), (2, .ref ou)] := hl
  obtain ⟨gr9, rw9, L91, L92, L93, cu9, L94, g91, g92, g93, g94, w9, hR9⟩ := id hR0
  have hx := hR9.1
  refine lv_aload_n X.1 X.2.1 dL_rain_0 rfl (lv_at hl 2 rfl) ?_
  refine lv_iconst (v := 0) X.1 X.2.1 dL_rain_1 (by decide) ?_
  refine lv_aload_n X.1 X.2.1 dL_rain_2 rfl (lv_at hl 0 rfl) ?_
  refine lv_iload_n X.1 X.2.1 dL_rain_3 rfl (lv_at hl 1 rfl) ?_
  refine xcall_it (xrun_V X S (c_rain l hst G f st x hI hR0 n) 1 gL_rain_X9_rain rfl rfl rfl (by decide +kernel) ⟨(by exact Nat.le_of_ble_eq_true rfl), (by exact Nat.le_of_ble_eq_true rfl)⟩ ⟨_, _, hx⟩ rfl rfl rfl hl.1 rfl (by exact Nat.le_of_ble_eq_true rfl) dL_rain_4 ⟨(by exact Nat.le_of_ble_eq_true rfl), (by exact Nat.le_of_ble_eq_true rfl)⟩) S (fun E H locs qx ce hE S hce hcv hcl => ?_) (fun r_4 f_4 H locs hr_4 S => ?_)
  · obtain ⟨i, hi, hkc⟩ := hE
    rcases i with _ | _ | i
    · obtain rfl := Option.some.inj (show some "java/lang/IllegalArgumentException" = some E from hi)
      have hkc : (k2 (inI n 1 30) (st 0 0 + nN n ≤ 200)) = 1 := hkc
      refine r_catch X hout [] ⟨0, 9, 12, 15⟩ [⟨0, 9, 15, 20⟩] rfl (fun z hz => nomatch hz) rfl (by decide) (by decide +kernel) (by decide +kernel) (pc2 := 12) rfl hce hcv hcl ?_
      refine lv_astore_n (lv' := [(3, .ref qx), (0, .ref x), (1, .int n), (2, .ref ou)]) X.1 X.2.1 dL_rain_12 rfl hl (by decide) rfl (fun ls hl => ?_)
      refine lv_iconst (v := 1) X.1 X.2.1 dL_rain_13 (by decide) ?_
      refine vx_ret (e_i X hr S (Nat.le_of_ble_eq_true rfl) (Nat.le_of_ble_eq_true rfl) dL_rain_14 ?_)
      rw [hkc]
      exact ⟨rfl, hR0, ⟨wo, ho, fun z => absurd z (by decide)⟩, md_rf _ _⟩
    · obtain rfl := Option.some.inj (show some "java/lang/IllegalStateException" = some E from hi)
      have hkc : (k2 (inI n 1 30) (st 0 0 + nN n ≤ 200)) = 2 := hkc
      refine r_catch X hout [⟨0, 9, 12, 15⟩] ⟨0, 9, 15, 20⟩ [] rfl (fun z hz => by rcases List.mem_cons.mp hz with rfl | hz; exact ⟨by decide, "java/lang/IllegalArgumentException", by decide +kernel, by decide +kernel⟩; exact nomatch hz) rfl (by decide) (by decide +kernel) (by decide +kernel) (pc2 := 15) rfl hce hcv hcl ?_
      refine lv_astore_n (lv' := [(3, .ref qx), (0, .ref x), (1, .int n), (2, .ref ou)]) X.1 X.2.1 dL_rain_15 rfl hl (by decide) rfl (fun ls hl => ?_)
      refine lv_iconst (v := 2) X.1 X.2.1 dL_rain_16 (by decide) ?_
      refine vx_ret (e_i X hr S (Nat.le_of_ble_eq_true rfl) (Nat.le_of_ble_eq_true rfl) dL_rain_17 ?_)
      rw [hkc]
      exact ⟨rfl, hR0, ⟨wo, ho, fun z => absurd z (by decide)⟩, md_rf _ _⟩
    · exact nomatch (show (none : Option String) = some E from hi)
  · obtain ⟨hk, hrr, hRR, hmm⟩ := hr_4
    have ho_4 := hmm _ _ _ ho (by unfold tX; omega)
    refine lv_i2l (v := r_4.toInt64) X.1 X.2.1 dL_rain_7 rfl ?_
    refine r_last X S ho_4 (by decide) (pk_in 0 1 (by omega)) dL_rain_8 (fun H locs S => ?_)
    rw [(show (0 : Int32).toNatClampNeg = 0 from rfl)] at S
    obtain ⟨f_8, ef_8⟩ : ∃ z9 : Wd, z9 = wu f_4 ou 2000 (eJ G 1 (vp_updL wo 0 r_4.toInt64)) := ⟨_, rfl⟩
    rw [← ef_8] at S
    have ho_8 : f_8 ou = some (2000, eJ G 1 (vp_updL wo 0 r_4.toInt64)) := by rw [ef_8]; exact wu_self _ _ _ _
    refine lv_goto (tgt := 18) X.1 X.2.1 dL_rain_9 (by decide) ?_
    refine lv_iconst (v := 0) X.1 X.2.1 dL_rain_18 (by decide) ?_
    refine vx_ret (e_i X hr S (Nat.le_of_ble_eq_true rfl) (Nat.le_of_ble_eq_true rfl) dL_rain_19 ?_)
    have hI1 := sInv_le (j_rain st hI n hk)
    rw [hk]
    exact ⟨rfl, hRR.kept (by rw [ef_8]; exact md_mono (md_put ho_4) (fun t q => by unfold tX; omega)) hI1, ⟨_, ho_8, fun _ => by rw [pk_uLs]; rw [hrr]⟩, md_tr hmm (by rw [ef_8]; exact md_put ho_4) (fun t q => Or.inl q) (fun t q => Or.inr q)⟩

set_option maxRecDepth 100000 in
set_option maxHeartbeats 4000000 in
/-- calls flood -/
theorem h_flood (l : Launch) (hst : l.stackTraces = false) (G : cx_G) (f : Wd) (st : St) (x : Nat) (hI : sInv st) (hR0 : RX G f st x) (a : Int32) (b : Int32) (p : Int32) (q : Int32) (v : Int32) (ou : Nat) (wo : Nat → Int64) (ho : f ou = some (2000, eJ G 1 wo)) : XI l G yL_flood wsL_flood 9 240 8 337 [.ref x, .int a, .int b, .int p, .int q, .int v, .ref ou] f (fun r f' => r = nI (k3 (cellP a b ∧ cellP p q) (inI v 1 40 ∧ ordP a b p q) (st 0 1 < 100)) ∧ RX G f' (stp (k3 (cellP a b ∧ cellP p q) (inI v 1 40 ∧ ordP a b p q) (st 0 1 < 100)) (lessSt st (floodφ (nN a) (nN b) (nN p) (nN q) (nN v))) st) x ∧ (∃ wo2 : Nat → Int64, f' ou = some (2000, eJ G 1 wo2) ∧ ((k3 (cellP a b ∧ cellP p q) (inI v 1 40 ∧ ordP a b p q) (st 0 1 < 100)) = 0 → wo2 0 = (nI (cn (goneL st (floodφ (nN a) (nN b) (nN p) (nN q) (nN v))) (st 0 0))).toInt64)) ∧ md (fun t => tX t ∨ t = 2000) f f') (fun _ => False) := by
  refine vxh_body (cc := cL_flood) (n := 8) (ret := (some .int)) (by decide +kernel) rfl (Nat.le_of_ble_eq_true rfl) ?_
  intro p0 e0 s0 m0 b0 meth0 c0 ls X hr hnm hout S hl
  have X : cxC G p0 l _ c0 cL_flood 8 m0 meth0 s0 _ RL wsL_flood := X
  have hl : lv_has ls 8 [(0, .ref x), (1, .int a), (2, .int b), (3, .int p), (4, .int q), (5, .int v), (6, .ref ou)] := hl
  obtain ⟨gr9, rw9, L91, L92, L93, cu9, L94, g91, g92, g93, g94, w9, hR9⟩ := id hR0
  have hx := hR9.1
  refine lv_aload X.1 X.2.1 dL_flood_0 (lv_at hl 6 rfl) ?_
  refine lv_iconst (v := 0) X.1 X.2.1 dL_flood_2 (by decide) ?_
  refine lv_aload_n X.1 X.2.1 dL_flood_3 rfl (lv_at hl 0 rfl) ?_
  refine lv_iload_n X.1 X.2.1 dL_flood_4 rfl (lv_at hl 1 rfl) ?_
  refine lv_iload_n X.1 X.2.1 dL_flood_5 rfl (lv_at hl 2 rfl) ?_
  refine lv_iload_n X.1 X.2.1 dL_flood_6 rfl (lv_at hl 3 rfl) ?_
  refine lv_iload X.1 X.2.1 dL_flood_7 (lv_at hl 4 rfl) ?_
  refine lv_iload X.1 X.2.1 dL_flood_9 (lv_at hl 5 rfl) ?_
  refine xcall_it (xrun_V X S (c_flood l hst G f st x hI hR0 a b p q v) 5 gL_flood_X9_flood rfl rfl rfl (by decide +kernel) ⟨(by exact Nat.le_of_ble_eq_true rfl), (by exact Nat.le_of_ble_eq_true rfl)⟩ ⟨_, _, hx⟩ rfl rfl rfl hl.1 rfl (by exact Nat.le_of_ble_eq_true rfl) dL_flood_11 ⟨(by exact Nat.le_of_ble_eq_true rfl), (by exact Nat.le_of_ble_eq_true rfl)⟩) S (fun E H locs qx ce hE S hce hcv hcl => ?_) (fun r_11 f_11 H locs hr_11 S => ?_)
  · obtain ⟨i, hi, hkc⟩ := hE
    rcases i with _ | _ | _ | i
    · obtain rfl := Option.some.inj (show some "java/lang/IndexOutOfBoundsException" = some E from hi)
      have hkc : (k3 (cellP a b ∧ cellP p q) (inI v 1 40 ∧ ordP a b p q) (st 0 1 < 100)) = 1 := hkc
      refine r_catch X hout [] ⟨0, 16, 19, 13⟩ [⟨0, 16, 23, 15⟩, ⟨0, 16, 27, 20⟩] rfl (fun z hz => nomatch hz) rfl (by decide) (by decide +kernel) (by decide +kernel) (pc2 := 19) rfl hce hcv hcl ?_
      refine lv_astore (lv' := [(7, .ref qx), (0, .ref x), (1, .int a), (2, .int b), (3, .int p), (4, .int q), (5, .int v), (6, .ref ou)]) X.1 X.2.1 dL_flood_19 hl (by decide) rfl (fun ls hl => ?_)
      refine lv_iconst (v := 1) X.1 X.2.1 dL_flood_21 (by decide) ?_
      refine vx_ret (e_i X hr S (Nat.le_of_ble_eq_true rfl) (Nat.le_of_ble_eq_true rfl) dL_flood_22 ?_)
      rw [hkc]
      exact ⟨rfl, hR0, ⟨wo, ho, fun z => absurd z (by decide)⟩, md_rf _ _⟩
    · obtain rfl := Option.some.inj (show some "java/lang/IllegalArgumentException" = some E from hi)
      have hkc : (k3 (cellP a b ∧ cellP p q) (inI v 1 40 ∧ ordP a b p q) (st 0 1 < 100)) = 2 := hkc
      refine r_catch X hout [⟨0, 16, 19, 13⟩] ⟨0, 16, 23, 15⟩ [⟨0, 16, 27, 20⟩] rfl (fun z hz => by rcases List.mem_cons.mp hz with rfl | hz; exact ⟨by decide, "java/lang/IndexOutOfBoundsException", by decide +kernel, by decide +kernel⟩; exact nomatch hz) rfl (by decide) (by decide +kernel) (by decide +kernel) (pc2 := 23) rfl hce hcv hcl ?_
      refine lv_astore (lv' := [(7, .ref qx), (0, .ref x), (1, .int a), (2, .int b), (3, .int p), (4, .int q), (5, .int v), (6, .ref ou)]) X.1 X.2.1 dL_flood_23 hl (by decide) rfl (fun ls hl => ?_)
      refine lv_iconst (v := 2) X.1 X.2.1 dL_flood_25 (by decide) ?_
      refine vx_ret (e_i X hr S (Nat.le_of_ble_eq_true rfl) (Nat.le_of_ble_eq_true rfl) dL_flood_26 ?_)
      rw [hkc]
      exact ⟨rfl, hR0, ⟨wo, ho, fun z => absurd z (by decide)⟩, md_rf _ _⟩
    · obtain rfl := Option.some.inj (show some "java/lang/IllegalStateException" = some E from hi)
      have hkc : (k3 (cellP a b ∧ cellP p q) (inI v 1 40 ∧ ordP a b p q) (st 0 1 < 100)) = 3 := hkc
      refine r_catch X hout [⟨0, 16, 19, 13⟩, ⟨0, 16, 23, 15⟩] ⟨0, 16, 27, 20⟩ [] rfl (fun z hz => by rcases List.mem_cons.mp hz with rfl | hz; exact ⟨by decide, "java/lang/IndexOutOfBoundsException", by decide +kernel, by decide +kernel⟩; rcases List.mem_cons.mp hz with rfl | hz; exact ⟨by decide, "java/lang/IllegalArgumentException", by decide +kernel, by decide +kernel⟩; exact nomatch hz) rfl (by decide) (by decide +kernel) (by decide +kernel) (pc2 := 27) rfl hce hcv hcl ?_
      refine lv_astore (lv' := [(7, .ref qx), (0, .ref x), (1, .int a), (2, .int b), (3, .int p), (4, .int q), (5, .int v), (6, .ref ou)]) X.1 X.2.1 dL_flood_27 hl (by decide) rfl (fun ls hl => ?_)
      refine lv_iconst (v := 3) X.1 X.2.1 dL_flood_29 (by decide) ?_
      refine vx_ret (e_i X hr S (Nat.le_of_ble_eq_true rfl) (Nat.le_of_ble_eq_true rfl) dL_flood_30 ?_)
      rw [hkc]
      exact ⟨rfl, hR0, ⟨wo, ho, fun z => absurd z (by decide)⟩, md_rf _ _⟩
    · exact nomatch (show (none : Option String) = some E from hi)
  · obtain ⟨hk, hrr, hRR, hmm⟩ := hr_11
    have ho_11 := hmm _ _ _ ho (by unfold tX; omega)
    refine lv_i2l (v := r_11.toInt64) X.1 X.2.1 dL_flood_14 rfl ?_
    refine r_last X S ho_11 (by decide) (pk_in 0 1 (by omega)) dL_flood_15 (fun H locs S => ?_)
    rw [(show (0 : Int32).toNatClampNeg = 0 from rfl)] at S
    obtain ⟨f_15, ef_15⟩ : ∃ z9 : Wd, z9 = wu f_11 ou 2000 (eJ G 1 (vp_updL wo 0 r_11.toInt64)) := ⟨_, rfl⟩
    rw [← ef_15] at S
    have ho_15 : f_15 ou = some (2000, eJ G 1 (vp_updL wo 0 r_11.toInt64)) := by rw [ef_15]; exact wu_self _ _ _ _
    refine lv_goto (tgt := 31) X.1 X.2.1 dL_flood_16 (by decide) ?_
    refine lv_iconst (v := 0) X.1 X.2.1 dL_flood_31 (by decide) ?_
    refine vx_ret (e_i X hr S (Nat.le_of_ble_eq_true rfl) (Nat.le_of_ble_eq_true rfl) dL_flood_32 ?_)
    have hI1 := sInv_le (j_flood st hI a b p q v hk)
    rw [hk]
    exact ⟨rfl, hRR.kept (by rw [ef_15]; exact md_mono (md_put ho_11) (fun t q => by unfold tX; omega)) hI1, ⟨_, ho_15, fun _ => by rw [pk_uLs]; rw [hrr]⟩, md_tr hmm (by rw [ef_15]; exact md_put ho_11) (fun t q => Or.inl q) (fun t q => Or.inr q)⟩

set_option maxRecDepth 100000 in
set_option maxHeartbeats 4000000 in
/-- calls soften -/
theorem h_soften (l : Launch) (hst : l.stackTraces = false) (G : cx_G) (f : Wd) (st : St) (x : Nat) (hI : sInv st) (hR0 : RX G f st x) (v : Int32) (ou : Nat) (wo : Nat → Int64) (ho : f ou = some (2000, eJ G 1 wo)) : XI l G yL_soften wsL_soften 9 236 6 332 [.ref x, .int v, .ref ou] f (fun r f' => r = nI (k2 (inI v 1 40) (st 0 1 < 100)) ∧ RX G f' (stp (k2 (inI v 1 40) (st 0 1 < 100)) (lessSt st (softφ (st 1) (nN v))) st) x ∧ (∃ wo2 : Nat → Int64, f' ou = some (2000, eJ G 1 wo2) ∧ ((k2 (inI v 1 40) (st 0 1 < 100)) = 0 → wo2 0 = (nI (cn (goneL st (softφ (st 1) (nN v))) (st 0 0))).toInt64)) ∧ md (fun t => tX t ∨ t = 2000) f f') (fun _ => False) := by
  refine vxh_body (cc := cL_soften) (n := 4) (ret := (some .int)) (by decide +kernel) rfl (Nat.le_of_ble_eq_true rfl) ?_
  intro p0 e0 s0 m0 b0 meth0 c0 ls X hr hnm hout S hl
  have X : cxC G p0 l _ c0 cL_soften 4 m0 meth0 s0 _ RL wsL_soften := X
  have hl : lv_has ls 4 [(0, .ref x), (1, .int v), (2, .ref ou)] := hl
  obtain ⟨gr9, rw9, L91, L92, L93, cu9, L94, g91, g92, g93, g94, w9, hR9⟩ := id hR0
  have hx := hR9.1
  refine lv_aload_n X.1 X.2.1 dL_soften_0 rfl (lv_at hl 2 rfl) ?_
  refine lv_iconst (v := 0) X.1 X.2.1 dL_soften_1 (by decide) ?_
  refine lv_aload_n X.1 X.2.1 dL_soften_2 rfl (lv_at hl 0 rfl) ?_
  refine lv_iload_n X.1 X.2.1 dL_soften_3 rfl (lv_at hl 1 rfl) ?_
  refine xcall_it (xrun_V X S (c_soften l hst G f st x hI hR0 v) 1 gL_soften_X9_soften rfl rfl rfl (by decide +kernel) ⟨(by exact Nat.le_of_ble_eq_true rfl), (by exact Nat.le_of_ble_eq_true rfl)⟩ ⟨_, _, hx⟩ rfl rfl rfl hl.1 rfl (by exact Nat.le_of_ble_eq_true rfl) dL_soften_4 ⟨(by exact Nat.le_of_ble_eq_true rfl), (by exact Nat.le_of_ble_eq_true rfl)⟩) S (fun E H locs qx ce hE S hce hcv hcl => ?_) (fun r_4 f_4 H locs hr_4 S => ?_)
  · obtain ⟨i, hi, hkc⟩ := hE
    rcases i with _ | _ | i
    · obtain rfl := Option.some.inj (show some "java/lang/IllegalArgumentException" = some E from hi)
      have hkc : (k2 (inI v 1 40) (st 0 1 < 100)) = 1 := hkc
      refine r_catch X hout [] ⟨0, 9, 12, 15⟩ [⟨0, 9, 15, 20⟩] rfl (fun z hz => nomatch hz) rfl (by decide) (by decide +kernel) (by decide +kernel) (pc2 := 12) rfl hce hcv hcl ?_
      refine lv_astore_n (lv' := [(3, .ref qx), (0, .ref x), (1, .int v), (2, .ref ou)]) X.1 X.2.1 dL_soften_12 rfl hl (by decide) rfl (fun ls hl => ?_)
      refine lv_iconst (v := 1) X.1 X.2.1 dL_soften_13 (by decide) ?_
      refine vx_ret (e_i X hr S (Nat.le_of_ble_eq_true rfl) (Nat.le_of_ble_eq_true rfl) dL_soften_14 ?_)
      rw [hkc]
      exact ⟨rfl, hR0, ⟨wo, ho, fun z => absurd z (by decide)⟩, md_rf _ _⟩
    · obtain rfl := Option.some.inj (show some "java/lang/IllegalStateException" = some E from hi)
      have hkc : (k2 (inI v 1 40) (st 0 1 < 100)) = 2 := hkc
      refine r_catch X hout [⟨0, 9, 12, 15⟩] ⟨0, 9, 15, 20⟩ [] rfl (fun z hz => by rcases List.mem_cons.mp hz with rfl | hz; exact ⟨by decide, "java/lang/IllegalArgumentException", by decide +kernel, by decide +kernel⟩; exact nomatch hz) rfl (by decide) (by decide +kernel) (by decide +kernel) (pc2 := 15) rfl hce hcv hcl ?_
      refine lv_astore_n (lv' := [(3, .ref qx), (0, .ref x), (1, .int v), (2, .ref ou)]) X.1 X.2.1 dL_soften_15 rfl hl (by decide) rfl (fun ls hl => ?_)
      refine lv_iconst (v := 2) X.1 X.2.1 dL_soften_16 (by decide) ?_
      refine vx_ret (e_i X hr S (Nat.le_of_ble_eq_true rfl) (Nat.le_of_ble_eq_true rfl) dL_soften_17 ?_)
      rw [hkc]
      exact ⟨rfl, hR0, ⟨wo, ho, fun z => absurd z (by decide)⟩, md_rf _ _⟩
    · exact nomatch (show (none : Option String) = some E from hi)
  · obtain ⟨hk, hrr, hRR, hmm⟩ := hr_4
    have ho_4 := hmm _ _ _ ho (by unfold tX; omega)
    refine lv_i2l (v := r_4.toInt64) X.1 X.2.1 dL_soften_7 rfl ?_
    refine r_last X S ho_4 (by decide) (pk_in 0 1 (by omega)) dL_soften_8 (fun H locs S => ?_)
    rw [(show (0 : Int32).toNatClampNeg = 0 from rfl)] at S
    obtain ⟨f_8, ef_8⟩ : ∃ z9 : Wd, z9 = wu f_4 ou 2000 (eJ G 1 (vp_updL wo 0 r_4.toInt64)) := ⟨_, rfl⟩
    rw [← ef_8] at S
    have ho_8 : f_8 ou = some (2000, eJ G 1 (vp_updL wo 0 r_4.toInt64)) := by rw [ef_8]; exact wu_self _ _ _ _
    refine lv_goto (tgt := 18) X.1 X.2.1 dL_soften_9 (by decide) ?_
    refine lv_iconst (v := 0) X.1 X.2.1 dL_soften_18 (by decide) ?_
    refine vx_ret (e_i X hr S (Nat.le_of_ble_eq_true rfl) (Nat.le_of_ble_eq_true rfl) dL_soften_19 ?_)
    have hI1 := sInv_le (j_soften st hI v hk)
    rw [hk]
    exact ⟨rfl, hRR.kept (by rw [ef_8]; exact md_mono (md_put ho_4) (fun t q => by unfold tX; omega)) hI1, ⟨_, ho_8, fun _ => by rw [pk_uLs]; rw [hrr]⟩, md_tr hmm (by rw [ef_8]; exact md_put ho_4) (fun t q => Or.inl q) (fun t q => Or.inr q)⟩

set_option maxRecDepth 100000 in
set_option maxHeartbeats 4000000 in
/-- calls eye -/
theorem h_eye (l : Launch) (hst : l.stackTraces = false) (G : cx_G) (f : Wd) (st : St) (x : Nat) (hI : sInv st) (hR0 : RX G f st x) (a : Int32) (ou : Nat) (wo : Nat → Int64) (ho : f ou = some (2000, eJ G 1 wo)) : XI l G yL_eye wsL_eye 8 212 3 307 [.ref x, .int a, .ref ou] f (fun r f' => r = nI (k2 (inI a 1 9) (st 0 2 < 6)) ∧ RX G f' (stp (k2 (inI a 1 9) (st 0 2 < 6)) (eyeSt st (nN a)) st) x ∧ (∃ wo2 : Nat → Int64, f' ou = some (2000, eJ G 1 wo2) ∧ ((k2 (inI a 1 9) (st 0 2 < 6)) = 0 → wo2 0 = (nI (st 0 2)).toInt64)) ∧ md (fun t => tX t ∨ t = 2000) f f') (fun _ => False) := by
  refine vxh_body (cc := cL_eye) (n := 4) (ret := (some .int)) (by decide +kernel) rfl (Nat.le_of_ble_eq_true rfl) ?_
  intro p0 e0 s0 m0 b0 meth0 c0 ls X hr hnm hout S hl
  have X : cxC G p0 l _ c0 cL_eye 4 m0 meth0 s0 _ RL wsL_eye := X
  have hl : lv_has ls 4 [(0, .ref x), (1, .int a), (2, .ref ou)] := hl
  obtain ⟨gr9, rw9, L91, L92, L93, cu9, L94, g91, g92, g93, g94, w9, hR9⟩ := id hR0
  have hx := hR9.1
  refine lv_aload_n X.1 X.2.1 dL_eye_0 rfl (lv_at hl 2 rfl) ?_
  refine lv_iconst (v := 0) X.1 X.2.1 dL_eye_1 (by decide) ?_
  refine lv_aload_n X.1 X.2.1 dL_eye_2 rfl (lv_at hl 0 rfl) ?_
  refine lv_iload_n X.1 X.2.1 dL_eye_3 rfl (lv_at hl 1 rfl) ?_
  refine xcall_it (xrun_V X S (c_eye l hst G f st x hI hR0 a) 1 gL_eye_X9_eye rfl rfl rfl (by decide +kernel) ⟨(by exact Nat.le_of_ble_eq_true rfl), (by exact Nat.le_of_ble_eq_true rfl)⟩ ⟨_, _, hx⟩ rfl rfl rfl hl.1 rfl (by exact Nat.le_of_ble_eq_true rfl) dL_eye_4 ⟨(by exact Nat.le_of_ble_eq_true rfl), (by exact Nat.le_of_ble_eq_true rfl)⟩) S (fun E H locs qx ce hE S hce hcv hcl => ?_) (fun r_4 f_4 H locs hr_4 S => ?_)
  · obtain ⟨i, hi, hkc⟩ := hE
    rcases i with _ | _ | i
    · obtain rfl := Option.some.inj (show some "java/lang/IllegalArgumentException" = some E from hi)
      have hkc : (k2 (inI a 1 9) (st 0 2 < 6)) = 1 := hkc
      refine r_catch X hout [] ⟨0, 9, 12, 15⟩ [⟨0, 9, 15, 20⟩] rfl (fun z hz => nomatch hz) rfl (by decide) (by decide +kernel) (by decide +kernel) (pc2 := 12) rfl hce hcv hcl ?_
      refine lv_astore_n (lv' := [(3, .ref qx), (0, .ref x), (1, .int a), (2, .ref ou)]) X.1 X.2.1 dL_eye_12 rfl hl (by decide) rfl (fun ls hl => ?_)
      refine lv_iconst (v := 1) X.1 X.2.1 dL_eye_13 (by decide) ?_
      refine vx_ret (e_i X hr S (Nat.le_of_ble_eq_true rfl) (Nat.le_of_ble_eq_true rfl) dL_eye_14 ?_)
      rw [hkc]
      exact ⟨rfl, hR0, ⟨wo, ho, fun z => absurd z (by decide)⟩, md_rf _ _⟩
    · obtain rfl := Option.some.inj (show some "java/lang/IllegalStateException" = some E from hi)
      have hkc : (k2 (inI a 1 9) (st 0 2 < 6)) = 2 := hkc
      refine r_catch X hout [⟨0, 9, 12, 15⟩] ⟨0, 9, 15, 20⟩ [] rfl (fun z hz => by rcases List.mem_cons.mp hz with rfl | hz; exact ⟨by decide, "java/lang/IllegalArgumentException", by decide +kernel, by decide +kernel⟩; exact nomatch hz) rfl (by decide) (by decide +kernel) (by decide +kernel) (pc2 := 15) rfl hce hcv hcl ?_
      refine lv_astore_n (lv' := [(3, .ref qx), (0, .ref x), (1, .int a), (2, .ref ou)]) X.1 X.2.1 dL_eye_15 rfl hl (by decide) rfl (fun ls hl => ?_)
      refine lv_iconst (v := 2) X.1 X.2.1 dL_eye_16 (by decide) ?_
      refine vx_ret (e_i X hr S (Nat.le_of_ble_eq_true rfl) (Nat.le_of_ble_eq_true rfl) dL_eye_17 ?_)
      rw [hkc]
      exact ⟨rfl, hR0, ⟨wo, ho, fun z => absurd z (by decide)⟩, md_rf _ _⟩
    · exact nomatch (show (none : Option String) = some E from hi)
  · obtain ⟨hk, hrr, hRR, hmm⟩ := hr_4
    have ho_4 := hmm _ _ _ ho (by unfold tX; omega)
    refine lv_i2l (v := r_4.toInt64) X.1 X.2.1 dL_eye_7 rfl ?_
    refine r_last X S ho_4 (by decide) (pk_in 0 1 (by omega)) dL_eye_8 (fun H locs S => ?_)
    rw [(show (0 : Int32).toNatClampNeg = 0 from rfl)] at S
    obtain ⟨f_8, ef_8⟩ : ∃ z9 : Wd, z9 = wu f_4 ou 2000 (eJ G 1 (vp_updL wo 0 r_4.toInt64)) := ⟨_, rfl⟩
    rw [← ef_8] at S
    have ho_8 : f_8 ou = some (2000, eJ G 1 (vp_updL wo 0 r_4.toInt64)) := by rw [ef_8]; exact wu_self _ _ _ _
    refine lv_goto (tgt := 18) X.1 X.2.1 dL_eye_9 (by decide) ?_
    refine lv_iconst (v := 0) X.1 X.2.1 dL_eye_18 (by decide) ?_
    refine vx_ret (e_i X hr S (Nat.le_of_ble_eq_true rfl) (Nat.le_of_ble_eq_true rfl) dL_eye_19 ?_)
    have hI1 := sInv_le (j_eye st hI a hk)
    rw [hk]
    exact ⟨rfl, hRR.kept (by rw [ef_8]; exact md_mono (md_put ho_4) (fun t q => by unfold tX; omega)) hI1, ⟨_, ho_8, fun _ => by rw [pk_uLs]; rw [hrr]⟩, md_tr hmm (by rw [ef_8]; exact md_put ho_4) (fun t q => Or.inl q) (fun t q => Or.inr q)⟩

set_option maxRecDepth 100000 in
set_option maxHeartbeats 4000000 in
/-- calls count -/
theorem h_count (l : Launch) (hst : l.stackTraces = false) (G : cx_G) (f : Wd) (st : St) (x : Nat) (hI : sInv st) (hR0 : RX G f st x) (c : Int32) (a : Int32) (b : Int32) (p : Int32) (q : Int32) (k : Int32) (ou : Nat) (wo : Nat → Int64) (ho : f ou = some (2000, eJ G 1 wo)) : XI l G yL_count wsL_count 9 162 6 34 [.ref x, .int c, .int a, .int b, .int p, .int q, .int k, .ref ou] f (fun r f' => r = nI (k2 (eyeP st c a b p q) (inI k 1 7 ∧ ordP a b p q)) ∧ RX G f' (stp (k2 (eyeP st c a b p q) (inI k 1 7 ∧ ordP a b p q)) st st) x ∧ (∃ wo2 : Nat → Int64, f' ou = some (2000, eJ G 1 wo2) ∧ ((k2 (eyeP st c a b p q) (inI k 1 7 ∧ ordP a b p q)) = 0 → wo2 0 = (nI (cn (seenP st (nN k) (nN c) (nN a) (nN b) (nN p) (nN q)) (st 0 0))).toInt64)) ∧ md (fun t => tX t ∨ t = 2000) f f') (fun _ => False) := by
  refine vxh_body (cc := cL_count) (n := 9) (ret := (some .int)) (by decide +kernel) rfl (Nat.le_of_ble_eq_true rfl) ?_
  intro p0 e0 s0 m0 b0 meth0 c0 ls X hr hnm hout S hl
  have X : cxC G p0 l _ c0 cL_count 9 m0 meth0 s0 _ RL wsL_count := X
  have hl : lv_has ls 9 [(0, .ref x), (1, .int c), (2, .int a), (3, .int b), (4, .int p), (5, .int q), (6, .int k), (7, .ref ou)] := hl
  obtain ⟨gr9, rw9, L91, L92, L93, cu9, L94, g91, g92, g93, g94, w9, hR9⟩ := id hR0
  have hx := hR9.1
  refine lv_aload X.1 X.2.1 dL_count_0 (lv_at hl 7 rfl) ?_
  refine lv_iconst (v := 0) X.1 X.2.1 dL_count_2 (by decide) ?_
  refine lv_aload_n X.1 X.2.1 dL_count_3 rfl (lv_at hl 0 rfl) ?_
  refine lv_iload_n X.1 X.2.1 dL_count_4 rfl (lv_at hl 1 rfl) ?_
  refine lv_iload_n X.1 X.2.1 dL_count_5 rfl (lv_at hl 2 rfl) ?_
  refine lv_iload_n X.1 X.2.1 dL_count_6 rfl (lv_at hl 3 rfl) ?_
  refine lv_iload X.1 X.2.1 dL_count_7 (lv_at hl 4 rfl) ?_
  refine lv_iload X.1 X.2.1 dL_count_9 (lv_at hl 5 rfl) ?_
  refine lv_iload X.1 X.2.1 dL_count_11 (lv_at hl 6 rfl) ?_
  refine xcall_it (xrun_V X S (c_count l hst G f st x hI hR0 c a b p q k) 6 gL_count_X9_count rfl rfl rfl (by decide +kernel) ⟨(by exact Nat.le_of_ble_eq_true rfl), (by exact Nat.le_of_ble_eq_true rfl)⟩ ⟨_, _, hx⟩ rfl rfl rfl hl.1 rfl (by exact Nat.le_of_ble_eq_true rfl) dL_count_13 ⟨(by exact Nat.le_of_ble_eq_true rfl), (by exact Nat.le_of_ble_eq_true rfl)⟩) S (fun E H locs qx ce hE S hce hcv hcl => ?_) (fun r_13 f_13 H locs hr_13 S => ?_)
  · obtain ⟨i, hi, hkc⟩ := hE
    rcases i with _ | _ | i
    · obtain rfl := Option.some.inj (show some "java/lang/IndexOutOfBoundsException" = some E from hi)
      have hkc : (k2 (eyeP st c a b p q) (inI k 1 7 ∧ ordP a b p q)) = 1 := hkc
      refine r_catch X hout [] ⟨0, 18, 21, 13⟩ [⟨0, 18, 25, 15⟩] rfl (fun z hz => nomatch hz) rfl (by decide) (by decide +kernel) (by decide +kernel) (pc2 := 21) rfl hce hcv hcl ?_
      refine lv_astore (lv' := [(8, .ref qx), (0, .ref x), (1, .int c), (2, .int a), (3, .int b), (4, .int p), (5, .int q), (6, .int k), (7, .ref ou)]) X.1 X.2.1 dL_count_21 hl (by decide) rfl (fun ls hl => ?_)
      refine lv_iconst (v := 1) X.1 X.2.1 dL_count_23 (by decide) ?_
      refine vx_ret (e_i X hr S (Nat.le_of_ble_eq_true rfl) (Nat.le_of_ble_eq_true rfl) dL_count_24 ?_)
      rw [hkc]
      exact ⟨rfl, hR0, ⟨wo, ho, fun z => absurd z (by decide)⟩, md_rf _ _⟩
    · obtain rfl := Option.some.inj (show some "java/lang/IllegalArgumentException" = some E from hi)
      have hkc : (k2 (eyeP st c a b p q) (inI k 1 7 ∧ ordP a b p q)) = 2 := hkc
      refine r_catch X hout [⟨0, 18, 21, 13⟩] ⟨0, 18, 25, 15⟩ [] rfl (fun z hz => by rcases List.mem_cons.mp hz with rfl | hz; exact ⟨by decide, "java/lang/IndexOutOfBoundsException", by decide +kernel, by decide +kernel⟩; exact nomatch hz) rfl (by decide) (by decide +kernel) (by decide +kernel) (pc2 := 25) rfl hce hcv hcl ?_
      refine lv_astore (lv' := [(8, .ref qx), (0, .ref x), (1, .int c), (2, .int a), (3, .int b), (4, .int p), (5, .int q), (6, .int k), (7, .ref ou)]) X.1 X.2.1 dL_count_25 hl (by decide) rfl (fun ls hl => ?_)
      refine lv_iconst (v := 2) X.1 X.2.1 dL_count_27 (by decide) ?_
      refine vx_ret (e_i X hr S (Nat.le_of_ble_eq_true rfl) (Nat.le_of_ble_eq_true rfl) dL_count_28 ?_)
      rw [hkc]
      exact ⟨rfl, hR0, ⟨wo, ho, fun z => absurd z (by decide)⟩, md_rf _ _⟩
    · exact nomatch (show (none : Option String) = some E from hi)
  · obtain ⟨hk, hrr, hRR, hmm⟩ := hr_13
    have ho_13 := hmm _ _ _ ho (by unfold tX; omega)
    refine lv_i2l (v := r_13.toInt64) X.1 X.2.1 dL_count_16 rfl ?_
    refine r_last X S ho_13 (by decide) (pk_in 0 1 (by omega)) dL_count_17 (fun H locs S => ?_)
    rw [(show (0 : Int32).toNatClampNeg = 0 from rfl)] at S
    obtain ⟨f_17, ef_17⟩ : ∃ z9 : Wd, z9 = wu f_13 ou 2000 (eJ G 1 (vp_updL wo 0 r_13.toInt64)) := ⟨_, rfl⟩
    rw [← ef_17] at S
    have ho_17 : f_17 ou = some (2000, eJ G 1 (vp_updL wo 0 r_13.toInt64)) := by rw [ef_17]; exact wu_self _ _ _ _
    refine lv_goto (tgt := 29) X.1 X.2.1 dL_count_18 (by decide) ?_
    refine lv_iconst (v := 0) X.1 X.2.1 dL_count_29 (by decide) ?_
    refine vx_ret (e_i X hr S (Nat.le_of_ble_eq_true rfl) (Nat.le_of_ble_eq_true rfl) dL_count_30 ?_)
    have hI1 := sInv_le (j_count st hI c a b p q k hk)
    rw [hk]
    exact ⟨rfl, hRR.kept (by rw [ef_17]; exact md_mono (md_put ho_13) (fun t q => by unfold tX; omega)) hI1, ⟨_, ho_17, fun _ => by rw [pk_uLs]; rw [hrr]⟩, md_tr hmm (by rw [ef_17]; exact md_put ho_13) (fun t q => Or.inl q) (fun t q => Or.inr q)⟩

set_option maxRecDepth 100000 in
set_option maxHeartbeats 4000000 in
/-- calls age -/
theorem h_age (l : Launch) (hst : l.stackTraces = false) (G : cx_G) (f : Wd) (st : St) (x : Nat) (hI : sInv st) (hR0 : RX G f st x) (c : Int32) (a : Int32) (b : Int32) (p : Int32) (q : Int32) (ou : Nat) (wo : Nat → Int64) (ho : f ou = some (2000, eJ G 1 wo)) : XI l G yL_age wsL_age 9 163 6 34 [.ref x, .int c, .int a, .int b, .int p, .int q, .ref ou] f (fun r f' => r = nI (k3 (eyeP st c a b p q) (ordP a b p q) (lackN st (densN st (nN c) (nN a) (nN b) (nN p) (nN q)) = 0)) ∧ RX G f' (stp (k3 (eyeP st c a b p q) (ordP a b p q) (lackN st (densN st (nN c) (nN a) (nN b) (nN p) (nN q)) = 0)) st st) x ∧ (∃ wo2 : Nat → Int64, f' ou = some (2000, eJ G 1 wo2) ∧ ((k3 (eyeP st c a b p q) (ordP a b p q) (lackN st (densN st (nN c) (nN a) (nN b) (nN p) (nN q)) = 0)) = 0 → ageR st (densN st (nN c) (nN a) (nN b) (nN p) (nN q)) (wo2 0))) ∧ md (fun t => tX t ∨ t = 2000) f f') (fun _ => False) := by
  refine vxh_body (cc := cL_age) (n := 8) (ret := (some .int)) (by decide +kernel) rfl (Nat.le_of_ble_eq_true rfl) ?_
  intro p0 e0 s0 m0 b0 meth0 c0 ls X hr hnm hout S hl
  have X : cxC G p0 l _ c0 cL_age 8 m0 meth0 s0 _ RL wsL_age := X
  have hl : lv_has ls 8 [(0, .ref x), (1, .int c), (2, .int a), (3, .int b), (4, .int p), (5, .int q), (6, .ref ou)] := hl
  obtain ⟨gr9, rw9, L91, L92, L93, cu9, L94, g91, g92, g93, g94, w9, hR9⟩ := id hR0
  have hx := hR9.1
  refine lv_aload X.1 X.2.1 dL_age_0 (lv_at hl 6 rfl) ?_
  refine lv_iconst (v := 0) X.1 X.2.1 dL_age_2 (by decide) ?_
  refine lv_aload_n X.1 X.2.1 dL_age_3 rfl (lv_at hl 0 rfl) ?_
  refine lv_iload_n X.1 X.2.1 dL_age_4 rfl (lv_at hl 1 rfl) ?_
  refine lv_iload_n X.1 X.2.1 dL_age_5 rfl (lv_at hl 2 rfl) ?_
  refine lv_iload_n X.1 X.2.1 dL_age_6 rfl (lv_at hl 3 rfl) ?_
  refine lv_iload X.1 X.2.1 dL_age_7 (lv_at hl 4 rfl) ?_
  refine lv_iload X.1 X.2.1 dL_age_9 (lv_at hl 5 rfl) ?_
  refine xcall_lt (xrun_V X S (c_age l hst G f st x hI hR0 c a b p q) 5 gL_age_X9_age rfl rfl rfl (by decide +kernel) ⟨(by exact Nat.le_of_ble_eq_true rfl), (by exact Nat.le_of_ble_eq_true rfl)⟩ ⟨_, _, hx⟩ rfl rfl rfl hl.1 rfl (by exact Nat.le_of_ble_eq_true rfl) dL_age_11 ⟨(by exact Nat.le_of_ble_eq_true rfl), (by exact Nat.le_of_ble_eq_true rfl)⟩) S (fun E H locs qx ce hE S hce hcv hcl => ?_) (fun r_11 f_11 H locs hr_11 S => ?_)
  · obtain ⟨i, hi, hkc⟩ := hE
    rcases i with _ | _ | _ | i
    · obtain rfl := Option.some.inj (show some "java/lang/IndexOutOfBoundsException" = some E from hi)
      have hkc : (k3 (eyeP st c a b p q) (ordP a b p q) (lackN st (densN st (nN c) (nN a) (nN b) (nN p) (nN q)) = 0)) = 1 := hkc
      refine r_catch X hout [] ⟨0, 15, 18, 13⟩ [⟨0, 15, 22, 15⟩, ⟨0, 15, 26, 20⟩] rfl (fun z hz => nomatch hz) rfl (by decide) (by decide +kernel) (by decide +kernel) (pc2 := 18) rfl hce hcv hcl ?_
      refine lv_astore (lv' := [(7, .ref qx), (0, .ref x), (1, .int c), (2, .int a), (3, .int b), (4, .int p), (5, .int q), (6, .ref ou)]) X.1 X.2.1 dL_age_18 hl (by decide) rfl (fun ls hl => ?_)
      refine lv_iconst (v := 1) X.1 X.2.1 dL_age_20 (by decide) ?_
      refine vx_ret (e_i X hr S (Nat.le_of_ble_eq_true rfl) (Nat.le_of_ble_eq_true rfl) dL_age_21 ?_)
      rw [hkc]
      exact ⟨rfl, hR0, ⟨wo, ho, fun z => absurd z (by decide)⟩, md_rf _ _⟩
    · obtain rfl := Option.some.inj (show some "java/lang/IllegalArgumentException" = some E from hi)
      have hkc : (k3 (eyeP st c a b p q) (ordP a b p q) (lackN st (densN st (nN c) (nN a) (nN b) (nN p) (nN q)) = 0)) = 2 := hkc
      refine r_catch X hout [⟨0, 15, 18, 13⟩] ⟨0, 15, 22, 15⟩ [⟨0, 15, 26, 20⟩] rfl (fun z hz => by rcases List.mem_cons.mp hz with rfl | hz; exact ⟨by decide, "java/lang/IndexOutOfBoundsException", by decide +kernel, by decide +kernel⟩; exact nomatch hz) rfl (by decide) (by decide +kernel) (by decide +kernel) (pc2 := 22) rfl hce hcv hcl ?_
      refine lv_astore (lv' := [(7, .ref qx), (0, .ref x), (1, .int c), (2, .int a), (3, .int b), (4, .int p), (5, .int q), (6, .ref ou)]) X.1 X.2.1 dL_age_22 hl (by decide) rfl (fun ls hl => ?_)
      refine lv_iconst (v := 2) X.1 X.2.1 dL_age_24 (by decide) ?_
      refine vx_ret (e_i X hr S (Nat.le_of_ble_eq_true rfl) (Nat.le_of_ble_eq_true rfl) dL_age_25 ?_)
      rw [hkc]
      exact ⟨rfl, hR0, ⟨wo, ho, fun z => absurd z (by decide)⟩, md_rf _ _⟩
    · obtain rfl := Option.some.inj (show some "java/lang/IllegalStateException" = some E from hi)
      have hkc : (k3 (eyeP st c a b p q) (ordP a b p q) (lackN st (densN st (nN c) (nN a) (nN b) (nN p) (nN q)) = 0)) = 3 := hkc
      refine r_catch X hout [⟨0, 15, 18, 13⟩, ⟨0, 15, 22, 15⟩] ⟨0, 15, 26, 20⟩ [] rfl (fun z hz => by rcases List.mem_cons.mp hz with rfl | hz; exact ⟨by decide, "java/lang/IndexOutOfBoundsException", by decide +kernel, by decide +kernel⟩; rcases List.mem_cons.mp hz with rfl | hz; exact ⟨by decide, "java/lang/IllegalArgumentException", by decide +kernel, by decide +kernel⟩; exact nomatch hz) rfl (by decide) (by decide +kernel) (by decide +kernel) (pc2 := 26) rfl hce hcv hcl ?_
      refine lv_astore (lv' := [(7, .ref qx), (0, .ref x), (1, .int c), (2, .int a), (3, .int b), (4, .int p), (5, .int q), (6, .ref ou)]) X.1 X.2.1 dL_age_26 hl (by decide) rfl (fun ls hl => ?_)
      refine lv_iconst (v := 3) X.1 X.2.1 dL_age_28 (by decide) ?_
      refine vx_ret (e_i X hr S (Nat.le_of_ble_eq_true rfl) (Nat.le_of_ble_eq_true rfl) dL_age_29 ?_)
      rw [hkc]
      exact ⟨rfl, hR0, ⟨wo, ho, fun z => absurd z (by decide)⟩, md_rf _ _⟩
    · exact nomatch (show (none : Option String) = some E from hi)
  · obtain ⟨hk, hrr, hRR, hmm⟩ := hr_11
    have ho_11 := hmm _ _ _ ho (by unfold tX; omega)
    refine r_last X S ho_11 (by decide) (pk_in 0 1 (by omega)) dL_age_14 (fun H locs S => ?_)
    rw [(show (0 : Int32).toNatClampNeg = 0 from rfl)] at S
    obtain ⟨f_14, ef_14⟩ : ∃ z9 : Wd, z9 = wu f_11 ou 2000 (eJ G 1 (vp_updL wo 0 r_11)) := ⟨_, rfl⟩
    rw [← ef_14] at S
    have ho_14 : f_14 ou = some (2000, eJ G 1 (vp_updL wo 0 r_11)) := by rw [ef_14]; exact wu_self _ _ _ _
    refine lv_goto (tgt := 30) X.1 X.2.1 dL_age_15 (by decide) ?_
    refine lv_iconst (v := 0) X.1 X.2.1 dL_age_30 (by decide) ?_
    refine vx_ret (e_i X hr S (Nat.le_of_ble_eq_true rfl) (Nat.le_of_ble_eq_true rfl) dL_age_31 ?_)
    have hI1 := sInv_le (j_age st hI c a b p q hk)
    rw [hk]
    exact ⟨rfl, hRR.kept (by rw [ef_14]; exact md_mono (md_put ho_11) (fun t q => by unfold tX; omega)) hI1, ⟨_, ho_14, fun _ => by rw [pk_uLs]; exact hrr⟩, md_tr hmm (by rw [ef_14]; exact md_put ho_11) (fun t q => Or.inl q) (fun t q => Or.inr q)⟩

set_option maxRecDepth 100000 in
set_option maxHeartbeats 4000000 in
/-- calls whyNot -/
theorem h_whyNot (l : Launch) (hst : l.stackTraces = false) (G : cx_G) (f : Wd) (st : St) (x : Nat) (hI : sInv st) (hR0 : RX G f st x) (c : Int32) (a : Int32) (b : Int32) (p : Int32) (q : Int32) (ou : Nat) (wo : Nat → Int64) (ho : f ou = some (2000, eJ G 1 wo)) : XI l G yL_whyNot wsL_whyNot 9 161 5 28 [.ref x, .int c, .int a, .int b, .int p, .int q, .ref ou] f (fun r f' => r = nI (k2 (eyeP st c a b p q) (ordP a b p q)) ∧ RX G f' (stp (k2 (eyeP st c a b p q) (ordP a b p q)) st st) x ∧ (∃ wo2 : Nat → Int64, f' ou = some (2000, eJ G 1 wo2) ∧ ((k2 (eyeP st c a b p q) (ordP a b p q)) = 0 → wo2 0 = (nI (lackN st (densN st (nN c) (nN a) (nN b) (nN p) (nN q)))).toInt64)) ∧ md (fun t => tX t ∨ t = 2000) f f') (fun _ => False) := by
  refine vxh_body (cc := cL_whyNot) (n := 8) (ret := (some .int)) (by decide +kernel) rfl (Nat.le_of_ble_eq_true rfl) ?_
  intro p0 e0 s0 m0 b0 meth0 c0 ls X hr hnm hout S hl
  have X : cxC G p0 l _ c0 cL_whyNot 8 m0 meth0 s0 _ RL wsL_whyNot := X
  have hl : lv_has ls 8 [(0, .ref x), (1, .int c), (2, .int a), (3, .int b), (4, .int p), (5, .int q), (6, .ref ou)] := hl
  obtain ⟨gr9, rw9, L91, L92, L93, cu9, L94, g91, g92, g93, g94, w9, hR9⟩ := id hR0
  have hx := hR9.1
  refine lv_aload X.1 X.2.1 dL_whyNot_0 (lv_at hl 6 rfl) ?_
  refine lv_iconst (v := 0) X.1 X.2.1 dL_whyNot_2 (by decide) ?_
  refine lv_aload_n X.1 X.2.1 dL_whyNot_3 rfl (lv_at hl 0 rfl) ?_
  refine lv_iload_n X.1 X.2.1 dL_whyNot_4 rfl (lv_at hl 1 rfl) ?_
  refine lv_iload_n X.1 X.2.1 dL_whyNot_5 rfl (lv_at hl 2 rfl) ?_
  refine lv_iload_n X.1 X.2.1 dL_whyNot_6 rfl (lv_at hl 3 rfl) ?_
  refine lv_iload X.1 X.2.1 dL_whyNot_7 (lv_at hl 4 rfl) ?_
  refine lv_iload X.1 X.2.1 dL_whyNot_9 (lv_at hl 5 rfl) ?_
  refine xcall_it (xrun_V X S (c_whyNot l hst G f st x hI hR0 c a b p q) 5 gL_whyNot_X9_whyNot rfl rfl rfl (by decide +kernel) ⟨(by exact Nat.le_of_ble_eq_true rfl), (by exact Nat.le_of_ble_eq_true rfl)⟩ ⟨_, _, hx⟩ rfl rfl rfl hl.1 rfl (by exact Nat.le_of_ble_eq_true rfl) dL_whyNot_11 ⟨(by exact Nat.le_of_ble_eq_true rfl), (by exact Nat.le_of_ble_eq_true rfl)⟩) S (fun E H locs qx ce hE S hce hcv hcl => ?_) (fun r_11 f_11 H locs hr_11 S => ?_)
  · obtain ⟨i, hi, hkc⟩ := hE
    rcases i with _ | _ | i
    · obtain rfl := Option.some.inj (show some "java/lang/IndexOutOfBoundsException" = some E from hi)
      have hkc : (k2 (eyeP st c a b p q) (ordP a b p q)) = 1 := hkc
      refine r_catch X hout [] ⟨0, 16, 19, 13⟩ [⟨0, 16, 23, 15⟩] rfl (fun z hz => nomatch hz) rfl (by decide) (by decide +kernel) (by decide +kernel) (pc2 := 19) rfl hce hcv hcl ?_
      refine lv_astore (lv' := [(7, .ref qx), (0, .ref x), (1, .int c), (2, .int a), (3, .int b), (4, .int p), (5, .int q), (6, .ref ou)]) X.1 X.2.1 dL_whyNot_19 hl (by decide) rfl (fun ls hl => ?_)
      refine lv_iconst (v := 1) X.1 X.2.1 dL_whyNot_21 (by decide) ?_
      refine vx_ret (e_i X hr S (Nat.le_of_ble_eq_true rfl) (Nat.le_of_ble_eq_true rfl) dL_whyNot_22 ?_)
      rw [hkc]
      exact ⟨rfl, hR0, ⟨wo, ho, fun z => absurd z (by decide)⟩, md_rf _ _⟩
    · obtain rfl := Option.some.inj (show some "java/lang/IllegalArgumentException" = some E from hi)
      have hkc : (k2 (eyeP st c a b p q) (ordP a b p q)) = 2 := hkc
      refine r_catch X hout [⟨0, 16, 19, 13⟩] ⟨0, 16, 23, 15⟩ [] rfl (fun z hz => by rcases List.mem_cons.mp hz with rfl | hz; exact ⟨by decide, "java/lang/IndexOutOfBoundsException", by decide +kernel, by decide +kernel⟩; exact nomatch hz) rfl (by decide) (by decide +kernel) (by decide +kernel) (pc2 := 23) rfl hce hcv hcl ?_
      refine lv_astore (lv' := [(7, .ref qx), (0, .ref x), (1, .int c), (2, .int a), (3, .int b), (4, .int p), (5, .int q), (6, .ref ou)]) X.1 X.2.1 dL_whyNot_23 hl (by decide) rfl (fun ls hl => ?_)
      refine lv_iconst (v := 2) X.1 X.2.1 dL_whyNot_25 (by decide) ?_
      refine vx_ret (e_i X hr S (Nat.le_of_ble_eq_true rfl) (Nat.le_of_ble_eq_true rfl) dL_whyNot_26 ?_)
      rw [hkc]
      exact ⟨rfl, hR0, ⟨wo, ho, fun z => absurd z (by decide)⟩, md_rf _ _⟩
    · exact nomatch (show (none : Option String) = some E from hi)
  · obtain ⟨hk, hrr, hRR, hmm⟩ := hr_11
    have ho_11 := hmm _ _ _ ho (by unfold tX; omega)
    refine lv_i2l (v := r_11.toInt64) X.1 X.2.1 dL_whyNot_14 rfl ?_
    refine r_last X S ho_11 (by decide) (pk_in 0 1 (by omega)) dL_whyNot_15 (fun H locs S => ?_)
    rw [(show (0 : Int32).toNatClampNeg = 0 from rfl)] at S
    obtain ⟨f_15, ef_15⟩ : ∃ z9 : Wd, z9 = wu f_11 ou 2000 (eJ G 1 (vp_updL wo 0 r_11.toInt64)) := ⟨_, rfl⟩
    rw [← ef_15] at S
    have ho_15 : f_15 ou = some (2000, eJ G 1 (vp_updL wo 0 r_11.toInt64)) := by rw [ef_15]; exact wu_self _ _ _ _
    refine lv_goto (tgt := 27) X.1 X.2.1 dL_whyNot_16 (by decide) ?_
    refine lv_iconst (v := 0) X.1 X.2.1 dL_whyNot_27 (by decide) ?_
    refine vx_ret (e_i X hr S (Nat.le_of_ble_eq_true rfl) (Nat.le_of_ble_eq_true rfl) dL_whyNot_28 ?_)
    have hI1 := sInv_le (j_whyNot st hI c a b p q hk)
    rw [hk]
    exact ⟨rfl, hRR.kept (by rw [ef_15]; exact md_mono (md_put ho_11) (fun t q => by unfold tX; omega)) hI1, ⟨_, ho_15, fun _ => by rw [pk_uLs]; rw [hrr]⟩, md_tr hmm (by rw [ef_15]; exact md_put ho_11) (fun t q => Or.inl q) (fun t q => Or.inr q)⟩

set_option maxRecDepth 100000 in
set_option maxHeartbeats 4000000 in
/-- calls about -/
theorem h_about (l : Launch) (hst : l.stackTraces = false) (G : cx_G) (f : Wd) (st : St) (x : Nat) (hI : sInv st) (hR0 : RX G f st x) (c : Int32) (v : Int32) (ou : Nat) (wo : Nat → Int64) (ho : f ou = some (2000, eJ G 1 wo)) : XI l G yL_about wsL_about 8 138 2 12 [.ref x, .int c, .int v, .ref ou] f (fun r f' => r = nI (k2 (inI c 0 ((st 0 0 : Int) - 1)) (inI v 0 3)) ∧ RX G f' (stp (k2 (inI c 0 ((st 0 0 : Int) - 1)) (inI v 0 3)) st st) x ∧ (∃ wo2 : Nat → Int64, f' ou = some (2000, eJ G 1 wo2) ∧ ((k2 (inI c 0 ((st 0 0 : Int) - 1)) (inI v 0 3)) = 0 → wo2 0 = (nI (aboutN st (nN c) (nN v))).toInt64)) ∧ md (fun t => tX t ∨ t = 2000) f f') (fun _ => False) := by
  refine vxh_body (cc := cL_about) (n := 5) (ret := (some .int)) (by decide +kernel) rfl (Nat.le_of_ble_eq_true rfl) ?_
  intro p0 e0 s0 m0 b0 meth0 c0 ls X hr hnm hout S hl
  have X : cxC G p0 l _ c0 cL_about 5 m0 meth0 s0 _ RL wsL_about := X
  have hl : lv_has ls 5 [(0, .ref x), (1, .int c), (2, .int v), (3, .ref ou)] := hl
  obtain ⟨gr9, rw9, L91, L92, L93, cu9, L94, g91, g92, g93, g94, w9, hR9⟩ := id hR0
  have hx := hR9.1
  refine lv_aload_n X.1 X.2.1 dL_about_0 rfl (lv_at hl 3 rfl) ?_
  refine lv_iconst (v := 0) X.1 X.2.1 dL_about_1 (by decide) ?_
  refine lv_aload_n X.1 X.2.1 dL_about_2 rfl (lv_at hl 0 rfl) ?_
  refine lv_iload_n X.1 X.2.1 dL_about_3 rfl (lv_at hl 1 rfl) ?_
  refine lv_iload_n X.1 X.2.1 dL_about_4 rfl (lv_at hl 2 rfl) ?_
  refine xcall_it (xrun_V X S (c_about l hst G f st x hI hR0 c v) 2 gL_about_X9_about rfl rfl rfl (by decide +kernel) ⟨(by exact Nat.le_of_ble_eq_true rfl), (by exact Nat.le_of_ble_eq_true rfl)⟩ ⟨_, _, hx⟩ rfl rfl rfl hl.1 rfl (by exact Nat.le_of_ble_eq_true rfl) dL_about_5 ⟨(by exact Nat.le_of_ble_eq_true rfl), (by exact Nat.le_of_ble_eq_true rfl)⟩) S (fun E H locs qx ce hE S hce hcv hcl => ?_) (fun r_5 f_5 H locs hr_5 S => ?_)
  · obtain ⟨i, hi, hkc⟩ := hE
    rcases i with _ | _ | i
    · obtain rfl := Option.some.inj (show some "java/lang/IndexOutOfBoundsException" = some E from hi)
      have hkc : (k2 (inI c 0 ((st 0 0 : Int) - 1)) (inI v 0 3)) = 1 := hkc
      refine r_catch X hout [] ⟨0, 10, 13, 13⟩ [⟨0, 10, 17, 15⟩] rfl (fun z hz => nomatch hz) rfl (by decide) (by decide +kernel) (by decide +kernel) (pc2 := 13) rfl hce hcv hcl ?_
      refine lv_astore (lv' := [(4, .ref qx), (0, .ref x), (1, .int c), (2, .int v), (3, .ref ou)]) X.1 X.2.1 dL_about_13 hl (by decide) rfl (fun ls hl => ?_)
      refine lv_iconst (v := 1) X.1 X.2.1 dL_about_15 (by decide) ?_
      refine vx_ret (e_i X hr S (Nat.le_of_ble_eq_true rfl) (Nat.le_of_ble_eq_true rfl) dL_about_16 ?_)
      rw [hkc]
      exact ⟨rfl, hR0, ⟨wo, ho, fun z => absurd z (by decide)⟩, md_rf _ _⟩
    · obtain rfl := Option.some.inj (show some "java/lang/IllegalArgumentException" = some E from hi)
      have hkc : (k2 (inI c 0 ((st 0 0 : Int) - 1)) (inI v 0 3)) = 2 := hkc
      refine r_catch X hout [⟨0, 10, 13, 13⟩] ⟨0, 10, 17, 15⟩ [] rfl (fun z hz => by rcases List.mem_cons.mp hz with rfl | hz; exact ⟨by decide, "java/lang/IndexOutOfBoundsException", by decide +kernel, by decide +kernel⟩; exact nomatch hz) rfl (by decide) (by decide +kernel) (by decide +kernel) (pc2 := 17) rfl hce hcv hcl ?_
      refine lv_astore (lv' := [(4, .ref qx), (0, .ref x), (1, .int c), (2, .int v), (3, .ref ou)]) X.1 X.2.1 dL_about_17 hl (by decide) rfl (fun ls hl => ?_)
      refine lv_iconst (v := 2) X.1 X.2.1 dL_about_19 (by decide) ?_
      refine vx_ret (e_i X hr S (Nat.le_of_ble_eq_true rfl) (Nat.le_of_ble_eq_true rfl) dL_about_20 ?_)
      rw [hkc]
      exact ⟨rfl, hR0, ⟨wo, ho, fun z => absurd z (by decide)⟩, md_rf _ _⟩
    · exact nomatch (show (none : Option String) = some E from hi)
  · obtain ⟨hk, hrr, hRR, hmm⟩ := hr_5
    have ho_5 := hmm _ _ _ ho (by unfold tX; omega)
    refine lv_i2l (v := r_5.toInt64) X.1 X.2.1 dL_about_8 rfl ?_
    refine r_last X S ho_5 (by decide) (pk_in 0 1 (by omega)) dL_about_9 (fun H locs S => ?_)
    rw [(show (0 : Int32).toNatClampNeg = 0 from rfl)] at S
    obtain ⟨f_9, ef_9⟩ : ∃ z9 : Wd, z9 = wu f_5 ou 2000 (eJ G 1 (vp_updL wo 0 r_5.toInt64)) := ⟨_, rfl⟩
    rw [← ef_9] at S
    have ho_9 : f_9 ou = some (2000, eJ G 1 (vp_updL wo 0 r_5.toInt64)) := by rw [ef_9]; exact wu_self _ _ _ _
    refine lv_goto (tgt := 21) X.1 X.2.1 dL_about_10 (by decide) ?_
    refine lv_iconst (v := 0) X.1 X.2.1 dL_about_21 (by decide) ?_
    refine vx_ret (e_i X hr S (Nat.le_of_ble_eq_true rfl) (Nat.le_of_ble_eq_true rfl) dL_about_22 ?_)
    have hI1 := sInv_le (j_about st hI c v hk)
    rw [hk]
    exact ⟨rfl, hRR.kept (by rw [ef_9]; exact md_mono (md_put ho_5) (fun t q => by unfold tX; omega)) hI1, ⟨_, ho_9, fun _ => by rw [pk_uLs]; rw [hrr]⟩, md_tr hmm (by rw [ef_9]; exact md_put ho_5) (fun t q => Or.inl q) (fun t q => Or.inr q)⟩

set_option maxRecDepth 100000 in
set_option maxHeartbeats 4000000 in
/-- calls depthAnew -/
theorem h_depthAnew (l : Launch) (hst : l.stackTraces = false) (G : cx_G) (f : Wd) (st : St) (x : Nat) (hI : sInv st) (hR0 : RX G f st x) (c : Int32) (ou : Nat) (wo : Nat → Int64) (ho : f ou = some (2000, eJ G 1 wo)) : XI l G yL_depthAnew wsL_depthAnew 8 132 1 6 [.ref x, .int c, .ref ou] f (fun r f' => r = nI (k1 (inI c 0 ((st 0 0 : Int) - 1))) ∧ RX G f' (stp (k1 (inI c 0 ((st 0 0 : Int) - 1))) st st) x ∧ (∃ wo2 : Nat → Int64, f' ou = some (2000, eJ G 1 wo2) ∧ ((k1 (inI c 0 ((st 0 0 : Int) - 1))) = 0 → wo2 0 = (nI (st 7 (nN c))).toInt64)) ∧ md (fun t => tX t ∨ t = 2000) f f') (fun _ => False) := by
  refine vxh_body (cc := cL_depthAnew) (n := 4) (ret := (some .int)) (by decide +kernel) rfl (Nat.le_of_ble_eq_true rfl) ?_
  intro p0 e0 s0 m0 b0 meth0 c0 ls X hr hnm hout S hl
  have X : cxC G p0 l _ c0 cL_depthAnew 4 m0 meth0 s0 _ RL wsL_depthAnew := X
  have hl : lv_has ls 4 [(0, .ref x), (1, .int c), (2, .ref ou)] := hl
  obtain ⟨gr9, rw9, L91, L92, L93, cu9, L94, g91, g92, g93, g94, w9, hR9⟩ := id hR0
  have hx := hR9.1
  refine lv_aload_n X.1 X.2.1 dL_depthAnew_0 rfl (lv_at hl 2 rfl) ?_
  refine lv_iconst (v := 0) X.1 X.2.1 dL_depthAnew_1 (by decide) ?_
  refine lv_aload_n X.1 X.2.1 dL_depthAnew_2 rfl (lv_at hl 0 rfl) ?_
  refine lv_iload_n X.1 X.2.1 dL_depthAnew_3 rfl (lv_at hl 1 rfl) ?_
  refine xcall_it (xrun_V X S (c_depthAnew l hst G f st x hI hR0 c) 1 gL_depthAnew_X9_depthAnew rfl rfl rfl (by decide +kernel) ⟨(by exact Nat.le_of_ble_eq_true rfl), (by exact Nat.le_of_ble_eq_true rfl)⟩ ⟨_, _, hx⟩ rfl rfl rfl hl.1 rfl (by exact Nat.le_of_ble_eq_true rfl) dL_depthAnew_4 ⟨(by exact Nat.le_of_ble_eq_true rfl), (by exact Nat.le_of_ble_eq_true rfl)⟩) S (fun E H locs qx ce hE S hce hcv hcl => ?_) (fun r_4 f_4 H locs hr_4 S => ?_)
  · obtain ⟨i, hi, hkc⟩ := hE
    rcases i with _ | i
    · obtain rfl := Option.some.inj (show some "java/lang/IndexOutOfBoundsException" = some E from hi)
      have hkc : (k1 (inI c 0 ((st 0 0 : Int) - 1))) = 1 := hkc
      refine r_catch X hout [] ⟨0, 9, 12, 13⟩ [] rfl (fun z hz => nomatch hz) rfl (by decide) (by decide +kernel) (by decide +kernel) (pc2 := 12) rfl hce hcv hcl ?_
      refine lv_astore_n (lv' := [(3, .ref qx), (0, .ref x), (1, .int c), (2, .ref ou)]) X.1 X.2.1 dL_depthAnew_12 rfl hl (by decide) rfl (fun ls hl => ?_)
      refine lv_iconst (v := 1) X.1 X.2.1 dL_depthAnew_13 (by decide) ?_
      refine vx_ret (e_i X hr S (Nat.le_of_ble_eq_true rfl) (Nat.le_of_ble_eq_true rfl) dL_depthAnew_14 ?_)
      rw [hkc]
      exact ⟨rfl, hR0, ⟨wo, ho, fun z => absurd z (by decide)⟩, md_rf _ _⟩
    · exact nomatch (show (none : Option String) = some E from hi)
  · obtain ⟨hk, hrr, hRR, hmm⟩ := hr_4
    have ho_4 := hmm _ _ _ ho (by unfold tX; omega)
    refine lv_i2l (v := r_4.toInt64) X.1 X.2.1 dL_depthAnew_7 rfl ?_
    refine r_last X S ho_4 (by decide) (pk_in 0 1 (by omega)) dL_depthAnew_8 (fun H locs S => ?_)
    rw [(show (0 : Int32).toNatClampNeg = 0 from rfl)] at S
    obtain ⟨f_8, ef_8⟩ : ∃ z9 : Wd, z9 = wu f_4 ou 2000 (eJ G 1 (vp_updL wo 0 r_4.toInt64)) := ⟨_, rfl⟩
    rw [← ef_8] at S
    have ho_8 : f_8 ou = some (2000, eJ G 1 (vp_updL wo 0 r_4.toInt64)) := by rw [ef_8]; exact wu_self _ _ _ _
    refine lv_goto (tgt := 15) X.1 X.2.1 dL_depthAnew_9 (by decide) ?_
    refine lv_iconst (v := 0) X.1 X.2.1 dL_depthAnew_15 (by decide) ?_
    refine vx_ret (e_i X hr S (Nat.le_of_ble_eq_true rfl) (Nat.le_of_ble_eq_true rfl) dL_depthAnew_16 ?_)
    have hI1 := sInv_le (j_depthAnew st hI c hk)
    rw [hk]
    exact ⟨rfl, hRR.kept (by rw [ef_8]; exact md_mono (md_put ho_4) (fun t q => by unfold tX; omega)) hI1, ⟨_, ho_8, fun _ => by rw [pk_uLs]; rw [hrr]⟩, md_tr hmm (by rw [ef_8]; exact md_put ho_4) (fun t q => Or.inl q) (fun t q => Or.inr q)⟩

set_option maxRecDepth 100000 in
set_option maxHeartbeats 4000000 in
/-- calls top -/
theorem h_top (l : Launch) (hst : l.stackTraces = false) (G : cx_G) (f : Wd) (st : St) (x : Nat) (hI : sInv st) (hR0 : RX G f st x) (a : Int32) (b : Int32) (ou : Nat) (wo : Nat → Int64) (ho : f ou = some (2000, eJ G 1 wo)) : XI l G yL_top wsL_top 8 135 1 6 [.ref x, .int a, .int b, .ref ou] f (fun r f' => r = nI (k1 (cellP a b)) ∧ RX G f' (stp (k1 (cellP a b)) st st) x ∧ (∃ wo2 : Nat → Int64, f' ou = some (2000, eJ G 1 wo2) ∧ ((k1 (cellP a b)) = 0 → wo2 0 = (tpI (topP st (nN a) (nN b)) (st 0 0)).toInt64)) ∧ md (fun t => tX t ∨ t = 2000) f f') (fun _ => False) := by
  refine vxh_body (cc := cL_top) (n := 5) (ret := (some .int)) (by decide +kernel) rfl (Nat.le_of_ble_eq_true rfl) ?_
  intro p0 e0 s0 m0 b0 meth0 c0 ls X hr hnm hout S hl
  have X : cxC G p0 l _ c0 cL_top 5 m0 meth0 s0 _ RL wsL_top := X
  have hl : lv_has ls 5 [(0, .ref x), (1, .int a), (2, .int b), (3, .ref ou)] := hl
  obtain ⟨gr9, rw9, L91, L92, L93, cu9, L94, g91, g92, g93, g94, w9, hR9⟩ := id hR0
  have hx := hR9.1
  refine lv_aload_n X.1 X.2.1 dL_top_0 rfl (lv_at hl 3 rfl) ?_
  refine lv_iconst (v := 0) X.1 X.2.1 dL_top_1 (by decide) ?_
  refine lv_aload_n X.1 X.2.1 dL_top_2 rfl (lv_at hl 0 rfl) ?_
  refine lv_iload_n X.1 X.2.1 dL_top_3 rfl (lv_at hl 1 rfl) ?_
  refine lv_iload_n X.1 X.2.1 dL_top_4 rfl (lv_at hl 2 rfl) ?_
  refine xcall_it (xrun_V X S (c_top l hst G f st x hI hR0 a b) 2 gL_top_X9_top rfl rfl rfl (by decide +kernel) ⟨(by exact Nat.le_of_ble_eq_true rfl), (by exact Nat.le_of_ble_eq_true rfl)⟩ ⟨_, _, hx⟩ rfl rfl rfl hl.1 rfl (by exact Nat.le_of_ble_eq_true rfl) dL_top_5 ⟨(by exact Nat.le_of_ble_eq_true rfl), (by exact Nat.le_of_ble_eq_true rfl)⟩) S (fun E H locs qx ce hE S hce hcv hcl => ?_) (fun r_5 f_5 H locs hr_5 S => ?_)
  · obtain ⟨i, hi, hkc⟩ := hE
    rcases i with _ | i
    · obtain rfl := Option.some.inj (show some "java/lang/IndexOutOfBoundsException" = some E from hi)
      have hkc : (k1 (cellP a b)) = 1 := hkc
      refine r_catch X hout [] ⟨0, 10, 13, 13⟩ [] rfl (fun z hz => nomatch hz) rfl (by decide) (by decide +kernel) (by decide +kernel) (pc2 := 13) rfl hce hcv hcl ?_
      refine lv_astore (lv' := [(4, .ref qx), (0, .ref x), (1, .int a), (2, .int b), (3, .ref ou)]) X.1 X.2.1 dL_top_13 hl (by decide) rfl (fun ls hl => ?_)
      refine lv_iconst (v := 1) X.1 X.2.1 dL_top_15 (by decide) ?_
      refine vx_ret (e_i X hr S (Nat.le_of_ble_eq_true rfl) (Nat.le_of_ble_eq_true rfl) dL_top_16 ?_)
      rw [hkc]
      exact ⟨rfl, hR0, ⟨wo, ho, fun z => absurd z (by decide)⟩, md_rf _ _⟩
    · exact nomatch (show (none : Option String) = some E from hi)
  · obtain ⟨hk, hrr, hRR, hmm⟩ := hr_5
    have ho_5 := hmm _ _ _ ho (by unfold tX; omega)
    refine lv_i2l (v := r_5.toInt64) X.1 X.2.1 dL_top_8 rfl ?_
    refine r_last X S ho_5 (by decide) (pk_in 0 1 (by omega)) dL_top_9 (fun H locs S => ?_)
    rw [(show (0 : Int32).toNatClampNeg = 0 from rfl)] at S
    obtain ⟨f_9, ef_9⟩ : ∃ z9 : Wd, z9 = wu f_5 ou 2000 (eJ G 1 (vp_updL wo 0 r_5.toInt64)) := ⟨_, rfl⟩
    rw [← ef_9] at S
    have ho_9 : f_9 ou = some (2000, eJ G 1 (vp_updL wo 0 r_5.toInt64)) := by rw [ef_9]; exact wu_self _ _ _ _
    refine lv_goto (tgt := 17) X.1 X.2.1 dL_top_10 (by decide) ?_
    refine lv_iconst (v := 0) X.1 X.2.1 dL_top_17 (by decide) ?_
    refine vx_ret (e_i X hr S (Nat.le_of_ble_eq_true rfl) (Nat.le_of_ble_eq_true rfl) dL_top_18 ?_)
    have hI1 := sInv_le (j_top st hI a b hk)
    rw [hk]
    exact ⟨rfl, hRR.kept (by rw [ef_9]; exact md_mono (md_put ho_5) (fun t q => by unfold tX; omega)) hI1, ⟨_, ho_9, fun _ => by rw [pk_uLs]; rw [hrr]⟩, md_tr hmm (by rw [ef_9]; exact md_put ho_5) (fun t q => Or.inl q) (fun t q => Or.inr q)⟩

set_option maxRecDepth 100000 in
set_option maxHeartbeats 4000000 in
/-- calls topAnew -/
theorem h_topAnew (l : Launch) (hst : l.stackTraces = false) (G : cx_G) (f : Wd) (st : St) (x : Nat) (hI : sInv st) (hR0 : RX G f st x) (a : Int32) (b : Int32) (ou : Nat) (wo : Nat → Int64) (ho : f ou = some (2000, eJ G 1 wo)) : XI l G yL_topAnew wsL_topAnew 8 134 1 6 [.ref x, .int a, .int b, .ref ou] f (fun r f' => r = nI (k1 (cellP a b)) ∧ RX G f' (stp (k1 (cellP a b)) st st) x ∧ (∃ wo2 : Nat → Int64, f' ou = some (2000, eJ G 1 wo2) ∧ ((k1 (cellP a b)) = 0 → wo2 0 = (tpI (topP st (nN a) (nN b)) (st 0 0)).toInt64)) ∧ md (fun t => tX t ∨ t = 2000) f f') (fun _ => False) := by
  refine vxh_body (cc := cL_topAnew) (n := 5) (ret := (some .int)) (by decide +kernel) rfl (Nat.le_of_ble_eq_true rfl) ?_
  intro p0 e0 s0 m0 b0 meth0 c0 ls X hr hnm hout S hl
  have X : cxC G p0 l _ c0 cL_topAnew 5 m0 meth0 s0 _ RL wsL_topAnew := X
  have hl : lv_has ls 5 [(0, .ref x), (1, .int a), (2, .int b), (3, .ref ou)] := hl
  obtain ⟨gr9, rw9, L91, L92, L93, cu9, L94, g91, g92, g93, g94, w9, hR9⟩ := id hR0
  have hx := hR9.1
  refine lv_aload_n X.1 X.2.1 dL_topAnew_0 rfl (lv_at hl 3 rfl) ?_
  refine lv_iconst (v := 0) X.1 X.2.1 dL_topAnew_1 (by decide) ?_
  refine lv_aload_n X.1 X.2.1 dL_topAnew_2 rfl (lv_at hl 0 rfl) ?_
  refine lv_iload_n X.1 X.2.1 dL_topAnew_3 rfl (lv_at hl 1 rfl) ?_
  refine lv_iload_n X.1 X.2.1 dL_topAnew_4 rfl (lv_at hl 2 rfl) ?_
  refine xcall_it (xrun_V X S (c_topAnew l hst G f st x hI hR0 a b) 2 gL_topAnew_X9_topAnew rfl rfl rfl (by decide +kernel) ⟨(by exact Nat.le_of_ble_eq_true rfl), (by exact Nat.le_of_ble_eq_true rfl)⟩ ⟨_, _, hx⟩ rfl rfl rfl hl.1 rfl (by exact Nat.le_of_ble_eq_true rfl) dL_topAnew_5 ⟨(by exact Nat.le_of_ble_eq_true rfl), (by exact Nat.le_of_ble_eq_true rfl)⟩) S (fun E H locs qx ce hE S hce hcv hcl => ?_) (fun r_5 f_5 H locs hr_5 S => ?_)
  · obtain ⟨i, hi, hkc⟩ := hE
    rcases i with _ | i
    · obtain rfl := Option.some.inj (show some "java/lang/IndexOutOfBoundsException" = some E from hi)
      have hkc : (k1 (cellP a b)) = 1 := hkc
      refine r_catch X hout [] ⟨0, 10, 13, 13⟩ [] rfl (fun z hz => nomatch hz) rfl (by decide) (by decide +kernel) (by decide +kernel) (pc2 := 13) rfl hce hcv hcl ?_
      refine lv_astore (lv' := [(4, .ref qx), (0, .ref x), (1, .int a), (2, .int b), (3, .ref ou)]) X.1 X.2.1 dL_topAnew_13 hl (by decide) rfl (fun ls hl => ?_)
      refine lv_iconst (v := 1) X.1 X.2.1 dL_topAnew_15 (by decide) ?_
      refine vx_ret (e_i X hr S (Nat.le_of_ble_eq_true rfl) (Nat.le_of_ble_eq_true rfl) dL_topAnew_16 ?_)
      rw [hkc]
      exact ⟨rfl, hR0, ⟨wo, ho, fun z => absurd z (by decide)⟩, md_rf _ _⟩
    · exact nomatch (show (none : Option String) = some E from hi)
  · obtain ⟨hk, hrr, hRR, hmm⟩ := hr_5
    have ho_5 := hmm _ _ _ ho (by unfold tX; omega)
    refine lv_i2l (v := r_5.toInt64) X.1 X.2.1 dL_topAnew_8 rfl ?_
    refine r_last X S ho_5 (by decide) (pk_in 0 1 (by omega)) dL_topAnew_9 (fun H locs S => ?_)
    rw [(show (0 : Int32).toNatClampNeg = 0 from rfl)] at S
    obtain ⟨f_9, ef_9⟩ : ∃ z9 : Wd, z9 = wu f_5 ou 2000 (eJ G 1 (vp_updL wo 0 r_5.toInt64)) := ⟨_, rfl⟩
    rw [← ef_9] at S
    have ho_9 : f_9 ou = some (2000, eJ G 1 (vp_updL wo 0 r_5.toInt64)) := by rw [ef_9]; exact wu_self _ _ _ _
    refine lv_goto (tgt := 17) X.1 X.2.1 dL_topAnew_10 (by decide) ?_
    refine lv_iconst (v := 0) X.1 X.2.1 dL_topAnew_17 (by decide) ?_
    refine vx_ret (e_i X hr S (Nat.le_of_ble_eq_true rfl) (Nat.le_of_ble_eq_true rfl) dL_topAnew_18 ?_)
    have hI1 := sInv_le (j_topAnew st hI a b hk)
    rw [hk]
    exact ⟨rfl, hRR.kept (by rw [ef_9]; exact md_mono (md_put ho_5) (fun t q => by unfold tX; omega)) hI1, ⟨_, ho_9, fun _ => by rw [pk_uLs]; rw [hrr]⟩, md_tr hmm (by rw [ef_9]; exact md_put ho_5) (fun t q => Or.inl q) (fun t q => Or.inr q)⟩
