/-! the law: a call of each kind -/
theorem lgz (a : Int64) : lg_cmp a a = 0 := by
  have h1 : lg_cmp a a ≤ 0 := (lg_cmp_le a a).mpr (Int64.le_refl a)
  have h2 : ¬ lg_cmp a a < 0 := fun h => Int64.lt_irrefl ((lg_cmp_lt a a).mp h)
  rw [i_le] at h1
  rw [i_lt] at h2
  refine Int32.toInt_inj.mp ?_
  omega
theorem kk1_z {A : Prop} (c : nI (k1 A) = 0) : k1 A = 0 := (nI_eq (b := 0) (by have := kk1_le A; omega) (by omega)).mp c
theorem kk2_z {A B : Prop} (c : nI (k2 A B) = 0) : k2 A B = 0 := (nI_eq (b := 0) (by have := kk2_le A B; omega) (by omega)).mp c
theorem kk3_z {A B C : Prop} (c : nI (k3 A B C) = 0) : k3 A B C = 0 := (nI_eq (b := 0) (by have := kk3_le A B C; omega) (by omega)).mp c
theorem RM.kept2 {G : cx_G} {f f' : Wd} {st : St} {m : Nat} {thr : Int32} {T : Nat → Prop} (h : RM G f st m thr) (hm : md T f f') (hT : ∀ t, T t → t < 1000 ∨ 2000 ≤ t) : RM G f' st m thr := by
  obtain ⟨A, V, VL, h0, ⟨h1, h2, h3, h4, h5, h6, h7, h8⟩, h9⟩ := h
  have k : ∀ (b t : Nat) (e : va_E), f b = some (t, e) → 1000 ≤ t → t < 2000 → f' b = some (t, e) := fun b t e hb ht ht2 => hm b t e hb (fun q => by have := hT t q; omega)
  exact ⟨A, V, VL, k _ _ _ h0 (by omega) (by omega), ⟨k _ _ _ h1 (by omega) (by omega), k _ _ _ h2 (by omega) (by omega), k _ _ _ h3 (by omega) (by omega), k _ _ _ h4 (by omega) (by omega), k _ _ _ h5 (by omega) (by omega), k _ _ _ h6 (by omega) (by omega), k _ _ _ h7 (by omega) (by omega), k _ _ _ h8 (by omega) (by omega)⟩, h9⟩
section CXW
variable {G : cx_G} {p : Program} {l : Launch} {e : Env} {R : Room} {s : State} {m : MethodId} {args : Array Value} {below : List Frame} {meth : Method} {c : Code} {H : Heap} {locs : List Loc} {cells slots : Nat} {Q : State → Prop}
variable {cc : ByteArray} {nL : Nat} {own : String} {Ts : List Cond} {pc : Nat} {ls : Array Slot} {rest st : List Value} {f : Wd} {Qc : Array Value → State → Outcome → State → Prop}
variable {y : MethodName} {bytes : ByteArray} {maxL n index mc ms : Nat} {ret : Option FieldType} {ws ws' : List Cond} {rm : Room} {As : List Value} {b : Nat} {Xc : String → State → State → Prop}
theorem xrun_SX {hh : List (Nat × Nat × Nat × Nat)} (X : cxC G p l R c cc nL m meth s args own Ts) (S : cxS G s f H locs) (hM : vx_Met l y ws rm (va_Pc As (Pin G f)) Qc Xc mc ms (gA G)) (n : Nat) (hg : GoodIn Ts (va_wsS own index y ws)) (hw : ws = Cond.codeWith y bytes maxL ret hh :: ws') (hrc : rm.cells = mc) (hrs : rm.slots = ms)
    (hd : y.cls ≠ "java/lang/invoke/MethodHandle" ∧ y.cls ≠ "java/lang/invoke/VarHandle" ∧ (parseMethodDescriptor y.desc).map (fun d => d.parameters.length) = some n) (hR : rm.frames + 1 ≤ R.frames ∧ 8 + (maxL + 11) + rm.locals ≤ R.locals)
    (hn : As.length = n) (hls : ls.size = nL) (hst : st = As.reverse ++ rest) (hW : (rest.map fun v => v.category).sum ≤ 8) (hdg : decode cc pc = .ok (.invokestatic index, 3)) (hf : cells + mc ≤ R.cells ∧ slots + ms ≤ R.slots) :
    vx_Run p l e R s m args below meth c H locs cells slots mc ms (F0 m pc ls st) rest (Qc As.toArray) Xc (gA G) :=
  vx_runSX (As := As) ⟨X.1, X.2.1, X.2.2.1, X.2.2.2.1, X.2.2.2.2.1⟩ hM (vx_cwSW n X.2.2.2.2.1 hg hw hrc hrs hd hR) ⟨Pin.blind, fun U hU hW => ⟨rfl, by rw [hU]; exact S.1, gk.warm hW X.2.2.2.2.2.1⟩⟩ rfl hn hls hst (lv_room (pc := pc) (ls := ls) (rest := st) hW) hdg hf
theorem r_sld (X : cxC G p l R c cc nL m meth s args own Ts) (S : cxS G s f H locs) {L : Nat} {xs : Nat → Int32} (hX : va_X b L xs s s.heap) (hbl : b < s.heap.size) (hbA : ¬ gA G b) {i v : Int32} (hin : vp_in i L) (hv : xs i.toNatClampNeg = v) (hdg : decode cc pc = .ok (.iaload, 1))
    (kk : W p l e R s m args below meth c H locs cells slots Q (F0 m (pc + 1) ls (.int v :: rest))) : W p l e R s m args below meth c H locs cells slots Q (F0 m pc ls (.int i :: .ref b :: rest)) := by
  subst hv
  exact va_sld X.1 X.2.1 hX hbl hbA S.2 hin hdg kk
end CXW
theorem ageR_u {st : St} {d : Nat} {u v : Int64} (h1 : ageR st d u) (h2 : ageR st d v) : u = v := by
  obtain ⟨k, a1, a2, a3, a4⟩ := h1
  obtain ⟨j, b1, b2, b3, b4⟩ := h2
  have hkj : k = j := by
    rcases Nat.lt_trichotomy k j with q | q | q
    · have := b3 k q; omega
    · exact q
    · have := a3 j q; omega
  rw [a4, b4, hkj]
set_option maxRecDepth 100000 in
set_option maxHeartbeats 4000000 in
/-- the law at ground -/
theorem law_ground {p0 : Program} {l : Launch} {e0 : Env} {s0 : State} {m0 : MethodId} {b0 : List Frame} {meth0 : Method} {c0 : Code} {Q9 : State → Prop} (hst : l.stackTraces = false) {G : cx_G} {b L : Nat} {xs : Nat → Int32} (hX : va_X b L xs s0 s0.heap) (hbl : b < s0.heap.size) (hbA : ¬ gA G b) (hL : L ≤ 3584) (X : cxC G p0 l room_1 c0 cL_law 8 m0 meth0 s0 #[Value.ref b] RL wsL_law) (i : Nat) (hi : 7 * i + 7 ≤ L) (st : St) (f : Wd) (x y ou : Nat) (wo : Nat → Int64) (thr : Int32) (hI : sInv st) (hR0 : RX G f st x) (hM0 : RM G f st y thr) (ho : f ou = some (2000, eJ G 1 wo)) (H : Heap) (locs : List Loc) (ls : Array Slot) (S : cxS G s0 f H locs) (hl : lv_has ls 8 [(0, .ref b), (1, .ref x), (2, .ref y), (3, .ref ou), (4, .int (nI (7 * i)))]) (ck sk : Nat) (hck : ck ≤ 590000) (hsk : sk ≤ 7200000) (kk : ∀ (st2 : St) (f2 : Wd) (H : Heap) (locs : List Loc) (ls : Array Slot) (ck2 sk2 : Nat), sInv st2 → RX G f2 st2 x → (∃ t2 : Int32, RM G f2 st2 y t2) → (∃ w2 : Nat → Int64, f2 ou = some (2000, eJ G 1 w2)) → ck2 ≤ ck + 62 → sk2 ≤ sk + 9192 → cxS G s0 f2 H locs → lv_has ls 8 [(0, .ref b), (1, .ref x), (2, .ref y), (3, .ref ou), (4, .int (nI (7 * i)))] → W p0 l e0 room_1 s0 m0 #[Value.ref b] b0 meth0 c0 H locs ck2 sk2 Q9 (F0 m0 1338 ls [])) : W p0 l e0 room_1 s0 m0 #[Value.ref b] b0 meth0 c0 H locs ck sk Q9 (F0 m0 120 ls []) := by
  obtain ⟨gr9, rw9, L91, L92, L93, cu9, L94, g91, g92, g93, g94, w9, hR9⟩ := id hR0
  have hx := hR9.1
  obtain ⟨t1, ht1⟩ : ∃ z9 : Int32, z9 = xs (7 * i + 1) := ⟨_, rfl⟩
  obtain ⟨t2, ht2⟩ : ∃ z9 : Int32, z9 = xs (7 * i + 2) := ⟨_, rfl⟩
  obtain ⟨t3, ht3⟩ : ∃ z9 : Int32, z9 = xs (7 * i + 3) := ⟨_, rfl⟩
  obtain ⟨t4, ht4⟩ : ∃ z9 : Int32, z9 = xs (7 * i + 4) := ⟨_, rfl⟩
  obtain ⟨t5, ht5⟩ : ∃ z9 : Int32, z9 = xs (7 * i + 5) := ⟨_, rfl⟩
  obtain ⟨t6, ht6⟩ : ∃ z9 : Int32, z9 = xs (7 * i + 6) := ⟨_, rfl⟩
  refine lv_aload_n X.1 X.2.1 dL_law_120 rfl (lv_at hl 1 rfl) ?_
  refine lv_aload_n X.1 X.2.1 dL_law_121 rfl (lv_at hl 0 rfl) ?_
  refine lv_iload X.1 X.2.1 dL_law_122 (lv_at hl 4 rfl) ?_
  refine lv_iconst (v := 1) X.1 X.2.1 dL_law_124 (by decide) ?_
  refine lv_iadd X.1 X.2.1 dL_law_125 ?_
  refine r_toi (nI_add (7 * i) 1) ?_
  refine r_sld X S hX hbl hbA (v := t1) (vp_in_nI (show 7 * i + 1 < L by omega) (by omega)) (by rw [nI_clamp (by omega)]; exact ht1.symm) dL_law_126 ?_
  refine lv_aload_n X.1 X.2.1 dL_law_127 rfl (lv_at hl 0 rfl) ?_
  refine lv_iload X.1 X.2.1 dL_law_128 (lv_at hl 4 rfl) ?_
  refine lv_iconst (v := 2) X.1 X.2.1 dL_law_130 (by decide) ?_
  refine lv_iadd X.1 X.2.1 dL_law_131 ?_
  refine r_toi (nI_add (7 * i) 2) ?_
  refine r_sld X S hX hbl hbA (v := t2) (vp_in_nI (show 7 * i + 2 < L by omega) (by omega)) (by rw [nI_clamp (by omega)]; exact ht2.symm) dL_law_132 ?_
  refine lv_aload_n X.1 X.2.1 dL_law_133 rfl (lv_at hl 0 rfl) ?_
  refine lv_iload X.1 X.2.1 dL_law_134 (lv_at hl 4 rfl) ?_
  refine lv_iconst (v := 3) X.1 X.2.1 dL_law_136 (by decide) ?_
  refine lv_iadd X.1 X.2.1 dL_law_137 ?_
  refine r_toi (nI_add (7 * i) 3) ?_
  refine r_sld X S hX hbl hbA (v := t3) (vp_in_nI (show 7 * i + 3 < L by omega) (by omega)) (by rw [nI_clamp (by omega)]; exact ht3.symm) dL_law_138 ?_
  refine lv_aload_n X.1 X.2.1 dL_law_139 rfl (lv_at hl 3 rfl) ?_
  refine xcall_it (xrun_SX X S (h_ground l hst G f st x hI hR0 t1 t2 t3 ou wo ho) 5 gL_law_L_ground rfl rfl rfl (by decide +kernel) ⟨(by exact Nat.le_of_ble_eq_true rfl), (by exact Nat.le_of_ble_eq_true rfl)⟩ rfl hl.1 rfl (by exact Nat.le_of_ble_eq_true rfl) dL_law_140 ⟨(show ck + 2 ≤ 601024 by omega), (show sk + 12 ≤ 7293034 by omega)⟩) S (fun E H locs qx ce hE => hE.elim) (fun r_h f_140 H locs hr_h S => ?_)
  obtain ⟨rfl, hR1, ⟨wo2, ho1, hw2⟩, hmd1⟩ := hr_h
  have hI1 := i_ground st hI t1 t2 t3
  obtain ⟨A, V, VL, hM1⟩ := hM0.kept2 hmd1 (fun t q => by unfold tX at q; omega)
  have hy1 := hM1.1
  refine lv_istore (lv' := [(5, .int (nI (k2 (cellP t1 t2) (inI t3 0 2)))), (0, .ref b), (1, .ref x), (2, .ref y), (3, .ref ou), (4, .int (nI (7 * i)))]) X.1 X.2.1 dL_law_143 hl (by decide) rfl (fun ls hl => ?_)
  refine lv_aload_n X.1 X.2.1 dL_law_145 rfl (lv_at hl 3 rfl) ?_
  refine lv_aload_n X.1 X.2.1 dL_law_146 rfl (lv_at hl 1 rfl) ?_
  refine lv_iload X.1 X.2.1 dL_law_147 (lv_at hl 5 rfl) ?_
  refine lv_iconst (v := 1) X.1 X.2.1 dL_law_149 (by decide) ?_
  refine lv_iadd X.1 X.2.1 dL_law_150 ?_
  refine r_toi (nI_add (7 * i) 1) ?_
  refine r_sld X S hX hbl hbA (v := t1) (vp_in_nI (show 7 * i + 1 < L by omega) (by omega)) (by rw [nI_clamp (by omega)]; exact ht1.symm) dL_law_151 ?_
  refine lv_aload_n X.1 X.2.1 dL_law_152 rfl (lv_at hl 1 rfl) ?_
  refine lv_iload X.1 X.2.1 dL_law_153 (lv_at hl 5 rfl) ?_
  refine lv_iconst (v := 2) X.1 X.2.1 dL_law_155 (by decide) ?_
  refine lv_iadd X.1 X.2.1 dL_law_156 ?_
  refine r_toi (nI_add (7 * i) 2) ?_
  refine r_sld X S hX hbl hbA (v := t2) (vp_in_nI (show 7 * i + 2 < L by omega) (by omega)) (by rw [nI_clamp (by omega)]; exact ht2.symm) dL_law_157 ?_
  refine lv_aload_n X.1 X.2.1 dL_law_158 rfl (lv_at hl 1 rfl) ?_
  refine lv_iload X.1 X.2.1 dL_law_159 (lv_at hl 5 rfl) ?_
  refine lv_iconst (v := 3) X.1 X.2.1 dL_law_161 (by decide) ?_
  refine lv_iadd X.1 X.2.1 dL_law_162 ?_
  refine r_toi (nI_add (7 * i) 3) ?_
  refine r_sld X S hX hbl hbA (v := t3) (vp_in_nI (show 7 * i + 3 < L by omega) (by omega)) (by rw [nI_clamp (by omega)]; exact ht3.symm) dL_law_163 ?_
  refine call_i (run_V X S (n_ground l G f_140 st y A V VL thr hI hM1 t1 t2 t3) 3 gL_law_X10_ground rfl rfl rfl (by decide +kernel) ⟨(by exact Nat.le_of_ble_eq_true rfl), (by exact Nat.le_of_ble_eq_true rfl)⟩ ⟨_, _, hy1⟩ rfl rfl rfl hl.1 rfl (by exact Nat.le_of_ble_eq_true rfl) dL_law_164 ⟨(show ck + 2 + 0 ≤ 601024 by omega), (show sk + 12 + 0 ≤ 7293034 by omega)⟩) S (fun r_164 f_164 H locs hr_164 S => ?_)
  obtain ⟨hr2M, hmd2, hr2v⟩ := hr_164
  have ho2 := hmd2 _ _ _ ho1 (by unfold tM; omega)
  obtain ⟨A2, V2, VL2, hM2⟩ := id hr2M
  have hy2 := hM2.1
  have hR2 := hR1.kept (md_mono hmd2 (fun t q => by unfold tM at q; unfold tX; omega)) (sInv_le hI1)
  refine lv_istore (lv' := [(6, .int r_164), (5, .int (nI (k2 (cellP t1 t2) (inI t3 0 2)))), (0, .ref b), (1, .ref x), (2, .ref y), (3, .ref ou), (4, .int (nI (7 * i)))]) X.1 X.2.1 dL_law_167 hl (by decide) rfl (fun ls hl => ?_)
  refine lv_aload_n X.1 X.2.1 dL_law_169 rfl (lv_at hl 4 rfl) ?_
  refine call_ip (run_V X S (n_thrown l G f_164 y A2 _ _ _ _ _ _ hy2) 0 gL_law_X10_thrown rfl rfl rfl (by decide +kernel) ⟨(by exact Nat.le_of_ble_eq_true rfl), (by exact Nat.le_of_ble_eq_true rfl)⟩ ⟨_, _, hy2⟩ rfl rfl rfl hl.1 rfl (by exact Nat.le_of_ble_eq_true rfl) dL_law_170 ⟨(show ck + 2 + 0 + 0 ≤ 601024 by omega), (show sk + 12 + 0 + 0 ≤ 7293034 by omega)⟩) S (fun r_170 H locs hr_170 S => ?_)
  subst hr_170
  refine lv_iload X.1 X.2.1 dL_law_173 (lv_at hl 1 rfl) ?_
  refine lv_icmp_eq (tgt := 180) X.1 X.2.1 dL_law_175 (by decide) (fun c_175 => ?_) (fun c_175 => ?_)
  · refine lv_iload X.1 X.2.1 dL_law_180 (lv_at hl 1 rfl) ?_
    refine lv_if_ne (tgt := 197) X.1 X.2.1 dL_law_182 (by decide) (fun c_182 => ?_) (fun c_182 => ?_)
    · refine lv_goto (tgt := 1338) X.1 X.2.1 dL_law_197 (by decide) ?_
      exact kk _ f_164 H locs ls _ _ hI1 hR2 ⟨_, hr2M⟩ ⟨wo2, ho2⟩ (by omega) (by omega) S (lv_sub hl [2, 3, 4, 5, 6] rfl)
    · have hk0 := kk2_z c_182
      refine lv_aload_n X.1 X.2.1 dL_law_185 rfl (lv_at hl 5 rfl) ?_
      refine lv_iconst (v := 0) X.1 X.2.1 dL_law_186 (by decide) ?_
      refine r_lald (v := (wo2 0)) X S ho2 (pk_in 0 1 (by omega)) rfl dL_law_187 ?_
      refine lv_iload X.1 X.2.1 dL_law_188 (lv_at hl 0 rfl) ?_
      refine lv_i2l (v := r_164.toInt64) X.1 X.2.1 dL_law_190 rfl ?_
      refine W.lcmp X.1 X.2.1 dL_law_191 ?_
      refine lv_if_eq (tgt := 197) X.1 X.2.1 dL_law_192 (by decide) (fun c_192 => ?_) (fun c_192 => ?_)
      · refine lv_goto (tgt := 1338) X.1 X.2.1 dL_law_197 (by decide) ?_
        exact kk _ f_164 H locs ls _ _ hI1 hR2 ⟨_, hr2M⟩ ⟨wo2, ho2⟩ (by omega) (by omega) S (lv_sub hl [2, 3, 4, 5, 6] rfl)
      · exact absurd (by rw [hw2 hk0, hr2v hk0]; exact lgz _) c_192
  · exact absurd rfl c_175

set_option maxRecDepth 100000 in
set_option maxHeartbeats 4000000 in
/-- the law at stone -/
theorem law_stone {p0 : Program} {l : Launch} {e0 : Env} {s0 : State} {m0 : MethodId} {b0 : List Frame} {meth0 : Method} {c0 : Code} {Q9 : State → Prop} (hst : l.stackTraces = false) {G : cx_G} {b L : Nat} {xs : Nat → Int32} (hX : va_X b L xs s0 s0.heap) (hbl : b < s0.heap.size) (hbA : ¬ gA G b) (hL : L ≤ 3584) (X : cxC G p0 l room_1 c0 cL_law 8 m0 meth0 s0 #[Value.ref b] RL wsL_law) (i : Nat) (hi : 7 * i + 7 ≤ L) (st : St) (f : Wd) (x y ou : Nat) (wo : Nat → Int64) (thr : Int32) (hI : sInv st) (hR0 : RX G f st x) (hM0 : RM G f st y thr) (ho : f ou = some (2000, eJ G 1 wo)) (H : Heap) (locs : List Loc) (ls : Array Slot) (S : cxS G s0 f H locs) (hl : lv_has ls 8 [(0, .ref b), (1, .ref x), (2, .ref y), (3, .ref ou), (4, .int (nI (7 * i)))]) (ck sk : Nat) (hck : ck ≤ 590000) (hsk : sk ≤ 7200000) (kk : ∀ (st2 : St) (f2 : Wd) (H : Heap) (locs : List Loc) (ls : Array Slot) (ck2 sk2 : Nat), sInv st2 → RX G f2 st2 x → (∃ t2 : Int32, RM G f2 st2 y t2) → (∃ w2 : Nat → Int64, f2 ou = some (2000, eJ G 1 w2)) → ck2 ≤ ck + 62 → sk2 ≤ sk + 9192 → cxS G s0 f2 H locs → lv_has ls 8 [(0, .ref b), (1, .ref x), (2, .ref y), (3, .ref ou), (4, .int (nI (7 * i)))] → W p0 l e0 room_1 s0 m0 #[Value.ref b] b0 meth0 c0 H locs ck2 sk2 Q9 (F0 m0 1338 ls [])) : W p0 l e0 room_1 s0 m0 #[Value.ref b] b0 meth0 c0 H locs ck sk Q9 (F0 m0 200 ls []) := by
  obtain ⟨gr9, rw9, L91, L92, L93, cu9, L94, g91, g92, g93, g94, w9, hR9⟩ := id hR0
  have hx := hR9.1
  obtain ⟨t1, ht1⟩ : ∃ z9 : Int32, z9 = xs (7 * i + 1) := ⟨_, rfl⟩
  obtain ⟨t2, ht2⟩ : ∃ z9 : Int32, z9 = xs (7 * i + 2) := ⟨_, rfl⟩
  obtain ⟨t3, ht3⟩ : ∃ z9 : Int32, z9 = xs (7 * i + 3) := ⟨_, rfl⟩
  obtain ⟨t4, ht4⟩ : ∃ z9 : Int32, z9 = xs (7 * i + 4) := ⟨_, rfl⟩
  obtain ⟨t5, ht5⟩ : ∃ z9 : Int32, z9 = xs (7 * i + 5) := ⟨_, rfl⟩
  obtain ⟨t6, ht6⟩ : ∃ z9 : Int32, z9 = xs (7 * i + 6) := ⟨_, rfl⟩
  refine lv_aload_n X.1 X.2.1 dL_law_200 rfl (lv_at hl 1 rfl) ?_
  refine lv_aload_n X.1 X.2.1 dL_law_201 rfl (lv_at hl 0 rfl) ?_
  refine lv_iload X.1 X.2.1 dL_law_202 (lv_at hl 4 rfl) ?_
  refine lv_iconst (v := 1) X.1 X.2.1 dL_law_204 (by decide) ?_
  refine lv_iadd X.1 X.2.1 dL_law_205 ?_
  refine r_toi (nI_add (7 * i) 1) ?_
  refine r_sld X S hX hbl hbA (v := t1) (vp_in_nI (show 7 * i + 1 < L by omega) (by omega)) (by rw [nI_clamp (by omega)]; exact ht1.symm) dL_law_206 ?_
  refine lv_aload_n X.1 X.2.1 dL_law_207 rfl (lv_at hl 0 rfl) ?_
  refine lv_iload X.1 X.2.1 dL_law_208 (lv_at hl 4 rfl) ?_
  refine lv_iconst (v := 2) X.1 X.2.1 dL_law_210 (by decide) ?_
  refine lv_iadd X.1 X.2.1 dL_law_211 ?_
  refine r_toi (nI_add (7 * i) 2) ?_
  refine r_sld X S hX hbl hbA (v := t2) (vp_in_nI (show 7 * i + 2 < L by omega) (by omega)) (by rw [nI_clamp (by omega)]; exact ht2.symm) dL_law_212 ?_
  refine lv_aload_n X.1 X.2.1 dL_law_213 rfl (lv_at hl 0 rfl) ?_
  refine lv_iload X.1 X.2.1 dL_law_214 (lv_at hl 4 rfl) ?_
  refine lv_iconst (v := 3) X.1 X.2.1 dL_law_216 (by decide) ?_
  refine lv_iadd X.1 X.2.1 dL_law_217 ?_
  refine r_toi (nI_add (7 * i) 3) ?_
  refine r_sld X S hX hbl hbA (v := t3) (vp_in_nI (show 7 * i + 3 < L by omega) (by omega)) (by rw [nI_clamp (by omega)]; exact ht3.symm) dL_law_218 ?_
  refine lv_aload_n X.1 X.2.1 dL_law_219 rfl (lv_at hl 3 rfl) ?_
  refine xcall_it (xrun_SX X S (h_stone l hst G f st x hI hR0 t1 t2 t3 ou wo ho) 5 gL_law_L_stone rfl rfl rfl (by decide +kernel) ⟨(by exact Nat.le_of_ble_eq_true rfl), (by exact Nat.le_of_ble_eq_true rfl)⟩ rfl hl.1 rfl (by exact Nat.le_of_ble_eq_true rfl) dL_law_220 ⟨(show ck + 5 ≤ 601024 by omega), (show sk + 324 ≤ 7293034 by omega)⟩) S (fun E H locs qx ce hE => hE.elim) (fun r_h f_220 H locs hr_h S => ?_)
  obtain ⟨rfl, hR1, ⟨wo2, ho1, hw2⟩, hmd1⟩ := hr_h
  have hI1 := i_stone st hI t1 t2 t3
  obtain ⟨A, V, VL, hM1⟩ := hM0.kept2 hmd1 (fun t q => by unfold tX at q; omega)
  have hy1 := hM1.1
  refine lv_istore (lv' := [(5, .int (nI (k3 (cellP t1 t2) (inI t3 1 6) (st 0 0 + 1 ≤ 200)))), (0, .ref b), (1, .ref x), (2, .ref y), (3, .ref ou), (4, .int (nI (7 * i)))]) X.1 X.2.1 dL_law_223 hl (by decide) rfl (fun ls hl => ?_)
  refine lv_aload_n X.1 X.2.1 dL_law_225 rfl (lv_at hl 3 rfl) ?_
  refine lv_aload_n X.1 X.2.1 dL_law_226 rfl (lv_at hl 1 rfl) ?_
  refine lv_iload X.1 X.2.1 dL_law_227 (lv_at hl 5 rfl) ?_
  refine lv_iconst (v := 1) X.1 X.2.1 dL_law_229 (by decide) ?_
  refine lv_iadd X.1 X.2.1 dL_law_230 ?_
  refine r_toi (nI_add (7 * i) 1) ?_
  refine r_sld X S hX hbl hbA (v := t1) (vp_in_nI (show 7 * i + 1 < L by omega) (by omega)) (by rw [nI_clamp (by omega)]; exact ht1.symm) dL_law_231 ?_
  refine lv_aload_n X.1 X.2.1 dL_law_232 rfl (lv_at hl 1 rfl) ?_
  refine lv_iload X.1 X.2.1 dL_law_233 (lv_at hl 5 rfl) ?_
  refine lv_iconst (v := 2) X.1 X.2.1 dL_law_235 (by decide) ?_
  refine lv_iadd X.1 X.2.1 dL_law_236 ?_
  refine r_toi (nI_add (7 * i) 2) ?_
  refine r_sld X S hX hbl hbA (v := t2) (vp_in_nI (show 7 * i + 2 < L by omega) (by omega)) (by rw [nI_clamp (by omega)]; exact ht2.symm) dL_law_237 ?_
  refine lv_aload_n X.1 X.2.1 dL_law_238 rfl (lv_at hl 1 rfl) ?_
  refine lv_iload X.1 X.2.1 dL_law_239 (lv_at hl 5 rfl) ?_
  refine lv_iconst (v := 3) X.1 X.2.1 dL_law_241 (by decide) ?_
  refine lv_iadd X.1 X.2.1 dL_law_242 ?_
  refine r_toi (nI_add (7 * i) 3) ?_
  refine r_sld X S hX hbl hbA (v := t3) (vp_in_nI (show 7 * i + 3 < L by omega) (by omega)) (by rw [nI_clamp (by omega)]; exact ht3.symm) dL_law_243 ?_
  refine call_i (run_V X S (n_stone l G f_220 st y A V VL thr hI hM1 t1 t2 t3) 3 gL_law_X10_stone rfl rfl rfl (by decide +kernel) ⟨(by exact Nat.le_of_ble_eq_true rfl), (by exact Nat.le_of_ble_eq_true rfl)⟩ ⟨_, _, hy1⟩ rfl rfl rfl hl.1 rfl (by exact Nat.le_of_ble_eq_true rfl) dL_law_244 ⟨(show ck + 5 + 0 ≤ 601024 by omega), (show sk + 324 + 0 ≤ 7293034 by omega)⟩) S (fun r_244 f_244 H locs hr_244 S => ?_)
  obtain ⟨hr2M, hmd2, hr2v⟩ := hr_244
  have ho2 := hmd2 _ _ _ ho1 (by unfold tM; omega)
  obtain ⟨A2, V2, VL2, hM2⟩ := id hr2M
  have hy2 := hM2.1
  have hR2 := hR1.kept (md_mono hmd2 (fun t q => by unfold tM at q; unfold tX; omega)) (sInv_le hI1)
  refine lv_istore (lv' := [(6, .int r_244), (5, .int (nI (k3 (cellP t1 t2) (inI t3 1 6) (st 0 0 + 1 ≤ 200)))), (0, .ref b), (1, .ref x), (2, .ref y), (3, .ref ou), (4, .int (nI (7 * i)))]) X.1 X.2.1 dL_law_247 hl (by decide) rfl (fun ls hl => ?_)
  refine lv_aload_n X.1 X.2.1 dL_law_249 rfl (lv_at hl 4 rfl) ?_
  refine call_ip (run_V X S (n_thrown l G f_244 y A2 _ _ _ _ _ _ hy2) 0 gL_law_X10_thrown rfl rfl rfl (by decide +kernel) ⟨(by exact Nat.le_of_ble_eq_true rfl), (by exact Nat.le_of_ble_eq_true rfl)⟩ ⟨_, _, hy2⟩ rfl rfl rfl hl.1 rfl (by exact Nat.le_of_ble_eq_true rfl) dL_law_250 ⟨(show ck + 5 + 0 + 0 ≤ 601024 by omega), (show sk + 324 + 0 + 0 ≤ 7293034 by omega)⟩) S (fun r_250 H locs hr_250 S => ?_)
  subst hr_250
  refine lv_iload X.1 X.2.1 dL_law_253 (lv_at hl 1 rfl) ?_
  refine lv_icmp_eq (tgt := 260) X.1 X.2.1 dL_law_255 (by decide) (fun c_255 => ?_) (fun c_255 => ?_)
  · refine lv_iload X.1 X.2.1 dL_law_260 (lv_at hl 1 rfl) ?_
    refine lv_if_ne (tgt := 277) X.1 X.2.1 dL_law_262 (by decide) (fun c_262 => ?_) (fun c_262 => ?_)
    · refine lv_goto (tgt := 1338) X.1 X.2.1 dL_law_277 (by decide) ?_
      exact kk _ f_244 H locs ls _ _ hI1 hR2 ⟨_, hr2M⟩ ⟨wo2, ho2⟩ (by omega) (by omega) S (lv_sub hl [2, 3, 4, 5, 6] rfl)
    · have hk0 := kk3_z c_262
      refine lv_aload_n X.1 X.2.1 dL_law_265 rfl (lv_at hl 5 rfl) ?_
      refine lv_iconst (v := 0) X.1 X.2.1 dL_law_266 (by decide) ?_
      refine r_lald (v := (wo2 0)) X S ho2 (pk_in 0 1 (by omega)) rfl dL_law_267 ?_
      refine lv_iload X.1 X.2.1 dL_law_268 (lv_at hl 0 rfl) ?_
      refine lv_i2l (v := r_244.toInt64) X.1 X.2.1 dL_law_270 rfl ?_
      refine W.lcmp X.1 X.2.1 dL_law_271 ?_
      refine lv_if_eq (tgt := 277) X.1 X.2.1 dL_law_272 (by decide) (fun c_272 => ?_) (fun c_272 => ?_)
      · refine lv_goto (tgt := 1338) X.1 X.2.1 dL_law_277 (by decide) ?_
        exact kk _ f_244 H locs ls _ _ hI1 hR2 ⟨_, hr2M⟩ ⟨wo2, ho2⟩ (by omega) (by omega) S (lv_sub hl [2, 3, 4, 5, 6] rfl)
      · exact absurd (by rw [hw2 hk0, hr2v hk0]; exact lgz _) c_272
  · exact absurd rfl c_255

set_option maxRecDepth 100000 in
set_option maxHeartbeats 4000000 in
/-- the law at draw -/
theorem law_draw {p0 : Program} {l : Launch} {e0 : Env} {s0 : State} {m0 : MethodId} {b0 : List Frame} {meth0 : Method} {c0 : Code} {Q9 : State → Prop} (hst : l.stackTraces = false) {G : cx_G} {b L : Nat} {xs : Nat → Int32} (hX : va_X b L xs s0 s0.heap) (hbl : b < s0.heap.size) (hbA : ¬ gA G b) (hL : L ≤ 3584) (X : cxC G p0 l room_1 c0 cL_law 8 m0 meth0 s0 #[Value.ref b] RL wsL_law) (i : Nat) (hi : 7 * i + 7 ≤ L) (st : St) (f : Wd) (x y ou : Nat) (wo : Nat → Int64) (thr : Int32) (hI : sInv st) (hR0 : RX G f st x) (hM0 : RM G f st y thr) (ho : f ou = some (2000, eJ G 1 wo)) (H : Heap) (locs : List Loc) (ls : Array Slot) (S : cxS G s0 f H locs) (hl : lv_has ls 8 [(0, .ref b), (1, .ref x), (2, .ref y), (3, .ref ou), (4, .int (nI (7 * i)))]) (ck sk : Nat) (hck : ck ≤ 590000) (hsk : sk ≤ 7200000) (kk : ∀ (st2 : St) (f2 : Wd) (H : Heap) (locs : List Loc) (ls : Array Slot) (ck2 sk2 : Nat), sInv st2 → RX G f2 st2 x → (∃ t2 : Int32, RM G f2 st2 y t2) → (∃ w2 : Nat → Int64, f2 ou = some (2000, eJ G 1 w2)) → ck2 ≤ ck + 62 → sk2 ≤ sk + 9192 → cxS G s0 f2 H locs → lv_has ls 8 [(0, .ref b), (1, .ref x), (2, .ref y), (3, .ref ou), (4, .int (nI (7 * i)))] → W p0 l e0 room_1 s0 m0 #[Value.ref b] b0 meth0 c0 H locs ck2 sk2 Q9 (F0 m0 1338 ls [])) : W p0 l e0 room_1 s0 m0 #[Value.ref b] b0 meth0 c0 H locs ck sk Q9 (F0 m0 280 ls []) := by
  obtain ⟨gr9, rw9, L91, L92, L93, cu9, L94, g91, g92, g93, g94, w9, hR9⟩ := id hR0
  have hx := hR9.1
  obtain ⟨t1, ht1⟩ : ∃ z9 : Int32, z9 = xs (7 * i + 1) := ⟨_, rfl⟩
  obtain ⟨t2, ht2⟩ : ∃ z9 : Int32, z9 = xs (7 * i + 2) := ⟨_, rfl⟩
  obtain ⟨t3, ht3⟩ : ∃ z9 : Int32, z9 = xs (7 * i + 3) := ⟨_, rfl⟩
  obtain ⟨t4, ht4⟩ : ∃ z9 : Int32, z9 = xs (7 * i + 4) := ⟨_, rfl⟩
  obtain ⟨t5, ht5⟩ : ∃ z9 : Int32, z9 = xs (7 * i + 5) := ⟨_, rfl⟩
  obtain ⟨t6, ht6⟩ : ∃ z9 : Int32, z9 = xs (7 * i + 6) := ⟨_, rfl⟩
  refine lv_aload_n X.1 X.2.1 dL_law_280 rfl (lv_at hl 1 rfl) ?_
  refine lv_aload_n X.1 X.2.1 dL_law_281 rfl (lv_at hl 0 rfl) ?_
  refine lv_iload X.1 X.2.1 dL_law_282 (lv_at hl 4 rfl) ?_
  refine lv_iconst (v := 1) X.1 X.2.1 dL_law_284 (by decide) ?_
  refine lv_iadd X.1 X.2.1 dL_law_285 ?_
  refine r_toi (nI_add (7 * i) 1) ?_
  refine r_sld X S hX hbl hbA (v := t1) (vp_in_nI (show 7 * i + 1 < L by omega) (by omega)) (by rw [nI_clamp (by omega)]; exact ht1.symm) dL_law_286 ?_
  refine lv_aload_n X.1 X.2.1 dL_law_287 rfl (lv_at hl 3 rfl) ?_
  refine xcall_it (xrun_SX X S (h_draw l hst G f st x hI hR0 t1 ou wo ho) 3 gL_law_L_draw rfl rfl rfl (by decide +kernel) ⟨(by exact Nat.le_of_ble_eq_true rfl), (by exact Nat.le_of_ble_eq_true rfl)⟩ rfl hl.1 rfl (by exact Nat.le_of_ble_eq_true rfl) dL_law_288 ⟨(show ck + 1 ≤ 601024 by omega), (show sk + 6 ≤ 7293034 by omega)⟩) S (fun E H locs qx ce hE => hE.elim) (fun r_h f_288 H locs hr_h S => ?_)
  obtain ⟨rfl, hR1, ⟨wo2, ho1, hw2⟩, hmd1⟩ := hr_h
  have hI1 := i_draw st hI t1
  obtain ⟨A, V, VL, hM1⟩ := hM0.kept2 hmd1 (fun t q => by unfold tX at q; omega)
  have hy1 := hM1.1
  refine lv_istore (lv' := [(5, .int (nI (k1 (inI t1 1 65536)))), (0, .ref b), (1, .ref x), (2, .ref y), (3, .ref ou), (4, .int (nI (7 * i)))]) X.1 X.2.1 dL_law_291 hl (by decide) rfl (fun ls hl => ?_)
  refine lv_aload_n X.1 X.2.1 dL_law_293 rfl (lv_at hl 3 rfl) ?_
  refine lv_aload_n X.1 X.2.1 dL_law_294 rfl (lv_at hl 1 rfl) ?_
  refine lv_iload X.1 X.2.1 dL_law_295 (lv_at hl 5 rfl) ?_
  refine lv_iconst (v := 1) X.1 X.2.1 dL_law_297 (by decide) ?_
  refine lv_iadd X.1 X.2.1 dL_law_298 ?_
  refine r_toi (nI_add (7 * i) 1) ?_
  refine r_sld X S hX hbl hbA (v := t1) (vp_in_nI (show 7 * i + 1 < L by omega) (by omega)) (by rw [nI_clamp (by omega)]; exact ht1.symm) dL_law_299 ?_
  refine call_i (run_V X S (n_draw l G f_288 st y A V VL thr hI hM1 t1) 1 gL_law_X10_draw rfl rfl rfl (by decide +kernel) ⟨(by exact Nat.le_of_ble_eq_true rfl), (by exact Nat.le_of_ble_eq_true rfl)⟩ ⟨_, _, hy1⟩ rfl rfl rfl hl.1 rfl (by exact Nat.le_of_ble_eq_true rfl) dL_law_300 ⟨(show ck + 1 + 0 ≤ 601024 by omega), (show sk + 6 + 0 ≤ 7293034 by omega)⟩) S (fun r_300 f_300 H locs hr_300 S => ?_)
  obtain ⟨hr2M, hmd2, hr2v⟩ := hr_300
  have ho2 := hmd2 _ _ _ ho1 (by unfold tM; omega)
  obtain ⟨A2, V2, VL2, hM2⟩ := id hr2M
  have hy2 := hM2.1
  have hR2 := hR1.kept (md_mono hmd2 (fun t q => by unfold tM at q; unfold tX; omega)) (sInv_le hI1)
  refine lv_istore (lv' := [(6, .int r_300), (5, .int (nI (k1 (inI t1 1 65536)))), (0, .ref b), (1, .ref x), (2, .ref y), (3, .ref ou), (4, .int (nI (7 * i)))]) X.1 X.2.1 dL_law_303 hl (by decide) rfl (fun ls hl => ?_)
  refine lv_aload_n X.1 X.2.1 dL_law_305 rfl (lv_at hl 4 rfl) ?_
  refine call_ip (run_V X S (n_thrown l G f_300 y A2 _ _ _ _ _ _ hy2) 0 gL_law_X10_thrown rfl rfl rfl (by decide +kernel) ⟨(by exact Nat.le_of_ble_eq_true rfl), (by exact Nat.le_of_ble_eq_true rfl)⟩ ⟨_, _, hy2⟩ rfl rfl rfl hl.1 rfl (by exact Nat.le_of_ble_eq_true rfl) dL_law_306 ⟨(show ck + 1 + 0 + 0 ≤ 601024 by omega), (show sk + 6 + 0 + 0 ≤ 7293034 by omega)⟩) S (fun r_306 H locs hr_306 S => ?_)
  subst hr_306
  refine lv_iload X.1 X.2.1 dL_law_309 (lv_at hl 1 rfl) ?_
  refine lv_icmp_eq (tgt := 316) X.1 X.2.1 dL_law_311 (by decide) (fun c_311 => ?_) (fun c_311 => ?_)
  · refine lv_iload X.1 X.2.1 dL_law_316 (lv_at hl 1 rfl) ?_
    refine lv_if_ne (tgt := 333) X.1 X.2.1 dL_law_318 (by decide) (fun c_318 => ?_) (fun c_318 => ?_)
    · refine lv_goto (tgt := 1338) X.1 X.2.1 dL_law_333 (by decide) ?_
      exact kk _ f_300 H locs ls _ _ hI1 hR2 ⟨_, hr2M⟩ ⟨wo2, ho2⟩ (by omega) (by omega) S (lv_sub hl [2, 3, 4, 5, 6] rfl)
    · have hk0 := kk1_z c_318
      refine lv_aload_n X.1 X.2.1 dL_law_321 rfl (lv_at hl 5 rfl) ?_
      refine lv_iconst (v := 0) X.1 X.2.1 dL_law_322 (by decide) ?_
      refine r_lald (v := (wo2 0)) X S ho2 (pk_in 0 1 (by omega)) rfl dL_law_323 ?_
      refine lv_iload X.1 X.2.1 dL_law_324 (lv_at hl 0 rfl) ?_
      refine lv_i2l (v := r_300.toInt64) X.1 X.2.1 dL_law_326 rfl ?_
      refine W.lcmp X.1 X.2.1 dL_law_327 ?_
      refine lv_if_eq (tgt := 333) X.1 X.2.1 dL_law_328 (by decide) (fun c_328 => ?_) (fun c_328 => ?_)
      · refine lv_goto (tgt := 1338) X.1 X.2.1 dL_law_333 (by decide) ?_
        exact kk _ f_300 H locs ls _ _ hI1 hR2 ⟨_, hr2M⟩ ⟨wo2, ho2⟩ (by omega) (by omega) S (lv_sub hl [2, 3, 4, 5, 6] rfl)
      · exact absurd (by rw [hw2 hk0, hr2v hk0]; exact lgz _) c_328
  · exact absurd rfl c_311

set_option maxRecDepth 100000 in
set_option maxHeartbeats 4000000 in
/-- the law at rain -/
theorem law_rain {p0 : Program} {l : Launch} {e0 : Env} {s0 : State} {m0 : MethodId} {b0 : List Frame} {meth0 : Method} {c0 : Code} {Q9 : State → Prop} (hst : l.stackTraces = false) {G : cx_G} {b L : Nat} {xs : Nat → Int32} (hX : va_X b L xs s0 s0.heap) (hbl : b < s0.heap.size) (hbA : ¬ gA G b) (hL : L ≤ 3584) (X : cxC G p0 l room_1 c0 cL_law 8 m0 meth0 s0 #[Value.ref b] RL wsL_law) (i : Nat) (hi : 7 * i + 7 ≤ L) (st : St) (f : Wd) (x y ou : Nat) (wo : Nat → Int64) (thr : Int32) (hI : sInv st) (hR0 : RX G f st x) (hM0 : RM G f st y thr) (ho : f ou = some (2000, eJ G 1 wo)) (H : Heap) (locs : List Loc) (ls : Array Slot) (S : cxS G s0 f H locs) (hl : lv_has ls 8 [(0, .ref b), (1, .ref x), (2, .ref y), (3, .ref ou), (4, .int (nI (7 * i)))]) (ck sk : Nat) (hck : ck ≤ 590000) (hsk : sk ≤ 7200000) (kk : ∀ (st2 : St) (f2 : Wd) (H : Heap) (locs : List Loc) (ls : Array Slot) (ck2 sk2 : Nat), sInv st2 → RX G f2 st2 x → (∃ t2 : Int32, RM G f2 st2 y t2) → (∃ w2 : Nat → Int64, f2 ou = some (2000, eJ G 1 w2)) → ck2 ≤ ck + 62 → sk2 ≤ sk + 9192 → cxS G s0 f2 H locs → lv_has ls 8 [(0, .ref b), (1, .ref x), (2, .ref y), (3, .ref ou), (4, .int (nI (7 * i)))] → W p0 l e0 room_1 s0 m0 #[Value.ref b] b0 meth0 c0 H locs ck2 sk2 Q9 (F0 m0 1338 ls [])) : W p0 l e0 room_1 s0 m0 #[Value.ref b] b0 meth0 c0 H locs ck sk Q9 (F0 m0 336 ls []) := by
  obtain ⟨gr9, rw9, L91, L92, L93, cu9, L94, g91, g92, g93, g94, w9, hR9⟩ := id hR0
  have hx := hR9.1
  obtain ⟨t1, ht1⟩ : ∃ z9 : Int32, z9 = xs (7 * i + 1) := ⟨_, rfl⟩
  obtain ⟨t2, ht2⟩ : ∃ z9 : Int32, z9 = xs (7 * i + 2) := ⟨_, rfl⟩
  obtain ⟨t3, ht3⟩ : ∃ z9 : Int32, z9 = xs (7 * i + 3) := ⟨_, rfl⟩
  obtain ⟨t4, ht4⟩ : ∃ z9 : Int32, z9 = xs (7 * i + 4) := ⟨_, rfl⟩
  obtain ⟨t5, ht5⟩ : ∃ z9 : Int32, z9 = xs (7 * i + 5) := ⟨_, rfl⟩
  obtain ⟨t6, ht6⟩ : ∃ z9 : Int32, z9 = xs (7 * i + 6) := ⟨_, rfl⟩
  refine lv_aload_n X.1 X.2.1 dL_law_336 rfl (lv_at hl 1 rfl) ?_
  refine lv_aload_n X.1 X.2.1 dL_law_337 rfl (lv_at hl 0 rfl) ?_
  refine lv_iload X.1 X.2.1 dL_law_338 (lv_at hl 4 rfl) ?_
  refine lv_iconst (v := 1) X.1 X.2.1 dL_law_340 (by decide) ?_
  refine lv_iadd X.1 X.2.1 dL_law_341 ?_
  refine r_toi (nI_add (7 * i) 1) ?_
  refine r_sld X S hX hbl hbA (v := t1) (vp_in_nI (show 7 * i + 1 < L by omega) (by omega)) (by rw [nI_clamp (by omega)]; exact ht1.symm) dL_law_342 ?_
  refine lv_aload_n X.1 X.2.1 dL_law_343 rfl (lv_at hl 3 rfl) ?_
  refine xcall_it (xrun_SX X S (h_rain l hst G f st x hI hR0 t1 ou wo ho) 3 gL_law_L_rain rfl rfl rfl (by decide +kernel) ⟨(by exact Nat.le_of_ble_eq_true rfl), (by exact Nat.le_of_ble_eq_true rfl)⟩ rfl hl.1 rfl (by exact Nat.le_of_ble_eq_true rfl) dL_law_344 ⟨(show ck + 62 ≤ 601024 by omega), (show sk + 9192 ≤ 7293034 by omega)⟩) S (fun E H locs qx ce hE => hE.elim) (fun r_h f_344 H locs hr_h S => ?_)
  obtain ⟨rfl, hR1, ⟨wo2, ho1, hw2⟩, hmd1⟩ := hr_h
  have hI1 := i_rain st hI t1
  obtain ⟨A, V, VL, hM1⟩ := hM0.kept2 hmd1 (fun t q => by unfold tX at q; omega)
  have hy1 := hM1.1
  refine lv_istore (lv' := [(5, .int (nI (k2 (inI t1 1 30) (st 0 0 + nN t1 ≤ 200)))), (0, .ref b), (1, .ref x), (2, .ref y), (3, .ref ou), (4, .int (nI (7 * i)))]) X.1 X.2.1 dL_law_347 hl (by decide) rfl (fun ls hl => ?_)
  refine lv_aload_n X.1 X.2.1 dL_law_349 rfl (lv_at hl 3 rfl) ?_
  refine lv_aload_n X.1 X.2.1 dL_law_350 rfl (lv_at hl 1 rfl) ?_
  refine lv_iload X.1 X.2.1 dL_law_351 (lv_at hl 5 rfl) ?_
  refine lv_iconst (v := 1) X.1 X.2.1 dL_law_353 (by decide) ?_
  refine lv_iadd X.1 X.2.1 dL_law_354 ?_
  refine r_toi (nI_add (7 * i) 1) ?_
  refine r_sld X S hX hbl hbA (v := t1) (vp_in_nI (show 7 * i + 1 < L by omega) (by omega)) (by rw [nI_clamp (by omega)]; exact ht1.symm) dL_law_355 ?_
  refine call_i (run_V X S (n_rain l G f_344 st y A V VL thr hI hM1 t1) 1 gL_law_X10_rain rfl rfl rfl (by decide +kernel) ⟨(by exact Nat.le_of_ble_eq_true rfl), (by exact Nat.le_of_ble_eq_true rfl)⟩ ⟨_, _, hy1⟩ rfl rfl rfl hl.1 rfl (by exact Nat.le_of_ble_eq_true rfl) dL_law_356 ⟨(show ck + 62 + 0 ≤ 601024 by omega), (show sk + 9192 + 0 ≤ 7293034 by omega)⟩) S (fun r_356 f_356 H locs hr_356 S => ?_)
  obtain ⟨hr2M, hmd2, hr2v⟩ := hr_356
  have ho2 := hmd2 _ _ _ ho1 (by unfold tM; omega)
  obtain ⟨A2, V2, VL2, hM2⟩ := id hr2M
  have hy2 := hM2.1
  have hR2 := hR1.kept (md_mono hmd2 (fun t q => by unfold tM at q; unfold tX; omega)) (sInv_le hI1)
  refine lv_istore (lv' := [(6, .int r_356), (5, .int (nI (k2 (inI t1 1 30) (st 0 0 + nN t1 ≤ 200)))), (0, .ref b), (1, .ref x), (2, .ref y), (3, .ref ou), (4, .int (nI (7 * i)))]) X.1 X.2.1 dL_law_359 hl (by decide) rfl (fun ls hl => ?_)
  refine lv_aload_n X.1 X.2.1 dL_law_361 rfl (lv_at hl 4 rfl) ?_
  refine call_ip (run_V X S (n_thrown l G f_356 y A2 _ _ _ _ _ _ hy2) 0 gL_law_X10_thrown rfl rfl rfl (by decide +kernel) ⟨(by exact Nat.le_of_ble_eq_true rfl), (by exact Nat.le_of_ble_eq_true rfl)⟩ ⟨_, _, hy2⟩ rfl rfl rfl hl.1 rfl (by exact Nat.le_of_ble_eq_true rfl) dL_law_362 ⟨(show ck + 62 + 0 + 0 ≤ 601024 by omega), (show sk + 9192 + 0 + 0 ≤ 7293034 by omega)⟩) S (fun r_362 H locs hr_362 S => ?_)
  subst hr_362
  refine lv_iload X.1 X.2.1 dL_law_365 (lv_at hl 1 rfl) ?_
  refine lv_icmp_eq (tgt := 372) X.1 X.2.1 dL_law_367 (by decide) (fun c_367 => ?_) (fun c_367 => ?_)
  · refine lv_iload X.1 X.2.1 dL_law_372 (lv_at hl 1 rfl) ?_
    refine lv_if_ne (tgt := 389) X.1 X.2.1 dL_law_374 (by decide) (fun c_374 => ?_) (fun c_374 => ?_)
    · refine lv_goto (tgt := 1338) X.1 X.2.1 dL_law_389 (by decide) ?_
      exact kk _ f_356 H locs ls _ _ hI1 hR2 ⟨_, hr2M⟩ ⟨wo2, ho2⟩ (by omega) (by omega) S (lv_sub hl [2, 3, 4, 5, 6] rfl)
    · have hk0 := kk2_z c_374
      refine lv_aload_n X.1 X.2.1 dL_law_377 rfl (lv_at hl 5 rfl) ?_
      refine lv_iconst (v := 0) X.1 X.2.1 dL_law_378 (by decide) ?_
      refine r_lald (v := (wo2 0)) X S ho2 (pk_in 0 1 (by omega)) rfl dL_law_379 ?_
      refine lv_iload X.1 X.2.1 dL_law_380 (lv_at hl 0 rfl) ?_
      refine lv_i2l (v := r_356.toInt64) X.1 X.2.1 dL_law_382 rfl ?_
      refine W.lcmp X.1 X.2.1 dL_law_383 ?_
      refine lv_if_eq (tgt := 389) X.1 X.2.1 dL_law_384 (by decide) (fun c_384 => ?_) (fun c_384 => ?_)
      · refine lv_goto (tgt := 1338) X.1 X.2.1 dL_law_389 (by decide) ?_
        exact kk _ f_356 H locs ls _ _ hI1 hR2 ⟨_, hr2M⟩ ⟨wo2, ho2⟩ (by omega) (by omega) S (lv_sub hl [2, 3, 4, 5, 6] rfl)
      · exact absurd (by rw [hw2 hk0, hr2v hk0]; exact lgz _) c_384
  · exact absurd rfl c_367

set_option maxRecDepth 100000 in
set_option maxHeartbeats 4000000 in
/-- the law at flood -/
theorem law_flood {p0 : Program} {l : Launch} {e0 : Env} {s0 : State} {m0 : MethodId} {b0 : List Frame} {meth0 : Method} {c0 : Code} {Q9 : State → Prop} (hst : l.stackTraces = false) {G : cx_G} {b L : Nat} {xs : Nat → Int32} (hX : va_X b L xs s0 s0.heap) (hbl : b < s0.heap.size) (hbA : ¬ gA G b) (hL : L ≤ 3584) (X : cxC G p0 l room_1 c0 cL_law 8 m0 meth0 s0 #[Value.ref b] RL wsL_law) (i : Nat) (hi : 7 * i + 7 ≤ L) (st : St) (f : Wd) (x y ou : Nat) (wo : Nat → Int64) (thr : Int32) (hI : sInv st) (hR0 : RX G f st x) (hM0 : RM G f st y thr) (ho : f ou = some (2000, eJ G 1 wo)) (H : Heap) (locs : List Loc) (ls : Array Slot) (S : cxS G s0 f H locs) (hl : lv_has ls 8 [(0, .ref b), (1, .ref x), (2, .ref y), (3, .ref ou), (4, .int (nI (7 * i)))]) (ck sk : Nat) (hck : ck ≤ 590000) (hsk : sk ≤ 7200000) (kk : ∀ (st2 : St) (f2 : Wd) (H : Heap) (locs : List Loc) (ls : Array Slot) (ck2 sk2 : Nat), sInv st2 → RX G f2 st2 x → (∃ t2 : Int32, RM G f2 st2 y t2) → (∃ w2 : Nat → Int64, f2 ou = some (2000, eJ G 1 w2)) → ck2 ≤ ck + 62 → sk2 ≤ sk + 9192 → cxS G s0 f2 H locs → lv_has ls 8 [(0, .ref b), (1, .ref x), (2, .ref y), (3, .ref ou), (4, .int (nI (7 * i)))] → W p0 l e0 room_1 s0 m0 #[Value.ref b] b0 meth0 c0 H locs ck2 sk2 Q9 (F0 m0 1338 ls [])) : W p0 l e0 room_1 s0 m0 #[Value.ref b] b0 meth0 c0 H locs ck sk Q9 (F0 m0 392 ls []) := by
  obtain ⟨gr9, rw9, L91, L92, L93, cu9, L94, g91, g92, g93, g94, w9, hR9⟩ := id hR0
  have hx := hR9.1
  obtain ⟨t1, ht1⟩ : ∃ z9 : Int32, z9 = xs (7 * i + 1) := ⟨_, rfl⟩
  obtain ⟨t2, ht2⟩ : ∃ z9 : Int32, z9 = xs (7 * i + 2) := ⟨_, rfl⟩
  obtain ⟨t3, ht3⟩ : ∃ z9 : Int32, z9 = xs (7 * i + 3) := ⟨_, rfl⟩
  obtain ⟨t4, ht4⟩ : ∃ z9 : Int32, z9 = xs (7 * i + 4) := ⟨_, rfl⟩
  obtain ⟨t5, ht5⟩ : ∃ z9 : Int32, z9 = xs (7 * i + 5) := ⟨_, rfl⟩
  obtain ⟨t6, ht6⟩ : ∃ z9 : Int32, z9 = xs (7 * i + 6) := ⟨_, rfl⟩
  refine lv_aload_n X.1 X.2.1 dL_law_392 rfl (lv_at hl 1 rfl) ?_
  refine lv_aload_n X.1 X.2.1 dL_law_393 rfl (lv_at hl 0 rfl) ?_
  refine lv_iload X.1 X.2.1 dL_law_394 (lv_at hl 4 rfl) ?_
  refine lv_iconst (v := 1) X.1 X.2.1 dL_law_396 (by decide) ?_
  refine lv_iadd X.1 X.2.1 dL_law_397 ?_
  refine r_toi (nI_add (7 * i) 1) ?_
  refine r_sld X S hX hbl hbA (v := t1) (vp_in_nI (show 7 * i + 1 < L by omega) (by omega)) (by rw [nI_clamp (by omega)]; exact ht1.symm) dL_law_398 ?_
  refine lv_aload_n X.1 X.2.1 dL_law_399 rfl (lv_at hl 0 rfl) ?_
  refine lv_iload X.1 X.2.1 dL_law_400 (lv_at hl 4 rfl) ?_
  refine lv_iconst (v := 2) X.1 X.2.1 dL_law_402 (by decide) ?_
  refine lv_iadd X.1 X.2.1 dL_law_403 ?_
  refine r_toi (nI_add (7 * i) 2) ?_
  refine r_sld X S hX hbl hbA (v := t2) (vp_in_nI (show 7 * i + 2 < L by omega) (by omega)) (by rw [nI_clamp (by omega)]; exact ht2.symm) dL_law_404 ?_
  refine lv_aload_n X.1 X.2.1 dL_law_405 rfl (lv_at hl 0 rfl) ?_
  refine lv_iload X.1 X.2.1 dL_law_406 (lv_at hl 4 rfl) ?_
  refine lv_iconst (v := 3) X.1 X.2.1 dL_law_408 (by decide) ?_
  refine lv_iadd X.1 X.2.1 dL_law_409 ?_
  refine r_toi (nI_add (7 * i) 3) ?_
  refine r_sld X S hX hbl hbA (v := t3) (vp_in_nI (show 7 * i + 3 < L by omega) (by omega)) (by rw [nI_clamp (by omega)]; exact ht3.symm) dL_law_410 ?_
  refine lv_aload_n X.1 X.2.1 dL_law_411 rfl (lv_at hl 0 rfl) ?_
  refine lv_iload X.1 X.2.1 dL_law_412 (lv_at hl 4 rfl) ?_
  refine lv_iconst (v := 4) X.1 X.2.1 dL_law_414 (by decide) ?_
  refine lv_iadd X.1 X.2.1 dL_law_415 ?_
  refine r_toi (nI_add (7 * i) 4) ?_
  refine r_sld X S hX hbl hbA (v := t4) (vp_in_nI (show 7 * i + 4 < L by omega) (by omega)) (by rw [nI_clamp (by omega)]; exact ht4.symm) dL_law_416 ?_
  refine lv_aload_n X.1 X.2.1 dL_law_417 rfl (lv_at hl 0 rfl) ?_
  refine lv_iload X.1 X.2.1 dL_law_418 (lv_at hl 4 rfl) ?_
  refine lv_iconst (v := 5) X.1 X.2.1 dL_law_420 (by decide) ?_
  refine lv_iadd X.1 X.2.1 dL_law_421 ?_
  refine r_toi (nI_add (7 * i) 5) ?_
  refine r_sld X S hX hbl hbA (v := t5) (vp_in_nI (show 7 * i + 5 < L by omega) (by omega)) (by rw [nI_clamp (by omega)]; exact ht5.symm) dL_law_422 ?_
  refine lv_aload_n X.1 X.2.1 dL_law_423 rfl (lv_at hl 3 rfl) ?_
  refine xcall_it (xrun_SX X S (h_flood l hst G f st x hI hR0 t1 t2 t3 t4 t5 ou wo ho) 7 gL_law_L_flood rfl rfl rfl (by decide +kernel) ⟨(by exact Nat.le_of_ble_eq_true rfl), (by exact Nat.le_of_ble_eq_true rfl)⟩ rfl hl.1 rfl (by exact Nat.le_of_ble_eq_true rfl) dL_law_424 ⟨(show ck + 8 ≤ 601024 by omega), (show sk + 337 ≤ 7293034 by omega)⟩) S (fun E H locs qx ce hE => hE.elim) (fun r_h f_424 H locs hr_h S => ?_)
  obtain ⟨rfl, hR1, ⟨wo2, ho1, hw2⟩, hmd1⟩ := hr_h
  have hI1 := i_flood st hI t1 t2 t3 t4 t5
  obtain ⟨A, V, VL, hM1⟩ := hM0.kept2 hmd1 (fun t q => by unfold tX at q; omega)
  have hy1 := hM1.1
  refine lv_istore (lv' := [(5, .int (nI (k3 (cellP t1 t2 ∧ cellP t3 t4) (inI t5 1 40 ∧ ordP t1 t2 t3 t4) (st 0 1 < 100)))), (0, .ref b), (1, .ref x), (2, .ref y), (3, .ref ou), (4, .int (nI (7 * i)))]) X.1 X.2.1 dL_law_427 hl (by decide) rfl (fun ls hl => ?_)
  refine lv_aload_n X.1 X.2.1 dL_law_429 rfl (lv_at hl 3 rfl) ?_
  refine lv_aload_n X.1 X.2.1 dL_law_430 rfl (lv_at hl 1 rfl) ?_
  refine lv_iload X.1 X.2.1 dL_law_431 (lv_at hl 5 rfl) ?_
  refine lv_iconst (v := 1) X.1 X.2.1 dL_law_433 (by decide) ?_
  refine lv_iadd X.1 X.2.1 dL_law_434 ?_
  refine r_toi (nI_add (7 * i) 1) ?_
  refine r_sld X S hX hbl hbA (v := t1) (vp_in_nI (show 7 * i + 1 < L by omega) (by omega)) (by rw [nI_clamp (by omega)]; exact ht1.symm) dL_law_435 ?_
  refine lv_aload_n X.1 X.2.1 dL_law_436 rfl (lv_at hl 1 rfl) ?_
  refine lv_iload X.1 X.2.1 dL_law_437 (lv_at hl 5 rfl) ?_
  refine lv_iconst (v := 2) X.1 X.2.1 dL_law_439 (by decide) ?_
  refine lv_iadd X.1 X.2.1 dL_law_440 ?_
  refine r_toi (nI_add (7 * i) 2) ?_
  refine r_sld X S hX hbl hbA (v := t2) (vp_in_nI (show 7 * i + 2 < L by omega) (by omega)) (by rw [nI_clamp (by omega)]; exact ht2.symm) dL_law_441 ?_
  refine lv_aload_n X.1 X.2.1 dL_law_442 rfl (lv_at hl 1 rfl) ?_
  refine lv_iload X.1 X.2.1 dL_law_443 (lv_at hl 5 rfl) ?_
  refine lv_iconst (v := 3) X.1 X.2.1 dL_law_445 (by decide) ?_
  refine lv_iadd X.1 X.2.1 dL_law_446 ?_
  refine r_toi (nI_add (7 * i) 3) ?_
  refine r_sld X S hX hbl hbA (v := t3) (vp_in_nI (show 7 * i + 3 < L by omega) (by omega)) (by rw [nI_clamp (by omega)]; exact ht3.symm) dL_law_447 ?_
  refine lv_aload_n X.1 X.2.1 dL_law_448 rfl (lv_at hl 1 rfl) ?_
  refine lv_iload X.1 X.2.1 dL_law_449 (lv_at hl 5 rfl) ?_
  refine lv_iconst (v := 4) X.1 X.2.1 dL_law_451 (by decide) ?_
  refine lv_iadd X.1 X.2.1 dL_law_452 ?_
  refine r_toi (nI_add (7 * i) 4) ?_
  refine r_sld X S hX hbl hbA (v := t4) (vp_in_nI (show 7 * i + 4 < L by omega) (by omega)) (by rw [nI_clamp (by omega)]; exact ht4.symm) dL_law_453 ?_
  refine lv_aload_n X.1 X.2.1 dL_law_454 rfl (lv_at hl 1 rfl) ?_
  refine lv_iload X.1 X.2.1 dL_law_455 (lv_at hl 5 rfl) ?_
  refine lv_iconst (v := 5) X.1 X.2.1 dL_law_457 (by decide) ?_
  refine lv_iadd X.1 X.2.1 dL_law_458 ?_
  refine r_toi (nI_add (7 * i) 5) ?_
  refine r_sld X S hX hbl hbA (v := t5) (vp_in_nI (show 7 * i + 5 < L by omega) (by omega)) (by rw [nI_clamp (by omega)]; exact ht5.symm) dL_law_459 ?_
  refine call_i (run_V X S (n_flood l G f_424 st y A V VL thr hI hM1 t1 t2 t3 t4 t5) 5 gL_law_X10_flood rfl rfl rfl (by decide +kernel) ⟨(by exact Nat.le_of_ble_eq_true rfl), (by exact Nat.le_of_ble_eq_true rfl)⟩ ⟨_, _, hy1⟩ rfl rfl rfl hl.1 rfl (by exact Nat.le_of_ble_eq_true rfl) dL_law_460 ⟨(show ck + 8 + 0 ≤ 601024 by omega), (show sk + 337 + 0 ≤ 7293034 by omega)⟩) S (fun r_460 f_460 H locs hr_460 S => ?_)
  obtain ⟨hr2M, hmd2, hr2v⟩ := hr_460
  have ho2 := hmd2 _ _ _ ho1 (by unfold tM; omega)
  obtain ⟨A2, V2, VL2, hM2⟩ := id hr2M
  have hy2 := hM2.1
  have hR2 := hR1.kept (md_mono hmd2 (fun t q => by unfold tM at q; unfold tX; omega)) (sInv_le hI1)
  refine lv_istore (lv' := [(6, .int r_460), (5, .int (nI (k3 (cellP t1 t2 ∧ cellP t3 t4) (inI t5 1 40 ∧ ordP t1 t2 t3 t4) (st 0 1 < 100)))), (0, .ref b), (1, .ref x), (2, .ref y), (3, .ref ou), (4, .int (nI (7 * i)))]) X.1 X.2.1 dL_law_463 hl (by decide) rfl (fun ls hl => ?_)
  refine lv_aload_n X.1 X.2.1 dL_law_465 rfl (lv_at hl 4 rfl) ?_
  refine call_ip (run_V X S (n_thrown l G f_460 y A2 _ _ _ _ _ _ hy2) 0 gL_law_X10_thrown rfl rfl rfl (by decide +kernel) ⟨(by exact Nat.le_of_ble_eq_true rfl), (by exact Nat.le_of_ble_eq_true rfl)⟩ ⟨_, _, hy2⟩ rfl rfl rfl hl.1 rfl (by exact Nat.le_of_ble_eq_true rfl) dL_law_466 ⟨(show ck + 8 + 0 + 0 ≤ 601024 by omega), (show sk + 337 + 0 + 0 ≤ 7293034 by omega)⟩) S (fun r_466 H locs hr_466 S => ?_)
  subst hr_466
  refine lv_iload X.1 X.2.1 dL_law_469 (lv_at hl 1 rfl) ?_
  refine lv_icmp_eq (tgt := 476) X.1 X.2.1 dL_law_471 (by decide) (fun c_471 => ?_) (fun c_471 => ?_)
  · refine lv_iload X.1 X.2.1 dL_law_476 (lv_at hl 1 rfl) ?_
    refine lv_if_ne (tgt := 493) X.1 X.2.1 dL_law_478 (by decide) (fun c_478 => ?_) (fun c_478 => ?_)
    · refine lv_goto (tgt := 1338) X.1 X.2.1 dL_law_493 (by decide) ?_
      exact kk _ f_460 H locs ls _ _ hI1 hR2 ⟨_, hr2M⟩ ⟨wo2, ho2⟩ (by omega) (by omega) S (lv_sub hl [2, 3, 4, 5, 6] rfl)
    · have hk0 := kk3_z c_478
      refine lv_aload_n X.1 X.2.1 dL_law_481 rfl (lv_at hl 5 rfl) ?_
      refine lv_iconst (v := 0) X.1 X.2.1 dL_law_482 (by decide) ?_
      refine r_lald (v := (wo2 0)) X S ho2 (pk_in 0 1 (by omega)) rfl dL_law_483 ?_
      refine lv_iload X.1 X.2.1 dL_law_484 (lv_at hl 0 rfl) ?_
      refine lv_i2l (v := r_460.toInt64) X.1 X.2.1 dL_law_486 rfl ?_
      refine W.lcmp X.1 X.2.1 dL_law_487 ?_
      refine lv_if_eq (tgt := 493) X.1 X.2.1 dL_law_488 (by decide) (fun c_488 => ?_) (fun c_488 => ?_)
      · refine lv_goto (tgt := 1338) X.1 X.2.1 dL_law_493 (by decide) ?_
        exact kk _ f_460 H locs ls _ _ hI1 hR2 ⟨_, hr2M⟩ ⟨wo2, ho2⟩ (by omega) (by omega) S (lv_sub hl [2, 3, 4, 5, 6] rfl)
      · exact absurd (by rw [hw2 hk0, hr2v hk0]; exact lgz _) c_488
  · exact absurd rfl c_471

set_option maxRecDepth 100000 in
set_option maxHeartbeats 4000000 in
/-- the law at soften -/
theorem law_soften {p0 : Program} {l : Launch} {e0 : Env} {s0 : State} {m0 : MethodId} {b0 : List Frame} {meth0 : Method} {c0 : Code} {Q9 : State → Prop} (hst : l.stackTraces = false) {G : cx_G} {b L : Nat} {xs : Nat → Int32} (hX : va_X b L xs s0 s0.heap) (hbl : b < s0.heap.size) (hbA : ¬ gA G b) (hL : L ≤ 3584) (X : cxC G p0 l room_1 c0 cL_law 8 m0 meth0 s0 #[Value.ref b] RL wsL_law) (i : Nat) (hi : 7 * i + 7 ≤ L) (st : St) (f : Wd) (x y ou : Nat) (wo : Nat → Int64) (thr : Int32) (hI : sInv st) (hR0 : RX G f st x) (hM0 : RM G f st y thr) (ho : f ou = some (2000, eJ G 1 wo)) (H : Heap) (locs : List Loc) (ls : Array Slot) (S : cxS G s0 f H locs) (hl : lv_has ls 8 [(0, .ref b), (1, .ref x), (2, .ref y), (3, .ref ou), (4, .int (nI (7 * i)))]) (ck sk : Nat) (hck : ck ≤ 590000) (hsk : sk ≤ 7200000) (kk : ∀ (st2 : St) (f2 : Wd) (H : Heap) (locs : List Loc) (ls : Array Slot) (ck2 sk2 : Nat), sInv st2 → RX G f2 st2 x → (∃ t2 : Int32, RM G f2 st2 y t2) → (∃ w2 : Nat → Int64, f2 ou = some (2000, eJ G 1 w2)) → ck2 ≤ ck + 62 → sk2 ≤ sk + 9192 → cxS G s0 f2 H locs → lv_has ls 8 [(0, .ref b), (1, .ref x), (2, .ref y), (3, .ref ou), (4, .int (nI (7 * i)))] → W p0 l e0 room_1 s0 m0 #[Value.ref b] b0 meth0 c0 H locs ck2 sk2 Q9 (F0 m0 1338 ls [])) : W p0 l e0 room_1 s0 m0 #[Value.ref b] b0 meth0 c0 H locs ck sk Q9 (F0 m0 496 ls []) := by
  obtain ⟨gr9, rw9, L91, L92, L93, cu9, L94, g91, g92, g93, g94, w9, hR9⟩ := id hR0
  have hx := hR9.1
  obtain ⟨t1, ht1⟩ : ∃ z9 : Int32, z9 = xs (7 * i + 1) := ⟨_, rfl⟩
  obtain ⟨t2, ht2⟩ : ∃ z9 : Int32, z9 = xs (7 * i + 2) := ⟨_, rfl⟩
  obtain ⟨t3, ht3⟩ : ∃ z9 : Int32, z9 = xs (7 * i + 3) := ⟨_, rfl⟩
  obtain ⟨t4, ht4⟩ : ∃ z9 : Int32, z9 = xs (7 * i + 4) := ⟨_, rfl⟩
  obtain ⟨t5, ht5⟩ : ∃ z9 : Int32, z9 = xs (7 * i + 5) := ⟨_, rfl⟩
  obtain ⟨t6, ht6⟩ : ∃ z9 : Int32, z9 = xs (7 * i + 6) := ⟨_, rfl⟩
  refine lv_aload_n X.1 X.2.1 dL_law_496 rfl (lv_at hl 1 rfl) ?_
  refine lv_aload_n X.1 X.2.1 dL_law_497 rfl (lv_at hl 0 rfl) ?_
  refine lv_iload X.1 X.2.1 dL_law_498 (lv_at hl 4 rfl) ?_
  refine lv_iconst (v := 1) X.1 X.2.1 dL_law_500 (by decide) ?_
  refine lv_iadd X.1 X.2.1 dL_law_501 ?_
  refine r_toi (nI_add (7 * i) 1) ?_
  refine r_sld X S hX hbl hbA (v := t1) (vp_in_nI (show 7 * i + 1 < L by omega) (by omega)) (by rw [nI_clamp (by omega)]; exact ht1.symm) dL_law_502 ?_
  refine lv_aload_n X.1 X.2.1 dL_law_503 rfl (lv_at hl 3 rfl) ?_
  refine xcall_it (xrun_SX X S (h_soften l hst G f st x hI hR0 t1 ou wo ho) 3 gL_law_L_soften rfl rfl rfl (by decide +kernel) ⟨(by exact Nat.le_of_ble_eq_true rfl), (by exact Nat.le_of_ble_eq_true rfl)⟩ rfl hl.1 rfl (by exact Nat.le_of_ble_eq_true rfl) dL_law_504 ⟨(show ck + 6 ≤ 601024 by omega), (show sk + 332 ≤ 7293034 by omega)⟩) S (fun E H locs qx ce hE => hE.elim) (fun r_h f_504 H locs hr_h S => ?_)
  obtain ⟨rfl, hR1, ⟨wo2, ho1, hw2⟩, hmd1⟩ := hr_h
  have hI1 := i_soften st hI t1
  obtain ⟨A, V, VL, hM1⟩ := hM0.kept2 hmd1 (fun t q => by unfold tX at q; omega)
  have hy1 := hM1.1
  refine lv_istore (lv' := [(5, .int (nI (k2 (inI t1 1 40) (st 0 1 < 100)))), (0, .ref b), (1, .ref x), (2, .ref y), (3, .ref ou), (4, .int (nI (7 * i)))]) X.1 X.2.1 dL_law_507 hl (by decide) rfl (fun ls hl => ?_)
  refine lv_aload_n X.1 X.2.1 dL_law_509 rfl (lv_at hl 3 rfl) ?_
  refine lv_aload_n X.1 X.2.1 dL_law_510 rfl (lv_at hl 1 rfl) ?_
  refine lv_iload X.1 X.2.1 dL_law_511 (lv_at hl 5 rfl) ?_
  refine lv_iconst (v := 1) X.1 X.2.1 dL_law_513 (by decide) ?_
  refine lv_iadd X.1 X.2.1 dL_law_514 ?_
  refine r_toi (nI_add (7 * i) 1) ?_
  refine r_sld X S hX hbl hbA (v := t1) (vp_in_nI (show 7 * i + 1 < L by omega) (by omega)) (by rw [nI_clamp (by omega)]; exact ht1.symm) dL_law_515 ?_
  refine call_i (run_V X S (n_soften l G f_504 st y A V VL thr hI hM1 t1) 1 gL_law_X10_soften rfl rfl rfl (by decide +kernel) ⟨(by exact Nat.le_of_ble_eq_true rfl), (by exact Nat.le_of_ble_eq_true rfl)⟩ ⟨_, _, hy1⟩ rfl rfl rfl hl.1 rfl (by exact Nat.le_of_ble_eq_true rfl) dL_law_516 ⟨(show ck + 6 + 0 ≤ 601024 by omega), (show sk + 332 + 0 ≤ 7293034 by omega)⟩) S (fun r_516 f_516 H locs hr_516 S => ?_)
  obtain ⟨hr2M, hmd2, hr2v⟩ := hr_516
  have ho2 := hmd2 _ _ _ ho1 (by unfold tM; omega)
  obtain ⟨A2, V2, VL2, hM2⟩ := id hr2M
  have hy2 := hM2.1
  have hR2 := hR1.kept (md_mono hmd2 (fun t q => by unfold tM at q; unfold tX; omega)) (sInv_le hI1)
  refine lv_istore (lv' := [(6, .int r_516), (5, .int (nI (k2 (inI t1 1 40) (st 0 1 < 100)))), (0, .ref b), (1, .ref x), (2, .ref y), (3, .ref ou), (4, .int (nI (7 * i)))]) X.1 X.2.1 dL_law_519 hl (by decide) rfl (fun ls hl => ?_)
  refine lv_aload_n X.1 X.2.1 dL_law_521 rfl (lv_at hl 4 rfl) ?_
  refine call_ip (run_V X S (n_thrown l G f_516 y A2 _ _ _ _ _ _ hy2) 0 gL_law_X10_thrown rfl rfl rfl (by decide +kernel) ⟨(by exact Nat.le_of_ble_eq_true rfl), (by exact Nat.le_of_ble_eq_true rfl)⟩ ⟨_, _, hy2⟩ rfl rfl rfl hl.1 rfl (by exact Nat.le_of_ble_eq_true rfl) dL_law_522 ⟨(show ck + 6 + 0 + 0 ≤ 601024 by omega), (show sk + 332 + 0 + 0 ≤ 7293034 by omega)⟩) S (fun r_522 H locs hr_522 S => ?_)
  subst hr_522
  refine lv_iload X.1 X.2.1 dL_law_525 (lv_at hl 1 rfl) ?_
  refine lv_icmp_eq (tgt := 532) X.1 X.2.1 dL_law_527 (by decide) (fun c_527 => ?_) (fun c_527 => ?_)
  · refine lv_iload X.1 X.2.1 dL_law_532 (lv_at hl 1 rfl) ?_
    refine lv_if_ne (tgt := 549) X.1 X.2.1 dL_law_534 (by decide) (fun c_534 => ?_) (fun c_534 => ?_)
    · refine lv_goto (tgt := 1338) X.1 X.2.1 dL_law_549 (by decide) ?_
      exact kk _ f_516 H locs ls _ _ hI1 hR2 ⟨_, hr2M⟩ ⟨wo2, ho2⟩ (by omega) (by omega) S (lv_sub hl [2, 3, 4, 5, 6] rfl)
    · have hk0 := kk2_z c_534
      refine lv_aload_n X.1 X.2.1 dL_law_537 rfl (lv_at hl 5 rfl) ?_
      refine lv_iconst (v := 0) X.1 X.2.1 dL_law_538 (by decide) ?_
      refine r_lald (v := (wo2 0)) X S ho2 (pk_in 0 1 (by omega)) rfl dL_law_539 ?_
      refine lv_iload X.1 X.2.1 dL_law_540 (lv_at hl 0 rfl) ?_
      refine lv_i2l (v := r_516.toInt64) X.1 X.2.1 dL_law_542 rfl ?_
      refine W.lcmp X.1 X.2.1 dL_law_543 ?_
      refine lv_if_eq (tgt := 549) X.1 X.2.1 dL_law_544 (by decide) (fun c_544 => ?_) (fun c_544 => ?_)
      · refine lv_goto (tgt := 1338) X.1 X.2.1 dL_law_549 (by decide) ?_
        exact kk _ f_516 H locs ls _ _ hI1 hR2 ⟨_, hr2M⟩ ⟨wo2, ho2⟩ (by omega) (by omega) S (lv_sub hl [2, 3, 4, 5, 6] rfl)
      · exact absurd (by rw [hw2 hk0, hr2v hk0]; exact lgz _) c_544
  · exact absurd rfl c_527

set_option maxRecDepth 100000 in
set_option maxHeartbeats 4000000 in
/-- the law at eye -/
theorem law_eye {p0 : Program} {l : Launch} {e0 : Env} {s0 : State} {m0 : MethodId} {b0 : List Frame} {meth0 : Method} {c0 : Code} {Q9 : State → Prop} (hst : l.stackTraces = false) {G : cx_G} {b L : Nat} {xs : Nat → Int32} (hX : va_X b L xs s0 s0.heap) (hbl : b < s0.heap.size) (hbA : ¬ gA G b) (hL : L ≤ 3584) (X : cxC G p0 l room_1 c0 cL_law 8 m0 meth0 s0 #[Value.ref b] RL wsL_law) (i : Nat) (hi : 7 * i + 7 ≤ L) (st : St) (f : Wd) (x y ou : Nat) (wo : Nat → Int64) (thr : Int32) (hI : sInv st) (hR0 : RX G f st x) (hM0 : RM G f st y thr) (ho : f ou = some (2000, eJ G 1 wo)) (H : Heap) (locs : List Loc) (ls : Array Slot) (S : cxS G s0 f H locs) (hl : lv_has ls 8 [(0, .ref b), (1, .ref x), (2, .ref y), (3, .ref ou), (4, .int (nI (7 * i)))]) (ck sk : Nat) (hck : ck ≤ 590000) (hsk : sk ≤ 7200000) (kk : ∀ (st2 : St) (f2 : Wd) (H : Heap) (locs : List Loc) (ls : Array Slot) (ck2 sk2 : Nat), sInv st2 → RX G f2 st2 x → (∃ t2 : Int32, RM G f2 st2 y t2) → (∃ w2 : Nat → Int64, f2 ou = some (2000, eJ G 1 w2)) → ck2 ≤ ck + 62 → sk2 ≤ sk + 9192 → cxS G s0 f2 H locs → lv_has ls 8 [(0, .ref b), (1, .ref x), (2, .ref y), (3, .ref ou), (4, .int (nI (7 * i)))] → W p0 l e0 room_1 s0 m0 #[Value.ref b] b0 meth0 c0 H locs ck2 sk2 Q9 (F0 m0 1338 ls [])) : W p0 l e0 room_1 s0 m0 #[Value.ref b] b0 meth0 c0 H locs ck sk Q9 (F0 m0 552 ls []) := by
  obtain ⟨gr9, rw9, L91, L92, L93, cu9, L94, g91, g92, g93, g94, w9, hR9⟩ := id hR0
  have hx := hR9.1
  obtain ⟨t1, ht1⟩ : ∃ z9 : Int32, z9 = xs (7 * i + 1) := ⟨_, rfl⟩
  obtain ⟨t2, ht2⟩ : ∃ z9 : Int32, z9 = xs (7 * i + 2) := ⟨_, rfl⟩
  obtain ⟨t3, ht3⟩ : ∃ z9 : Int32, z9 = xs (7 * i + 3) := ⟨_, rfl⟩
  obtain ⟨t4, ht4⟩ : ∃ z9 : Int32, z9 = xs (7 * i + 4) := ⟨_, rfl⟩
  obtain ⟨t5, ht5⟩ : ∃ z9 : Int32, z9 = xs (7 * i + 5) := ⟨_, rfl⟩
  obtain ⟨t6, ht6⟩ : ∃ z9 : Int32, z9 = xs (7 * i + 6) := ⟨_, rfl⟩
  refine lv_aload_n X.1 X.2.1 dL_law_552 rfl (lv_at hl 1 rfl) ?_
  refine lv_aload_n X.1 X.2.1 dL_law_553 rfl (lv_at hl 0 rfl) ?_
  refine lv_iload X.1 X.2.1 dL_law_554 (lv_at hl 4 rfl) ?_
  refine lv_iconst (v := 1) X.1 X.2.1 dL_law_556 (by decide) ?_
  refine lv_iadd X.1 X.2.1 dL_law_557 ?_
  refine r_toi (nI_add (7 * i) 1) ?_
  refine r_sld X S hX hbl hbA (v := t1) (vp_in_nI (show 7 * i + 1 < L by omega) (by omega)) (by rw [nI_clamp (by omega)]; exact ht1.symm) dL_law_558 ?_
  refine lv_aload_n X.1 X.2.1 dL_law_559 rfl (lv_at hl 3 rfl) ?_
  refine xcall_it (xrun_SX X S (h_eye l hst G f st x hI hR0 t1 ou wo ho) 3 gL_law_L_eye rfl rfl rfl (by decide +kernel) ⟨(by exact Nat.le_of_ble_eq_true rfl), (by exact Nat.le_of_ble_eq_true rfl)⟩ rfl hl.1 rfl (by exact Nat.le_of_ble_eq_true rfl) dL_law_560 ⟨(show ck + 3 ≤ 601024 by omega), (show sk + 307 ≤ 7293034 by omega)⟩) S (fun E H locs qx ce hE => hE.elim) (fun r_h f_560 H locs hr_h S => ?_)
  obtain ⟨rfl, hR1, ⟨wo2, ho1, hw2⟩, hmd1⟩ := hr_h
  have hI1 := i_eye st hI t1
  obtain ⟨A, V, VL, hM1⟩ := hM0.kept2 hmd1 (fun t q => by unfold tX at q; omega)
  have hy1 := hM1.1
  refine lv_istore (lv' := [(5, .int (nI (k2 (inI t1 1 9) (st 0 2 < 6)))), (0, .ref b), (1, .ref x), (2, .ref y), (3, .ref ou), (4, .int (nI (7 * i)))]) X.1 X.2.1 dL_law_563 hl (by decide) rfl (fun ls hl => ?_)
  refine lv_aload_n X.1 X.2.1 dL_law_565 rfl (lv_at hl 3 rfl) ?_
  refine lv_aload_n X.1 X.2.1 dL_law_566 rfl (lv_at hl 1 rfl) ?_
  refine lv_iload X.1 X.2.1 dL_law_567 (lv_at hl 5 rfl) ?_
  refine lv_iconst (v := 1) X.1 X.2.1 dL_law_569 (by decide) ?_
  refine lv_iadd X.1 X.2.1 dL_law_570 ?_
  refine r_toi (nI_add (7 * i) 1) ?_
  refine r_sld X S hX hbl hbA (v := t1) (vp_in_nI (show 7 * i + 1 < L by omega) (by omega)) (by rw [nI_clamp (by omega)]; exact ht1.symm) dL_law_571 ?_
  refine call_i (run_V X S (n_eye l G f_560 st y A V VL thr hI hM1 t1) 1 gL_law_X10_eye rfl rfl rfl (by decide +kernel) ⟨(by exact Nat.le_of_ble_eq_true rfl), (by exact Nat.le_of_ble_eq_true rfl)⟩ ⟨_, _, hy1⟩ rfl rfl rfl hl.1 rfl (by exact Nat.le_of_ble_eq_true rfl) dL_law_572 ⟨(show ck + 3 + 0 ≤ 601024 by omega), (show sk + 307 + 0 ≤ 7293034 by omega)⟩) S (fun r_572 f_572 H locs hr_572 S => ?_)
  obtain ⟨hr2M, hmd2, hr2v⟩ := hr_572
  have ho2 := hmd2 _ _ _ ho1 (by unfold tM; omega)
  obtain ⟨A2, V2, VL2, hM2⟩ := id hr2M
  have hy2 := hM2.1
  have hR2 := hR1.kept (md_mono hmd2 (fun t q => by unfold tM at q; unfold tX; omega)) (sInv_le hI1)
  refine lv_istore (lv' := [(6, .int r_572), (5, .int (nI (k2 (inI t1 1 9) (st 0 2 < 6)))), (0, .ref b), (1, .ref x), (2, .ref y), (3, .ref ou), (4, .int (nI (7 * i)))]) X.1 X.2.1 dL_law_575 hl (by decide) rfl (fun ls hl => ?_)
  refine lv_aload_n X.1 X.2.1 dL_law_577 rfl (lv_at hl 4 rfl) ?_
  refine call_ip (run_V X S (n_thrown l G f_572 y A2 _ _ _ _ _ _ hy2) 0 gL_law_X10_thrown rfl rfl rfl (by decide +kernel) ⟨(by exact Nat.le_of_ble_eq_true rfl), (by exact Nat.le_of_ble_eq_true rfl)⟩ ⟨_, _, hy2⟩ rfl rfl rfl hl.1 rfl (by exact Nat.le_of_ble_eq_true rfl) dL_law_578 ⟨(show ck + 3 + 0 + 0 ≤ 601024 by omega), (show sk + 307 + 0 + 0 ≤ 7293034 by omega)⟩) S (fun r_578 H locs hr_578 S => ?_)
  subst hr_578
  refine lv_iload X.1 X.2.1 dL_law_581 (lv_at hl 1 rfl) ?_
  refine lv_icmp_eq (tgt := 588) X.1 X.2.1 dL_law_583 (by decide) (fun c_583 => ?_) (fun c_583 => ?_)
  · refine lv_iload X.1 X.2.1 dL_law_588 (lv_at hl 1 rfl) ?_
    refine lv_if_ne (tgt := 605) X.1 X.2.1 dL_law_590 (by decide) (fun c_590 => ?_) (fun c_590 => ?_)
    · refine lv_goto (tgt := 1338) X.1 X.2.1 dL_law_605 (by decide) ?_
      exact kk _ f_572 H locs ls _ _ hI1 hR2 ⟨_, hr2M⟩ ⟨wo2, ho2⟩ (by omega) (by omega) S (lv_sub hl [2, 3, 4, 5, 6] rfl)
    · have hk0 := kk2_z c_590
      refine lv_aload_n X.1 X.2.1 dL_law_593 rfl (lv_at hl 5 rfl) ?_
      refine lv_iconst (v := 0) X.1 X.2.1 dL_law_594 (by decide) ?_
      refine r_lald (v := (wo2 0)) X S ho2 (pk_in 0 1 (by omega)) rfl dL_law_595 ?_
      refine lv_iload X.1 X.2.1 dL_law_596 (lv_at hl 0 rfl) ?_
      refine lv_i2l (v := r_572.toInt64) X.1 X.2.1 dL_law_598 rfl ?_
      refine W.lcmp X.1 X.2.1 dL_law_599 ?_
      refine lv_if_eq (tgt := 605) X.1 X.2.1 dL_law_600 (by decide) (fun c_600 => ?_) (fun c_600 => ?_)
      · refine lv_goto (tgt := 1338) X.1 X.2.1 dL_law_605 (by decide) ?_
        exact kk _ f_572 H locs ls _ _ hI1 hR2 ⟨_, hr2M⟩ ⟨wo2, ho2⟩ (by omega) (by omega) S (lv_sub hl [2, 3, 4, 5, 6] rfl)
      · exact absurd (by rw [hw2 hk0, hr2v hk0]; exact lgz _) c_600
  · exact absurd rfl c_583

set_option maxRecDepth 100000 in
set_option maxHeartbeats 4000000 in
/-- the law at anchor -/
theorem law_anchor {p0 : Program} {l : Launch} {e0 : Env} {s0 : State} {m0 : MethodId} {b0 : List Frame} {meth0 : Method} {c0 : Code} {Q9 : State → Prop} (hst : l.stackTraces = false) {G : cx_G} {b L : Nat} {xs : Nat → Int32} (hX : va_X b L xs s0 s0.heap) (hbl : b < s0.heap.size) (hbA : ¬ gA G b) (hL : L ≤ 3584) (X : cxC G p0 l room_1 c0 cL_law 8 m0 meth0 s0 #[Value.ref b] RL wsL_law) (i : Nat) (hi : 7 * i + 7 ≤ L) (st : St) (f : Wd) (x y ou : Nat) (wo : Nat → Int64) (thr : Int32) (hI : sInv st) (hR0 : RX G f st x) (hM0 : RM G f st y thr) (ho : f ou = some (2000, eJ G 1 wo)) (H : Heap) (locs : List Loc) (ls : Array Slot) (S : cxS G s0 f H locs) (hl : lv_has ls 8 [(0, .ref b), (1, .ref x), (2, .ref y), (3, .ref ou), (4, .int (nI (7 * i)))]) (ck sk : Nat) (hck : ck ≤ 590000) (hsk : sk ≤ 7200000) (kk : ∀ (st2 : St) (f2 : Wd) (H : Heap) (locs : List Loc) (ls : Array Slot) (ck2 sk2 : Nat), sInv st2 → RX G f2 st2 x → (∃ t2 : Int32, RM G f2 st2 y t2) → (∃ w2 : Nat → Int64, f2 ou = some (2000, eJ G 1 w2)) → ck2 ≤ ck + 62 → sk2 ≤ sk + 9192 → cxS G s0 f2 H locs → lv_has ls 8 [(0, .ref b), (1, .ref x), (2, .ref y), (3, .ref ou), (4, .int (nI (7 * i)))] → W p0 l e0 room_1 s0 m0 #[Value.ref b] b0 meth0 c0 H locs ck2 sk2 Q9 (F0 m0 1338 ls [])) : W p0 l e0 room_1 s0 m0 #[Value.ref b] b0 meth0 c0 H locs ck sk Q9 (F0 m0 608 ls []) := by
  obtain ⟨gr9, rw9, L91, L92, L93, cu9, L94, g91, g92, g93, g94, w9, hR9⟩ := id hR0
  have hx := hR9.1
  obtain ⟨t1, ht1⟩ : ∃ z9 : Int32, z9 = xs (7 * i + 1) := ⟨_, rfl⟩
  obtain ⟨t2, ht2⟩ : ∃ z9 : Int32, z9 = xs (7 * i + 2) := ⟨_, rfl⟩
  obtain ⟨t3, ht3⟩ : ∃ z9 : Int32, z9 = xs (7 * i + 3) := ⟨_, rfl⟩
  obtain ⟨t4, ht4⟩ : ∃ z9 : Int32, z9 = xs (7 * i + 4) := ⟨_, rfl⟩
  obtain ⟨t5, ht5⟩ : ∃ z9 : Int32, z9 = xs (7 * i + 5) := ⟨_, rfl⟩
  obtain ⟨t6, ht6⟩ : ∃ z9 : Int32, z9 = xs (7 * i + 6) := ⟨_, rfl⟩
  refine lv_aload_n X.1 X.2.1 dL_law_608 rfl (lv_at hl 1 rfl) ?_
  refine lv_aload_n X.1 X.2.1 dL_law_609 rfl (lv_at hl 0 rfl) ?_
  refine lv_iload X.1 X.2.1 dL_law_610 (lv_at hl 4 rfl) ?_
  refine lv_iconst (v := 1) X.1 X.2.1 dL_law_612 (by decide) ?_
  refine lv_iadd X.1 X.2.1 dL_law_613 ?_
  refine r_toi (nI_add (7 * i) 1) ?_
  refine r_sld X S hX hbl hbA (v := t1) (vp_in_nI (show 7 * i + 1 < L by omega) (by omega)) (by rw [nI_clamp (by omega)]; exact ht1.symm) dL_law_614 ?_
  refine lv_i2l (v := t1.toInt64) X.1 X.2.1 dL_law_615 rfl ?_
  refine lv_bipush (v := 32) X.1 X.2.1 dL_law_616 (by decide) ?_
  refine lv_lshl (v := t1.toInt64 <<< ((32 : Int32).toInt64 &&& 63)) X.1 X.2.1 dL_law_618 rfl ?_
  refine lv_aload_n X.1 X.2.1 dL_law_619 rfl (lv_at hl 0 rfl) ?_
  refine lv_iload X.1 X.2.1 dL_law_620 (lv_at hl 4 rfl) ?_
  refine lv_iconst (v := 2) X.1 X.2.1 dL_law_622 (by decide) ?_
  refine lv_iadd X.1 X.2.1 dL_law_623 ?_
  refine r_toi (nI_add (7 * i) 2) ?_
  refine r_sld X S hX hbl hbA (v := t2) (vp_in_nI (show 7 * i + 2 < L by omega) (by omega)) (by rw [nI_clamp (by omega)]; exact ht2.symm) dL_law_624 ?_
  refine lv_i2l (v := t2.toInt64) X.1 X.2.1 dL_law_625 rfl ?_
  refine r_ldc2 (v := 4294967295) X (by decide +kernel) dL_law_626 ?_
  refine lv_land X.1 X.2.1 dL_law_629 ?_
  refine lv_lor X.1 X.2.1 dL_law_630 ?_
  refine lv_aload_n X.1 X.2.1 dL_law_631 rfl (lv_at hl 0 rfl) ?_
  refine lv_iload X.1 X.2.1 dL_law_632 (lv_at hl 4 rfl) ?_
  refine lv_iconst (v := 3) X.1 X.2.1 dL_law_634 (by decide) ?_
  refine lv_iadd X.1 X.2.1 dL_law_635 ?_
  refine r_toi (nI_add (7 * i) 3) ?_
  refine r_sld X S hX hbl hbA (v := t3) (vp_in_nI (show 7 * i + 3 < L by omega) (by omega)) (by rw [nI_clamp (by omega)]; exact ht3.symm) dL_law_636 ?_
  refine lv_i2l (v := t3.toInt64) X.1 X.2.1 dL_law_637 rfl ?_
  refine lv_bipush (v := 32) X.1 X.2.1 dL_law_638 (by decide) ?_
  refine lv_lshl (v := t3.toInt64 <<< ((32 : Int32).toInt64 &&& 63)) X.1 X.2.1 dL_law_640 rfl ?_
  refine lv_aload_n X.1 X.2.1 dL_law_641 rfl (lv_at hl 0 rfl) ?_
  refine lv_iload X.1 X.2.1 dL_law_642 (lv_at hl 4 rfl) ?_
  refine lv_iconst (v := 4) X.1 X.2.1 dL_law_644 (by decide) ?_
  refine lv_iadd X.1 X.2.1 dL_law_645 ?_
  refine r_toi (nI_add (7 * i) 4) ?_
  refine r_sld X S hX hbl hbA (v := t4) (vp_in_nI (show 7 * i + 4 < L by omega) (by omega)) (by rw [nI_clamp (by omega)]; exact ht4.symm) dL_law_646 ?_
  refine lv_i2l (v := t4.toInt64) X.1 X.2.1 dL_law_647 rfl ?_
  refine r_ldc2 (v := 4294967295) X (by decide +kernel) dL_law_648 ?_
  refine lv_land X.1 X.2.1 dL_law_651 ?_
  refine lv_lor X.1 X.2.1 dL_law_652 ?_
  refine lv_aload_n X.1 X.2.1 dL_law_653 rfl (lv_at hl 3 rfl) ?_
  refine xcall_it (xrun_SX X S (h_anchor l hst G f st x hI hR0 ((t1.toInt64 <<< ((32 : Int32).toInt64 &&& 63)) ||| (t2.toInt64 &&& 4294967295)) ((t3.toInt64 <<< ((32 : Int32).toInt64 &&& 63)) ||| (t4.toInt64 &&& 4294967295)) ou wo ho) 4 gL_law_L_anchor rfl rfl rfl (by decide +kernel) ⟨(by exact Nat.le_of_ble_eq_true rfl), (by exact Nat.le_of_ble_eq_true rfl)⟩ rfl hl.1 rfl (by exact Nat.le_of_ble_eq_true rfl) dL_law_654 ⟨(show ck + 4 ≤ 601024 by omega), (show sk + 314 ≤ 7293034 by omega)⟩) S (fun E H locs qx ce hE => hE.elim) (fun r_h f_654 H locs hr_h S => ?_)
  obtain ⟨rfl, hR1, ⟨wo2, ho1, hw2⟩, hmd1⟩ := hr_h
  have hI1 := i_anchor st hI ((t1.toInt64 <<< ((32 : Int32).toInt64 &&& 63)) ||| (t2.toInt64 &&& 4294967295)) ((t3.toInt64 <<< ((32 : Int32).toInt64 &&& 63)) ||| (t4.toInt64 &&& 4294967295))
  obtain ⟨A, V, VL, hM1⟩ := hM0.kept2 hmd1 (fun t q => by unfold tX at q; omega)
  have hy1 := hM1.1
  refine lv_istore (lv' := [(5, .int (nI (k2 (rgL ((t1.toInt64 <<< ((32 : Int32).toInt64 &&& 63)) ||| (t2.toInt64 &&& 4294967295)) 1 5000000000 ∧ rgL ((t3.toInt64 <<< ((32 : Int32).toInt64 &&& 63)) ||| (t4.toInt64 &&& 4294967295)) 1 100000000) (canP st (nL ((t1.toInt64 <<< ((32 : Int32).toInt64 &&& 63)) ||| (t2.toInt64 &&& 4294967295))) (nL ((t3.toInt64 <<< ((32 : Int32).toInt64 &&& 63)) ||| (t4.toInt64 &&& 4294967295))))))), (0, .ref b), (1, .ref x), (2, .ref y), (3, .ref ou), (4, .int (nI (7 * i)))]) X.1 X.2.1 dL_law_657 hl (by decide) rfl (fun ls hl => ?_)
  refine lv_aload_n X.1 X.2.1 dL_law_659 rfl (lv_at hl 3 rfl) ?_
  refine lv_aload_n X.1 X.2.1 dL_law_660 rfl (lv_at hl 1 rfl) ?_
  refine lv_iload X.1 X.2.1 dL_law_661 (lv_at hl 5 rfl) ?_
  refine lv_iconst (v := 1) X.1 X.2.1 dL_law_663 (by decide) ?_
  refine lv_iadd X.1 X.2.1 dL_law_664 ?_
  refine r_toi (nI_add (7 * i) 1) ?_
  refine r_sld X S hX hbl hbA (v := t1) (vp_in_nI (show 7 * i + 1 < L by omega) (by omega)) (by rw [nI_clamp (by omega)]; exact ht1.symm) dL_law_665 ?_
  refine lv_i2l (v := t1.toInt64) X.1 X.2.1 dL_law_666 rfl ?_
  refine lv_bipush (v := 32) X.1 X.2.1 dL_law_667 (by decide) ?_
  refine lv_lshl (v := t1.toInt64 <<< ((32 : Int32).toInt64 &&& 63)) X.1 X.2.1 dL_law_669 rfl ?_
  refine lv_aload_n X.1 X.2.1 dL_law_670 rfl (lv_at hl 1 rfl) ?_
  refine lv_iload X.1 X.2.1 dL_law_671 (lv_at hl 5 rfl) ?_
  refine lv_iconst (v := 2) X.1 X.2.1 dL_law_673 (by decide) ?_
  refine lv_iadd X.1 X.2.1 dL_law_674 ?_
  refine r_toi (nI_add (7 * i) 2) ?_
  refine r_sld X S hX hbl hbA (v := t2) (vp_in_nI (show 7 * i + 2 < L by omega) (by omega)) (by rw [nI_clamp (by omega)]; exact ht2.symm) dL_law_675 ?_
  refine lv_i2l (v := t2.toInt64) X.1 X.2.1 dL_law_676 rfl ?_
  refine r_ldc2 (v := 4294967295) X (by decide +kernel) dL_law_677 ?_
  refine lv_land X.1 X.2.1 dL_law_680 ?_
  refine lv_lor X.1 X.2.1 dL_law_681 ?_
  refine lv_aload_n X.1 X.2.1 dL_law_682 rfl (lv_at hl 1 rfl) ?_
  refine lv_iload X.1 X.2.1 dL_law_683 (lv_at hl 5 rfl) ?_
  refine lv_iconst (v := 3) X.1 X.2.1 dL_law_685 (by decide) ?_
  refine lv_iadd X.1 X.2.1 dL_law_686 ?_
  refine r_toi (nI_add (7 * i) 3) ?_
  refine r_sld X S hX hbl hbA (v := t3) (vp_in_nI (show 7 * i + 3 < L by omega) (by omega)) (by rw [nI_clamp (by omega)]; exact ht3.symm) dL_law_687 ?_
  refine lv_i2l (v := t3.toInt64) X.1 X.2.1 dL_law_688 rfl ?_
  refine lv_bipush (v := 32) X.1 X.2.1 dL_law_689 (by decide) ?_
  refine lv_lshl (v := t3.toInt64 <<< ((32 : Int32).toInt64 &&& 63)) X.1 X.2.1 dL_law_691 rfl ?_
  refine lv_aload_n X.1 X.2.1 dL_law_692 rfl (lv_at hl 1 rfl) ?_
  refine lv_iload X.1 X.2.1 dL_law_693 (lv_at hl 5 rfl) ?_
  refine lv_iconst (v := 4) X.1 X.2.1 dL_law_695 (by decide) ?_
  refine lv_iadd X.1 X.2.1 dL_law_696 ?_
  refine r_toi (nI_add (7 * i) 4) ?_
  refine r_sld X S hX hbl hbA (v := t4) (vp_in_nI (show 7 * i + 4 < L by omega) (by omega)) (by rw [nI_clamp (by omega)]; exact ht4.symm) dL_law_697 ?_
  refine lv_i2l (v := t4.toInt64) X.1 X.2.1 dL_law_698 rfl ?_
  refine r_ldc2 (v := 4294967295) X (by decide +kernel) dL_law_699 ?_
  refine lv_land X.1 X.2.1 dL_law_702 ?_
  refine lv_lor X.1 X.2.1 dL_law_703 ?_
  refine call_i (run_V X S (n_anchor l G f_654 st y A V VL thr hI hM1 ((t1.toInt64 <<< ((32 : Int32).toInt64 &&& 63)) ||| (t2.toInt64 &&& 4294967295)) ((t3.toInt64 <<< ((32 : Int32).toInt64 &&& 63)) ||| (t4.toInt64 &&& 4294967295))) 2 gL_law_X10_anchor rfl rfl rfl (by decide +kernel) ⟨(by exact Nat.le_of_ble_eq_true rfl), (by exact Nat.le_of_ble_eq_true rfl)⟩ ⟨_, _, hy1⟩ rfl rfl rfl hl.1 rfl (by exact Nat.le_of_ble_eq_true rfl) dL_law_704 ⟨(show ck + 4 + 0 ≤ 601024 by omega), (show sk + 314 + 0 ≤ 7293034 by omega)⟩) S (fun r_704 f_704 H locs hr_704 S => ?_)
  obtain ⟨hr2M, hmd2, hr2v⟩ := hr_704
  have ho2 := hmd2 _ _ _ ho1 (by unfold tM; omega)
  obtain ⟨A2, V2, VL2, hM2⟩ := id hr2M
  have hy2 := hM2.1
  have hR2 := hR1.kept (md_mono hmd2 (fun t q => by unfold tM at q; unfold tX; omega)) (sInv_le hI1)
  refine lv_istore (lv' := [(6, .int r_704), (5, .int (nI (k2 (rgL ((t1.toInt64 <<< ((32 : Int32).toInt64 &&& 63)) ||| (t2.toInt64 &&& 4294967295)) 1 5000000000 ∧ rgL ((t3.toInt64 <<< ((32 : Int32).toInt64 &&& 63)) ||| (t4.toInt64 &&& 4294967295)) 1 100000000) (canP st (nL ((t1.toInt64 <<< ((32 : Int32).toInt64 &&& 63)) ||| (t2.toInt64 &&& 4294967295))) (nL ((t3.toInt64 <<< ((32 : Int32).toInt64 &&& 63)) ||| (t4.toInt64 &&& 4294967295))))))), (0, .ref b), (1, .ref x), (2, .ref y), (3, .ref ou), (4, .int (nI (7 * i)))]) X.1 X.2.1 dL_law_707 hl (by decide) rfl (fun ls hl => ?_)
  refine lv_aload_n X.1 X.2.1 dL_law_709 rfl (lv_at hl 4 rfl) ?_
  refine call_ip (run_V X S (n_thrown l G f_704 y A2 _ _ _ _ _ _ hy2) 0 gL_law_X10_thrown rfl rfl rfl (by decide +kernel) ⟨(by exact Nat.le_of_ble_eq_true rfl), (by exact Nat.le_of_ble_eq_true rfl)⟩ ⟨_, _, hy2⟩ rfl rfl rfl hl.1 rfl (by exact Nat.le_of_ble_eq_true rfl) dL_law_710 ⟨(show ck + 4 + 0 + 0 ≤ 601024 by omega), (show sk + 314 + 0 + 0 ≤ 7293034 by omega)⟩) S (fun r_710 H locs hr_710 S => ?_)
  subst hr_710
  refine lv_iload X.1 X.2.1 dL_law_713 (lv_at hl 1 rfl) ?_
  refine lv_icmp_eq (tgt := 720) X.1 X.2.1 dL_law_715 (by decide) (fun c_715 => ?_) (fun c_715 => ?_)
  · refine lv_iload X.1 X.2.1 dL_law_720 (lv_at hl 1 rfl) ?_
    refine lv_if_ne (tgt := 737) X.1 X.2.1 dL_law_722 (by decide) (fun c_722 => ?_) (fun c_722 => ?_)
    · refine lv_goto (tgt := 1338) X.1 X.2.1 dL_law_737 (by decide) ?_
      exact kk _ f_704 H locs ls _ _ hI1 hR2 ⟨_, hr2M⟩ ⟨wo2, ho2⟩ (by omega) (by omega) S (lv_sub hl [2, 3, 4, 5, 6] rfl)
    · have hk0 := kk2_z c_722
      refine lv_aload_n X.1 X.2.1 dL_law_725 rfl (lv_at hl 5 rfl) ?_
      refine lv_iconst (v := 0) X.1 X.2.1 dL_law_726 (by decide) ?_
      refine r_lald (v := (wo2 0)) X S ho2 (pk_in 0 1 (by omega)) rfl dL_law_727 ?_
      refine lv_iload X.1 X.2.1 dL_law_728 (lv_at hl 0 rfl) ?_
      refine lv_i2l (v := r_704.toInt64) X.1 X.2.1 dL_law_730 rfl ?_
      refine W.lcmp X.1 X.2.1 dL_law_731 ?_
      refine lv_if_eq (tgt := 737) X.1 X.2.1 dL_law_732 (by decide) (fun c_732 => ?_) (fun c_732 => ?_)
      · refine lv_goto (tgt := 1338) X.1 X.2.1 dL_law_737 (by decide) ?_
        exact kk _ f_704 H locs ls _ _ hI1 hR2 ⟨_, hr2M⟩ ⟨wo2, ho2⟩ (by omega) (by omega) S (lv_sub hl [2, 3, 4, 5, 6] rfl)
      · exact absurd (by rw [hw2 hk0, hr2v hk0]; exact lgz _) c_732
  · exact absurd rfl c_715

set_option maxRecDepth 100000 in
set_option maxHeartbeats 4000000 in
/-- the law at count -/
theorem law_count {p0 : Program} {l : Launch} {e0 : Env} {s0 : State} {m0 : MethodId} {b0 : List Frame} {meth0 : Method} {c0 : Code} {Q9 : State → Prop} (hst : l.stackTraces = false) {G : cx_G} {b L : Nat} {xs : Nat → Int32} (hX : va_X b L xs s0 s0.heap) (hbl : b < s0.heap.size) (hbA : ¬ gA G b) (hL : L ≤ 3584) (X : cxC G p0 l room_1 c0 cL_law 8 m0 meth0 s0 #[Value.ref b] RL wsL_law) (i : Nat) (hi : 7 * i + 7 ≤ L) (st : St) (f : Wd) (x y ou : Nat) (wo : Nat → Int64) (thr : Int32) (hI : sInv st) (hR0 : RX G f st x) (hM0 : RM G f st y thr) (ho : f ou = some (2000, eJ G 1 wo)) (H : Heap) (locs : List Loc) (ls : Array Slot) (S : cxS G s0 f H locs) (hl : lv_has ls 8 [(0, .ref b), (1, .ref x), (2, .ref y), (3, .ref ou), (4, .int (nI (7 * i)))]) (ck sk : Nat) (hck : ck ≤ 590000) (hsk : sk ≤ 7200000) (kk : ∀ (st2 : St) (f2 : Wd) (H : Heap) (locs : List Loc) (ls : Array Slot) (ck2 sk2 : Nat), sInv st2 → RX G f2 st2 x → (∃ t2 : Int32, RM G f2 st2 y t2) → (∃ w2 : Nat → Int64, f2 ou = some (2000, eJ G 1 w2)) → ck2 ≤ ck + 62 → sk2 ≤ sk + 9192 → cxS G s0 f2 H locs → lv_has ls 8 [(0, .ref b), (1, .ref x), (2, .ref y), (3, .ref ou), (4, .int (nI (7 * i)))] → W p0 l e0 room_1 s0 m0 #[Value.ref b] b0 meth0 c0 H locs ck2 sk2 Q9 (F0 m0 1338 ls [])) : W p0 l e0 room_1 s0 m0 #[Value.ref b] b0 meth0 c0 H locs ck sk Q9 (F0 m0 740 ls []) := by
  obtain ⟨gr9, rw9, L91, L92, L93, cu9, L94, g91, g92, g93, g94, w9, hR9⟩ := id hR0
  have hx := hR9.1
  obtain ⟨t1, ht1⟩ : ∃ z9 : Int32, z9 = xs (7 * i + 1) := ⟨_, rfl⟩
  obtain ⟨t2, ht2⟩ : ∃ z9 : Int32, z9 = xs (7 * i + 2) := ⟨_, rfl⟩
  obtain ⟨t3, ht3⟩ : ∃ z9 : Int32, z9 = xs (7 * i + 3) := ⟨_, rfl⟩
  obtain ⟨t4, ht4⟩ : ∃ z9 : Int32, z9 = xs (7 * i + 4) := ⟨_, rfl⟩
  obtain ⟨t5, ht5⟩ : ∃ z9 : Int32, z9 = xs (7 * i + 5) := ⟨_, rfl⟩
  obtain ⟨t6, ht6⟩ : ∃ z9 : Int32, z9 = xs (7 * i + 6) := ⟨_, rfl⟩
  refine lv_aload_n X.1 X.2.1 dL_law_740 rfl (lv_at hl 1 rfl) ?_
  refine lv_aload_n X.1 X.2.1 dL_law_741 rfl (lv_at hl 0 rfl) ?_
  refine lv_iload X.1 X.2.1 dL_law_742 (lv_at hl 4 rfl) ?_
  refine lv_iconst (v := 1) X.1 X.2.1 dL_law_744 (by decide) ?_
  refine lv_iadd X.1 X.2.1 dL_law_745 ?_
  refine r_toi (nI_add (7 * i) 1) ?_
  refine r_sld X S hX hbl hbA (v := t1) (vp_in_nI (show 7 * i + 1 < L by omega) (by omega)) (by rw [nI_clamp (by omega)]; exact ht1.symm) dL_law_746 ?_
  refine lv_aload_n X.1 X.2.1 dL_law_747 rfl (lv_at hl 0 rfl) ?_
  refine lv_iload X.1 X.2.1 dL_law_748 (lv_at hl 4 rfl) ?_
  refine lv_iconst (v := 2) X.1 X.2.1 dL_law_750 (by decide) ?_
  refine lv_iadd X.1 X.2.1 dL_law_751 ?_
  refine r_toi (nI_add (7 * i) 2) ?_
  refine r_sld X S hX hbl hbA (v := t2) (vp_in_nI (show 7 * i + 2 < L by omega) (by omega)) (by rw [nI_clamp (by omega)]; exact ht2.symm) dL_law_752 ?_
  refine lv_aload_n X.1 X.2.1 dL_law_753 rfl (lv_at hl 0 rfl) ?_
  refine lv_iload X.1 X.2.1 dL_law_754 (lv_at hl 4 rfl) ?_
  refine lv_iconst (v := 3) X.1 X.2.1 dL_law_756 (by decide) ?_
  refine lv_iadd X.1 X.2.1 dL_law_757 ?_
  refine r_toi (nI_add (7 * i) 3) ?_
  refine r_sld X S hX hbl hbA (v := t3) (vp_in_nI (show 7 * i + 3 < L by omega) (by omega)) (by rw [nI_clamp (by omega)]; exact ht3.symm) dL_law_758 ?_
  refine lv_aload_n X.1 X.2.1 dL_law_759 rfl (lv_at hl 0 rfl) ?_
  refine lv_iload X.1 X.2.1 dL_law_760 (lv_at hl 4 rfl) ?_
  refine lv_iconst (v := 4) X.1 X.2.1 dL_law_762 (by decide) ?_
  refine lv_iadd X.1 X.2.1 dL_law_763 ?_
  refine r_toi (nI_add (7 * i) 4) ?_
  refine r_sld X S hX hbl hbA (v := t4) (vp_in_nI (show 7 * i + 4 < L by omega) (by omega)) (by rw [nI_clamp (by omega)]; exact ht4.symm) dL_law_764 ?_
  refine lv_aload_n X.1 X.2.1 dL_law_765 rfl (lv_at hl 0 rfl) ?_
  refine lv_iload X.1 X.2.1 dL_law_766 (lv_at hl 4 rfl) ?_
  refine lv_iconst (v := 5) X.1 X.2.1 dL_law_768 (by decide) ?_
  refine lv_iadd X.1 X.2.1 dL_law_769 ?_
  refine r_toi (nI_add (7 * i) 5) ?_
  refine r_sld X S hX hbl hbA (v := t5) (vp_in_nI (show 7 * i + 5 < L by omega) (by omega)) (by rw [nI_clamp (by omega)]; exact ht5.symm) dL_law_770 ?_
  refine lv_aload_n X.1 X.2.1 dL_law_771 rfl (lv_at hl 0 rfl) ?_
  refine lv_iload X.1 X.2.1 dL_law_772 (lv_at hl 4 rfl) ?_
  refine lv_bipush (v := 6) X.1 X.2.1 dL_law_774 (by decide) ?_
  refine lv_iadd X.1 X.2.1 dL_law_776 ?_
  refine r_toi (nI_add (7 * i) 6) ?_
  refine r_sld X S hX hbl hbA (v := t6) (vp_in_nI (show 7 * i + 6 < L by omega) (by omega)) (by rw [nI_clamp (by omega)]; exact ht6.symm) dL_law_777 ?_
  refine lv_aload_n X.1 X.2.1 dL_law_778 rfl (lv_at hl 3 rfl) ?_
  refine xcall_it (xrun_SX X S (h_count l hst G f st x hI hR0 t1 t2 t3 t4 t5 t6 ou wo ho) 8 gL_law_L_count rfl rfl rfl (by decide +kernel) ⟨(by exact Nat.le_of_ble_eq_true rfl), (by exact Nat.le_of_ble_eq_true rfl)⟩ rfl hl.1 rfl (by exact Nat.le_of_ble_eq_true rfl) dL_law_779 ⟨(show ck + 6 ≤ 601024 by omega), (show sk + 34 ≤ 7293034 by omega)⟩) S (fun E H locs qx ce hE => hE.elim) (fun r_h f_779 H locs hr_h S => ?_)
  obtain ⟨rfl, hR1, ⟨wo2, ho1, hw2⟩, hmd1⟩ := hr_h
  have hI1 := i_count st hI t1 t2 t3 t4 t5 t6
  obtain ⟨A, V, VL, hM1⟩ := hM0.kept2 hmd1 (fun t q => by unfold tX at q; omega)
  have hy1 := hM1.1
  refine lv_istore (lv' := [(5, .int (nI (k2 (eyeP st t1 t2 t3 t4 t5) (inI t6 1 7 ∧ ordP t2 t3 t4 t5)))), (0, .ref b), (1, .ref x), (2, .ref y), (3, .ref ou), (4, .int (nI (7 * i)))]) X.1 X.2.1 dL_law_782 hl (by decide) rfl (fun ls hl => ?_)
  refine lv_aload_n X.1 X.2.1 dL_law_784 rfl (lv_at hl 3 rfl) ?_
  refine lv_aload_n X.1 X.2.1 dL_law_785 rfl (lv_at hl 1 rfl) ?_
  refine lv_iload X.1 X.2.1 dL_law_786 (lv_at hl 5 rfl) ?_
  refine lv_iconst (v := 1) X.1 X.2.1 dL_law_788 (by decide) ?_
  refine lv_iadd X.1 X.2.1 dL_law_789 ?_
  refine r_toi (nI_add (7 * i) 1) ?_
  refine r_sld X S hX hbl hbA (v := t1) (vp_in_nI (show 7 * i + 1 < L by omega) (by omega)) (by rw [nI_clamp (by omega)]; exact ht1.symm) dL_law_790 ?_
  refine lv_aload_n X.1 X.2.1 dL_law_791 rfl (lv_at hl 1 rfl) ?_
  refine lv_iload X.1 X.2.1 dL_law_792 (lv_at hl 5 rfl) ?_
  refine lv_iconst (v := 2) X.1 X.2.1 dL_law_794 (by decide) ?_
  refine lv_iadd X.1 X.2.1 dL_law_795 ?_
  refine r_toi (nI_add (7 * i) 2) ?_
  refine r_sld X S hX hbl hbA (v := t2) (vp_in_nI (show 7 * i + 2 < L by omega) (by omega)) (by rw [nI_clamp (by omega)]; exact ht2.symm) dL_law_796 ?_
  refine lv_aload_n X.1 X.2.1 dL_law_797 rfl (lv_at hl 1 rfl) ?_
  refine lv_iload X.1 X.2.1 dL_law_798 (lv_at hl 5 rfl) ?_
  refine lv_iconst (v := 3) X.1 X.2.1 dL_law_800 (by decide) ?_
  refine lv_iadd X.1 X.2.1 dL_law_801 ?_
  refine r_toi (nI_add (7 * i) 3) ?_
  refine r_sld X S hX hbl hbA (v := t3) (vp_in_nI (show 7 * i + 3 < L by omega) (by omega)) (by rw [nI_clamp (by omega)]; exact ht3.symm) dL_law_802 ?_
  refine lv_aload_n X.1 X.2.1 dL_law_803 rfl (lv_at hl 1 rfl) ?_
  refine lv_iload X.1 X.2.1 dL_law_804 (lv_at hl 5 rfl) ?_
  refine lv_iconst (v := 4) X.1 X.2.1 dL_law_806 (by decide) ?_
  refine lv_iadd X.1 X.2.1 dL_law_807 ?_
  refine r_toi (nI_add (7 * i) 4) ?_
  refine r_sld X S hX hbl hbA (v := t4) (vp_in_nI (show 7 * i + 4 < L by omega) (by omega)) (by rw [nI_clamp (by omega)]; exact ht4.symm) dL_law_808 ?_
  refine lv_aload_n X.1 X.2.1 dL_law_809 rfl (lv_at hl 1 rfl) ?_
  refine lv_iload X.1 X.2.1 dL_law_810 (lv_at hl 5 rfl) ?_
  refine lv_iconst (v := 5) X.1 X.2.1 dL_law_812 (by decide) ?_
  refine lv_iadd X.1 X.2.1 dL_law_813 ?_
  refine r_toi (nI_add (7 * i) 5) ?_
  refine r_sld X S hX hbl hbA (v := t5) (vp_in_nI (show 7 * i + 5 < L by omega) (by omega)) (by rw [nI_clamp (by omega)]; exact ht5.symm) dL_law_814 ?_
  refine lv_aload_n X.1 X.2.1 dL_law_815 rfl (lv_at hl 1 rfl) ?_
  refine lv_iload X.1 X.2.1 dL_law_816 (lv_at hl 5 rfl) ?_
  refine lv_bipush (v := 6) X.1 X.2.1 dL_law_818 (by decide) ?_
  refine lv_iadd X.1 X.2.1 dL_law_820 ?_
  refine r_toi (nI_add (7 * i) 6) ?_
  refine r_sld X S hX hbl hbA (v := t6) (vp_in_nI (show 7 * i + 6 < L by omega) (by omega)) (by rw [nI_clamp (by omega)]; exact ht6.symm) dL_law_821 ?_
  refine call_i (run_V X S (n_count l G f_779 st y A V VL thr hI hM1 t1 t2 t3 t4 t5 t6) 6 gL_law_X10_count rfl rfl rfl (by decide +kernel) ⟨(by exact Nat.le_of_ble_eq_true rfl), (by exact Nat.le_of_ble_eq_true rfl)⟩ ⟨_, _, hy1⟩ rfl rfl rfl hl.1 rfl (by exact Nat.le_of_ble_eq_true rfl) dL_law_822 ⟨(show ck + 6 + 0 ≤ 601024 by omega), (show sk + 34 + 0 ≤ 7293034 by omega)⟩) S (fun r_822 f_822 H locs hr_822 S => ?_)
  obtain ⟨hr2M, hmd2, hr2v⟩ := hr_822
  have ho2 := hmd2 _ _ _ ho1 (by unfold tM; omega)
  obtain ⟨A2, V2, VL2, hM2⟩ := id hr2M
  have hy2 := hM2.1
  have hR2 := hR1.kept (md_mono hmd2 (fun t q => by unfold tM at q; unfold tX; omega)) (sInv_le hI1)
  refine lv_istore (lv' := [(6, .int r_822), (5, .int (nI (k2 (eyeP st t1 t2 t3 t4 t5) (inI t6 1 7 ∧ ordP t2 t3 t4 t5)))), (0, .ref b), (1, .ref x), (2, .ref y), (3, .ref ou), (4, .int (nI (7 * i)))]) X.1 X.2.1 dL_law_825 hl (by decide) rfl (fun ls hl => ?_)
  refine lv_aload_n X.1 X.2.1 dL_law_827 rfl (lv_at hl 4 rfl) ?_
  refine call_ip (run_V X S (n_thrown l G f_822 y A2 _ _ _ _ _ _ hy2) 0 gL_law_X10_thrown rfl rfl rfl (by decide +kernel) ⟨(by exact Nat.le_of_ble_eq_true rfl), (by exact Nat.le_of_ble_eq_true rfl)⟩ ⟨_, _, hy2⟩ rfl rfl rfl hl.1 rfl (by exact Nat.le_of_ble_eq_true rfl) dL_law_828 ⟨(show ck + 6 + 0 + 0 ≤ 601024 by omega), (show sk + 34 + 0 + 0 ≤ 7293034 by omega)⟩) S (fun r_828 H locs hr_828 S => ?_)
  subst hr_828
  refine lv_iload X.1 X.2.1 dL_law_831 (lv_at hl 1 rfl) ?_
  refine lv_icmp_eq (tgt := 838) X.1 X.2.1 dL_law_833 (by decide) (fun c_833 => ?_) (fun c_833 => ?_)
  · refine lv_iload X.1 X.2.1 dL_law_838 (lv_at hl 1 rfl) ?_
    refine lv_if_ne (tgt := 855) X.1 X.2.1 dL_law_840 (by decide) (fun c_840 => ?_) (fun c_840 => ?_)
    · refine lv_goto (tgt := 1338) X.1 X.2.1 dL_law_855 (by decide) ?_
      exact kk _ f_822 H locs ls _ _ hI1 hR2 ⟨_, hr2M⟩ ⟨wo2, ho2⟩ (by omega) (by omega) S (lv_sub hl [2, 3, 4, 5, 6] rfl)
    · have hk0 := kk2_z c_840
      refine lv_aload_n X.1 X.2.1 dL_law_843 rfl (lv_at hl 5 rfl) ?_
      refine lv_iconst (v := 0) X.1 X.2.1 dL_law_844 (by decide) ?_
      refine r_lald (v := (wo2 0)) X S ho2 (pk_in 0 1 (by omega)) rfl dL_law_845 ?_
      refine lv_iload X.1 X.2.1 dL_law_846 (lv_at hl 0 rfl) ?_
      refine lv_i2l (v := r_822.toInt64) X.1 X.2.1 dL_law_848 rfl ?_
      refine W.lcmp X.1 X.2.1 dL_law_849 ?_
      refine lv_if_eq (tgt := 855) X.1 X.2.1 dL_law_850 (by decide) (fun c_850 => ?_) (fun c_850 => ?_)
      · refine lv_goto (tgt := 1338) X.1 X.2.1 dL_law_855 (by decide) ?_
        exact kk _ f_822 H locs ls _ _ hI1 hR2 ⟨_, hr2M⟩ ⟨wo2, ho2⟩ (by omega) (by omega) S (lv_sub hl [2, 3, 4, 5, 6] rfl)
      · exact absurd (by rw [hw2 hk0, hr2v hk0]; exact lgz _) c_850
  · exact absurd rfl c_833

set_option maxRecDepth 100000 in
set_option maxHeartbeats 4000000 in
/-- the law at age -/
theorem law_age {p0 : Program} {l : Launch} {e0 : Env} {s0 : State} {m0 : MethodId} {b0 : List Frame} {meth0 : Method} {c0 : Code} {Q9 : State → Prop} (hst : l.stackTraces = false) {G : cx_G} {b L : Nat} {xs : Nat → Int32} (hX : va_X b L xs s0 s0.heap) (hbl : b < s0.heap.size) (hbA : ¬ gA G b) (hL : L ≤ 3584) (X : cxC G p0 l room_1 c0 cL_law 8 m0 meth0 s0 #[Value.ref b] RL wsL_law) (i : Nat) (hi : 7 * i + 7 ≤ L) (st : St) (f : Wd) (x y ou : Nat) (wo : Nat → Int64) (thr : Int32) (hI : sInv st) (hR0 : RX G f st x) (hM0 : RM G f st y thr) (ho : f ou = some (2000, eJ G 1 wo)) (H : Heap) (locs : List Loc) (ls : Array Slot) (S : cxS G s0 f H locs) (hl : lv_has ls 8 [(0, .ref b), (1, .ref x), (2, .ref y), (3, .ref ou), (4, .int (nI (7 * i)))]) (ck sk : Nat) (hck : ck ≤ 590000) (hsk : sk ≤ 7200000) (kk : ∀ (st2 : St) (f2 : Wd) (H : Heap) (locs : List Loc) (ls : Array Slot) (ck2 sk2 : Nat), sInv st2 → RX G f2 st2 x → (∃ t2 : Int32, RM G f2 st2 y t2) → (∃ w2 : Nat → Int64, f2 ou = some (2000, eJ G 1 w2)) → ck2 ≤ ck + 62 → sk2 ≤ sk + 9192 → cxS G s0 f2 H locs → lv_has ls 8 [(0, .ref b), (1, .ref x), (2, .ref y), (3, .ref ou), (4, .int (nI (7 * i)))] → W p0 l e0 room_1 s0 m0 #[Value.ref b] b0 meth0 c0 H locs ck2 sk2 Q9 (F0 m0 1338 ls [])) : W p0 l e0 room_1 s0 m0 #[Value.ref b] b0 meth0 c0 H locs ck sk Q9 (F0 m0 858 ls []) := by
  obtain ⟨gr9, rw9, L91, L92, L93, cu9, L94, g91, g92, g93, g94, w9, hR9⟩ := id hR0
  have hx := hR9.1
  obtain ⟨t1, ht1⟩ : ∃ z9 : Int32, z9 = xs (7 * i + 1) := ⟨_, rfl⟩
  obtain ⟨t2, ht2⟩ : ∃ z9 : Int32, z9 = xs (7 * i + 2) := ⟨_, rfl⟩
  obtain ⟨t3, ht3⟩ : ∃ z9 : Int32, z9 = xs (7 * i + 3) := ⟨_, rfl⟩
  obtain ⟨t4, ht4⟩ : ∃ z9 : Int32, z9 = xs (7 * i + 4) := ⟨_, rfl⟩
  obtain ⟨t5, ht5⟩ : ∃ z9 : Int32, z9 = xs (7 * i + 5) := ⟨_, rfl⟩
  obtain ⟨t6, ht6⟩ : ∃ z9 : Int32, z9 = xs (7 * i + 6) := ⟨_, rfl⟩
  refine lv_aload_n X.1 X.2.1 dL_law_858 rfl (lv_at hl 1 rfl) ?_
  refine lv_aload_n X.1 X.2.1 dL_law_859 rfl (lv_at hl 0 rfl) ?_
  refine lv_iload X.1 X.2.1 dL_law_860 (lv_at hl 4 rfl) ?_
  refine lv_iconst (v := 1) X.1 X.2.1 dL_law_862 (by decide) ?_
  refine lv_iadd X.1 X.2.1 dL_law_863 ?_
  refine r_toi (nI_add (7 * i) 1) ?_
  refine r_sld X S hX hbl hbA (v := t1) (vp_in_nI (show 7 * i + 1 < L by omega) (by omega)) (by rw [nI_clamp (by omega)]; exact ht1.symm) dL_law_864 ?_
  refine lv_aload_n X.1 X.2.1 dL_law_865 rfl (lv_at hl 0 rfl) ?_
  refine lv_iload X.1 X.2.1 dL_law_866 (lv_at hl 4 rfl) ?_
  refine lv_iconst (v := 2) X.1 X.2.1 dL_law_868 (by decide) ?_
  refine lv_iadd X.1 X.2.1 dL_law_869 ?_
  refine r_toi (nI_add (7 * i) 2) ?_
  refine r_sld X S hX hbl hbA (v := t2) (vp_in_nI (show 7 * i + 2 < L by omega) (by omega)) (by rw [nI_clamp (by omega)]; exact ht2.symm) dL_law_870 ?_
  refine lv_aload_n X.1 X.2.1 dL_law_871 rfl (lv_at hl 0 rfl) ?_
  refine lv_iload X.1 X.2.1 dL_law_872 (lv_at hl 4 rfl) ?_
  refine lv_iconst (v := 3) X.1 X.2.1 dL_law_874 (by decide) ?_
  refine lv_iadd X.1 X.2.1 dL_law_875 ?_
  refine r_toi (nI_add (7 * i) 3) ?_
  refine r_sld X S hX hbl hbA (v := t3) (vp_in_nI (show 7 * i + 3 < L by omega) (by omega)) (by rw [nI_clamp (by omega)]; exact ht3.symm) dL_law_876 ?_
  refine lv_aload_n X.1 X.2.1 dL_law_877 rfl (lv_at hl 0 rfl) ?_
  refine lv_iload X.1 X.2.1 dL_law_878 (lv_at hl 4 rfl) ?_
  refine lv_iconst (v := 4) X.1 X.2.1 dL_law_880 (by decide) ?_
  refine lv_iadd X.1 X.2.1 dL_law_881 ?_
  refine r_toi (nI_add (7 * i) 4) ?_
  refine r_sld X S hX hbl hbA (v := t4) (vp_in_nI (show 7 * i + 4 < L by omega) (by omega)) (by rw [nI_clamp (by omega)]; exact ht4.symm) dL_law_882 ?_
  refine lv_aload_n X.1 X.2.1 dL_law_883 rfl (lv_at hl 0 rfl) ?_
  refine lv_iload X.1 X.2.1 dL_law_884 (lv_at hl 4 rfl) ?_
  refine lv_iconst (v := 5) X.1 X.2.1 dL_law_886 (by decide) ?_
  refine lv_iadd X.1 X.2.1 dL_law_887 ?_
  refine r_toi (nI_add (7 * i) 5) ?_
  refine r_sld X S hX hbl hbA (v := t5) (vp_in_nI (show 7 * i + 5 < L by omega) (by omega)) (by rw [nI_clamp (by omega)]; exact ht5.symm) dL_law_888 ?_
  refine lv_aload_n X.1 X.2.1 dL_law_889 rfl (lv_at hl 3 rfl) ?_
  refine xcall_it (xrun_SX X S (h_age l hst G f st x hI hR0 t1 t2 t3 t4 t5 ou wo ho) 7 gL_law_L_age rfl rfl rfl (by decide +kernel) ⟨(by exact Nat.le_of_ble_eq_true rfl), (by exact Nat.le_of_ble_eq_true rfl)⟩ rfl hl.1 rfl (by exact Nat.le_of_ble_eq_true rfl) dL_law_890 ⟨(show ck + 6 ≤ 601024 by omega), (show sk + 34 ≤ 7293034 by omega)⟩) S (fun E H locs qx ce hE => hE.elim) (fun r_h f_890 H locs hr_h S => ?_)
  obtain ⟨rfl, hR1, ⟨wo2, ho1, hw2⟩, hmd1⟩ := hr_h
  have hI1 := i_age st hI t1 t2 t3 t4 t5
  obtain ⟨A, V, VL, hM1⟩ := hM0.kept2 hmd1 (fun t q => by unfold tX at q; omega)
  have hy1 := hM1.1
  refine lv_istore (lv' := [(5, .int (nI (k3 (eyeP st t1 t2 t3 t4 t5) (ordP t2 t3 t4 t5) (lackN st (densN st (nN t1) (nN t2) (nN t3) (nN t4) (nN t5)) = 0)))), (0, .ref b), (1, .ref x), (2, .ref y), (3, .ref ou), (4, .int (nI (7 * i)))]) X.1 X.2.1 dL_law_893 hl (by decide) rfl (fun ls hl => ?_)
  refine lv_aload_n X.1 X.2.1 dL_law_895 rfl (lv_at hl 3 rfl) ?_
  refine lv_aload_n X.1 X.2.1 dL_law_896 rfl (lv_at hl 1 rfl) ?_
  refine lv_iload X.1 X.2.1 dL_law_897 (lv_at hl 5 rfl) ?_
  refine lv_iconst (v := 1) X.1 X.2.1 dL_law_899 (by decide) ?_
  refine lv_iadd X.1 X.2.1 dL_law_900 ?_
  refine r_toi (nI_add (7 * i) 1) ?_
  refine r_sld X S hX hbl hbA (v := t1) (vp_in_nI (show 7 * i + 1 < L by omega) (by omega)) (by rw [nI_clamp (by omega)]; exact ht1.symm) dL_law_901 ?_
  refine lv_aload_n X.1 X.2.1 dL_law_902 rfl (lv_at hl 1 rfl) ?_
  refine lv_iload X.1 X.2.1 dL_law_903 (lv_at hl 5 rfl) ?_
  refine lv_iconst (v := 2) X.1 X.2.1 dL_law_905 (by decide) ?_
  refine lv_iadd X.1 X.2.1 dL_law_906 ?_
  refine r_toi (nI_add (7 * i) 2) ?_
  refine r_sld X S hX hbl hbA (v := t2) (vp_in_nI (show 7 * i + 2 < L by omega) (by omega)) (by rw [nI_clamp (by omega)]; exact ht2.symm) dL_law_907 ?_
  refine lv_aload_n X.1 X.2.1 dL_law_908 rfl (lv_at hl 1 rfl) ?_
  refine lv_iload X.1 X.2.1 dL_law_909 (lv_at hl 5 rfl) ?_
  refine lv_iconst (v := 3) X.1 X.2.1 dL_law_911 (by decide) ?_
  refine lv_iadd X.1 X.2.1 dL_law_912 ?_
  refine r_toi (nI_add (7 * i) 3) ?_
  refine r_sld X S hX hbl hbA (v := t3) (vp_in_nI (show 7 * i + 3 < L by omega) (by omega)) (by rw [nI_clamp (by omega)]; exact ht3.symm) dL_law_913 ?_
  refine lv_aload_n X.1 X.2.1 dL_law_914 rfl (lv_at hl 1 rfl) ?_
  refine lv_iload X.1 X.2.1 dL_law_915 (lv_at hl 5 rfl) ?_
  refine lv_iconst (v := 4) X.1 X.2.1 dL_law_917 (by decide) ?_
  refine lv_iadd X.1 X.2.1 dL_law_918 ?_
  refine r_toi (nI_add (7 * i) 4) ?_
  refine r_sld X S hX hbl hbA (v := t4) (vp_in_nI (show 7 * i + 4 < L by omega) (by omega)) (by rw [nI_clamp (by omega)]; exact ht4.symm) dL_law_919 ?_
  refine lv_aload_n X.1 X.2.1 dL_law_920 rfl (lv_at hl 1 rfl) ?_
  refine lv_iload X.1 X.2.1 dL_law_921 (lv_at hl 5 rfl) ?_
  refine lv_iconst (v := 5) X.1 X.2.1 dL_law_923 (by decide) ?_
  refine lv_iadd X.1 X.2.1 dL_law_924 ?_
  refine r_toi (nI_add (7 * i) 5) ?_
  refine r_sld X S hX hbl hbA (v := t5) (vp_in_nI (show 7 * i + 5 < L by omega) (by omega)) (by rw [nI_clamp (by omega)]; exact ht5.symm) dL_law_925 ?_
  refine call_l (run_V X S (n_age l G f_890 st y A V VL thr hI hM1 t1 t2 t3 t4 t5) 5 gL_law_X10_age rfl rfl rfl (by decide +kernel) ⟨(by exact Nat.le_of_ble_eq_true rfl), (by exact Nat.le_of_ble_eq_true rfl)⟩ ⟨_, _, hy1⟩ rfl rfl rfl hl.1 rfl (by exact Nat.le_of_ble_eq_true rfl) dL_law_926 ⟨(show ck + 6 + 0 ≤ 601024 by omega), (show sk + 34 + 0 ≤ 7293034 by omega)⟩) S (fun r_926 f_926 H locs hr_926 S => ?_)
  obtain ⟨hr2M, hmd2, hr2v⟩ := hr_926
  have ho2 := hmd2 _ _ _ ho1 (by unfold tM; omega)
  obtain ⟨A2, V2, VL2, hM2⟩ := id hr2M
  have hy2 := hM2.1
  have hR2 := hR1.kept (md_mono hmd2 (fun t q => by unfold tM at q; unfold tX; omega)) (sInv_le hI1)
  refine lv_lstore (lv' := [(6, .long r_926), (5, .int (nI (k3 (eyeP st t1 t2 t3 t4 t5) (ordP t2 t3 t4 t5) (lackN st (densN st (nN t1) (nN t2) (nN t3) (nN t4) (nN t5)) = 0)))), (0, .ref b), (1, .ref x), (2, .ref y), (3, .ref ou), (4, .int (nI (7 * i)))]) X.1 X.2.1 dL_law_929 hl (by decide) rfl (fun ls hl => ?_)
  refine lv_aload_n X.1 X.2.1 dL_law_931 rfl (lv_at hl 4 rfl) ?_
  refine call_ip (run_V X S (n_thrown l G f_926 y A2 _ _ _ _ _ _ hy2) 0 gL_law_X10_thrown rfl rfl rfl (by decide +kernel) ⟨(by exact Nat.le_of_ble_eq_true rfl), (by exact Nat.le_of_ble_eq_true rfl)⟩ ⟨_, _, hy2⟩ rfl rfl rfl hl.1 rfl (by exact Nat.le_of_ble_eq_true rfl) dL_law_932 ⟨(show ck + 6 + 0 + 0 ≤ 601024 by omega), (show sk + 34 + 0 + 0 ≤ 7293034 by omega)⟩) S (fun r_932 H locs hr_932 S => ?_)
  subst hr_932
  refine lv_iload X.1 X.2.1 dL_law_935 (lv_at hl 1 rfl) ?_
  refine lv_icmp_eq (tgt := 942) X.1 X.2.1 dL_law_937 (by decide) (fun c_937 => ?_) (fun c_937 => ?_)
  · refine lv_iload X.1 X.2.1 dL_law_942 (lv_at hl 1 rfl) ?_
    refine lv_if_ne (tgt := 958) X.1 X.2.1 dL_law_944 (by decide) (fun c_944 => ?_) (fun c_944 => ?_)
    · refine lv_goto (tgt := 1338) X.1 X.2.1 dL_law_958 (by decide) ?_
      exact kk _ f_926 H locs ls _ _ hI1 hR2 ⟨_, hr2M⟩ ⟨wo2, ho2⟩ (by omega) (by omega) S (lv_sub hl [2, 3, 4, 5, 6] rfl)
    · have hk0 := kk3_z c_944
      refine lv_aload_n X.1 X.2.1 dL_law_947 rfl (lv_at hl 5 rfl) ?_
      refine lv_iconst (v := 0) X.1 X.2.1 dL_law_948 (by decide) ?_
      refine r_lald (v := (wo2 0)) X S ho2 (pk_in 0 1 (by omega)) rfl dL_law_949 ?_
      refine lv_lload X.1 X.2.1 dL_law_950 (lv_at hl 0 rfl) ?_
      refine W.lcmp X.1 X.2.1 dL_law_952 ?_
      refine lv_if_eq (tgt := 958) X.1 X.2.1 dL_law_953 (by decide) (fun c_953 => ?_) (fun c_953 => ?_)
      · refine lv_goto (tgt := 1338) X.1 X.2.1 dL_law_958 (by decide) ?_
        exact kk _ f_926 H locs ls _ _ hI1 hR2 ⟨_, hr2M⟩ ⟨wo2, ho2⟩ (by omega) (by omega) S (lv_sub hl [2, 3, 4, 5, 6] rfl)
      · exact absurd (by rw [ageR_u (hw2 hk0) (hr2v hk0)]; exact lgz _) c_953
  · exact absurd rfl c_937

set_option maxRecDepth 100000 in
set_option maxHeartbeats 4000000 in
/-- the law at whyNot -/
theorem law_whyNot {p0 : Program} {l : Launch} {e0 : Env} {s0 : State} {m0 : MethodId} {b0 : List Frame} {meth0 : Method} {c0 : Code} {Q9 : State → Prop} (hst : l.stackTraces = false) {G : cx_G} {b L : Nat} {xs : Nat → Int32} (hX : va_X b L xs s0 s0.heap) (hbl : b < s0.heap.size) (hbA : ¬ gA G b) (hL : L ≤ 3584) (X : cxC G p0 l room_1 c0 cL_law 8 m0 meth0 s0 #[Value.ref b] RL wsL_law) (i : Nat) (hi : 7 * i + 7 ≤ L) (st : St) (f : Wd) (x y ou : Nat) (wo : Nat → Int64) (thr : Int32) (hI : sInv st) (hR0 : RX G f st x) (hM0 : RM G f st y thr) (ho : f ou = some (2000, eJ G 1 wo)) (H : Heap) (locs : List Loc) (ls : Array Slot) (S : cxS G s0 f H locs) (hl : lv_has ls 8 [(0, .ref b), (1, .ref x), (2, .ref y), (3, .ref ou), (4, .int (nI (7 * i)))]) (ck sk : Nat) (hck : ck ≤ 590000) (hsk : sk ≤ 7200000) (kk : ∀ (st2 : St) (f2 : Wd) (H : Heap) (locs : List Loc) (ls : Array Slot) (ck2 sk2 : Nat), sInv st2 → RX G f2 st2 x → (∃ t2 : Int32, RM G f2 st2 y t2) → (∃ w2 : Nat → Int64, f2 ou = some (2000, eJ G 1 w2)) → ck2 ≤ ck + 62 → sk2 ≤ sk + 9192 → cxS G s0 f2 H locs → lv_has ls 8 [(0, .ref b), (1, .ref x), (2, .ref y), (3, .ref ou), (4, .int (nI (7 * i)))] → W p0 l e0 room_1 s0 m0 #[Value.ref b] b0 meth0 c0 H locs ck2 sk2 Q9 (F0 m0 1338 ls [])) : W p0 l e0 room_1 s0 m0 #[Value.ref b] b0 meth0 c0 H locs ck sk Q9 (F0 m0 961 ls []) := by
  obtain ⟨gr9, rw9, L91, L92, L93, cu9, L94, g91, g92, g93, g94, w9, hR9⟩ := id hR0
  have hx := hR9.1
  obtain ⟨t1, ht1⟩ : ∃ z9 : Int32, z9 = xs (7 * i + 1) := ⟨_, rfl⟩
  obtain ⟨t2, ht2⟩ : ∃ z9 : Int32, z9 = xs (7 * i + 2) := ⟨_, rfl⟩
  obtain ⟨t3, ht3⟩ : ∃ z9 : Int32, z9 = xs (7 * i + 3) := ⟨_, rfl⟩
  obtain ⟨t4, ht4⟩ : ∃ z9 : Int32, z9 = xs (7 * i + 4) := ⟨_, rfl⟩
  obtain ⟨t5, ht5⟩ : ∃ z9 : Int32, z9 = xs (7 * i + 5) := ⟨_, rfl⟩
  obtain ⟨t6, ht6⟩ : ∃ z9 : Int32, z9 = xs (7 * i + 6) := ⟨_, rfl⟩
  refine lv_aload_n X.1 X.2.1 dL_law_961 rfl (lv_at hl 1 rfl) ?_
  refine lv_aload_n X.1 X.2.1 dL_law_962 rfl (lv_at hl 0 rfl) ?_
  refine lv_iload X.1 X.2.1 dL_law_963 (lv_at hl 4 rfl) ?_
  refine lv_iconst (v := 1) X.1 X.2.1 dL_law_965 (by decide) ?_
  refine lv_iadd X.1 X.2.1 dL_law_966 ?_
  refine r_toi (nI_add (7 * i) 1) ?_
  refine r_sld X S hX hbl hbA (v := t1) (vp_in_nI (show 7 * i + 1 < L by omega) (by omega)) (by rw [nI_clamp (by omega)]; exact ht1.symm) dL_law_967 ?_
  refine lv_aload_n X.1 X.2.1 dL_law_968 rfl (lv_at hl 0 rfl) ?_
  refine lv_iload X.1 X.2.1 dL_law_969 (lv_at hl 4 rfl) ?_
  refine lv_iconst (v := 2) X.1 X.2.1 dL_law_971 (by decide) ?_
  refine lv_iadd X.1 X.2.1 dL_law_972 ?_
  refine r_toi (nI_add (7 * i) 2) ?_
  refine r_sld X S hX hbl hbA (v := t2) (vp_in_nI (show 7 * i + 2 < L by omega) (by omega)) (by rw [nI_clamp (by omega)]; exact ht2.symm) dL_law_973 ?_
  refine lv_aload_n X.1 X.2.1 dL_law_974 rfl (lv_at hl 0 rfl) ?_
  refine lv_iload X.1 X.2.1 dL_law_975 (lv_at hl 4 rfl) ?_
  refine lv_iconst (v := 3) X.1 X.2.1 dL_law_977 (by decide) ?_
  refine lv_iadd X.1 X.2.1 dL_law_978 ?_
  refine r_toi (nI_add (7 * i) 3) ?_
  refine r_sld X S hX hbl hbA (v := t3) (vp_in_nI (show 7 * i + 3 < L by omega) (by omega)) (by rw [nI_clamp (by omega)]; exact ht3.symm) dL_law_979 ?_
  refine lv_aload_n X.1 X.2.1 dL_law_980 rfl (lv_at hl 0 rfl) ?_
  refine lv_iload X.1 X.2.1 dL_law_981 (lv_at hl 4 rfl) ?_
  refine lv_iconst (v := 4) X.1 X.2.1 dL_law_983 (by decide) ?_
  refine lv_iadd X.1 X.2.1 dL_law_984 ?_
  refine r_toi (nI_add (7 * i) 4) ?_
  refine r_sld X S hX hbl hbA (v := t4) (vp_in_nI (show 7 * i + 4 < L by omega) (by omega)) (by rw [nI_clamp (by omega)]; exact ht4.symm) dL_law_985 ?_
  refine lv_aload_n X.1 X.2.1 dL_law_986 rfl (lv_at hl 0 rfl) ?_
  refine lv_iload X.1 X.2.1 dL_law_987 (lv_at hl 4 rfl) ?_
  refine lv_iconst (v := 5) X.1 X.2.1 dL_law_989 (by decide) ?_
  refine lv_iadd X.1 X.2.1 dL_law_990 ?_
  refine r_toi (nI_add (7 * i) 5) ?_
  refine r_sld X S hX hbl hbA (v := t5) (vp_in_nI (show 7 * i + 5 < L by omega) (by omega)) (by rw [nI_clamp (by omega)]; exact ht5.symm) dL_law_991 ?_
  refine lv_aload_n X.1 X.2.1 dL_law_992 rfl (lv_at hl 3 rfl) ?_
  refine xcall_it (xrun_SX X S (h_whyNot l hst G f st x hI hR0 t1 t2 t3 t4 t5 ou wo ho) 7 gL_law_L_whyNot rfl rfl rfl (by decide +kernel) ⟨(by exact Nat.le_of_ble_eq_true rfl), (by exact Nat.le_of_ble_eq_true rfl)⟩ rfl hl.1 rfl (by exact Nat.le_of_ble_eq_true rfl) dL_law_993 ⟨(show ck + 5 ≤ 601024 by omega), (show sk + 28 ≤ 7293034 by omega)⟩) S (fun E H locs qx ce hE => hE.elim) (fun r_h f_993 H locs hr_h S => ?_)
  obtain ⟨rfl, hR1, ⟨wo2, ho1, hw2⟩, hmd1⟩ := hr_h
  have hI1 := i_whyNot st hI t1 t2 t3 t4 t5
  obtain ⟨A, V, VL, hM1⟩ := hM0.kept2 hmd1 (fun t q => by unfold tX at q; omega)
  have hy1 := hM1.1
  refine lv_istore (lv' := [(5, .int (nI (k2 (eyeP st t1 t2 t3 t4 t5) (ordP t2 t3 t4 t5)))), (0, .ref b), (1, .ref x), (2, .ref y), (3, .ref ou), (4, .int (nI (7 * i)))]) X.1 X.2.1 dL_law_996 hl (by decide) rfl (fun ls hl => ?_)
  refine lv_aload_n X.1 X.2.1 dL_law_998 rfl (lv_at hl 3 rfl) ?_
  refine lv_aload_n X.1 X.2.1 dL_law_999 rfl (lv_at hl 1 rfl) ?_
  refine lv_iload X.1 X.2.1 dL_law_1000 (lv_at hl 5 rfl) ?_
  refine lv_iconst (v := 1) X.1 X.2.1 dL_law_1002 (by decide) ?_
  refine lv_iadd X.1 X.2.1 dL_law_1003 ?_
  refine r_toi (nI_add (7 * i) 1) ?_
  refine r_sld X S hX hbl hbA (v := t1) (vp_in_nI (show 7 * i + 1 < L by omega) (by omega)) (by rw [nI_clamp (by omega)]; exact ht1.symm) dL_law_1004 ?_
  refine lv_aload_n X.1 X.2.1 dL_law_1005 rfl (lv_at hl 1 rfl) ?_
  refine lv_iload X.1 X.2.1 dL_law_1006 (lv_at hl 5 rfl) ?_
  refine lv_iconst (v := 2) X.1 X.2.1 dL_law_1008 (by decide) ?_
  refine lv_iadd X.1 X.2.1 dL_law_1009 ?_
  refine r_toi (nI_add (7 * i) 2) ?_
  refine r_sld X S hX hbl hbA (v := t2) (vp_in_nI (show 7 * i + 2 < L by omega) (by omega)) (by rw [nI_clamp (by omega)]; exact ht2.symm) dL_law_1010 ?_
  refine lv_aload_n X.1 X.2.1 dL_law_1011 rfl (lv_at hl 1 rfl) ?_
  refine lv_iload X.1 X.2.1 dL_law_1012 (lv_at hl 5 rfl) ?_
  refine lv_iconst (v := 3) X.1 X.2.1 dL_law_1014 (by decide) ?_
  refine lv_iadd X.1 X.2.1 dL_law_1015 ?_
  refine r_toi (nI_add (7 * i) 3) ?_
  refine r_sld X S hX hbl hbA (v := t3) (vp_in_nI (show 7 * i + 3 < L by omega) (by omega)) (by rw [nI_clamp (by omega)]; exact ht3.symm) dL_law_1016 ?_
  refine lv_aload_n X.1 X.2.1 dL_law_1017 rfl (lv_at hl 1 rfl) ?_
  refine lv_iload X.1 X.2.1 dL_law_1018 (lv_at hl 5 rfl) ?_
  refine lv_iconst (v := 4) X.1 X.2.1 dL_law_1020 (by decide) ?_
  refine lv_iadd X.1 X.2.1 dL_law_1021 ?_
  refine r_toi (nI_add (7 * i) 4) ?_
  refine r_sld X S hX hbl hbA (v := t4) (vp_in_nI (show 7 * i + 4 < L by omega) (by omega)) (by rw [nI_clamp (by omega)]; exact ht4.symm) dL_law_1022 ?_
  refine lv_aload_n X.1 X.2.1 dL_law_1023 rfl (lv_at hl 1 rfl) ?_
  refine lv_iload X.1 X.2.1 dL_law_1024 (lv_at hl 5 rfl) ?_
  refine lv_iconst (v := 5) X.1 X.2.1 dL_law_1026 (by decide) ?_
  refine lv_iadd X.1 X.2.1 dL_law_1027 ?_
  refine r_toi (nI_add (7 * i) 5) ?_
  refine r_sld X S hX hbl hbA (v := t5) (vp_in_nI (show 7 * i + 5 < L by omega) (by omega)) (by rw [nI_clamp (by omega)]; exact ht5.symm) dL_law_1028 ?_
  refine call_i (run_V X S (n_whyNot l G f_993 st y A V VL thr hI hM1 t1 t2 t3 t4 t5) 5 gL_law_X10_whyNot rfl rfl rfl (by decide +kernel) ⟨(by exact Nat.le_of_ble_eq_true rfl), (by exact Nat.le_of_ble_eq_true rfl)⟩ ⟨_, _, hy1⟩ rfl rfl rfl hl.1 rfl (by exact Nat.le_of_ble_eq_true rfl) dL_law_1029 ⟨(show ck + 5 + 0 ≤ 601024 by omega), (show sk + 28 + 0 ≤ 7293034 by omega)⟩) S (fun r_1029 f_1029 H locs hr_1029 S => ?_)
  obtain ⟨hr2M, hmd2, hr2v⟩ := hr_1029
  have ho2 := hmd2 _ _ _ ho1 (by unfold tM; omega)
  obtain ⟨A2, V2, VL2, hM2⟩ := id hr2M
  have hy2 := hM2.1
  have hR2 := hR1.kept (md_mono hmd2 (fun t q => by unfold tM at q; unfold tX; omega)) (sInv_le hI1)
  refine lv_istore (lv' := [(6, .int r_1029), (5, .int (nI (k2 (eyeP st t1 t2 t3 t4 t5) (ordP t2 t3 t4 t5)))), (0, .ref b), (1, .ref x), (2, .ref y), (3, .ref ou), (4, .int (nI (7 * i)))]) X.1 X.2.1 dL_law_1032 hl (by decide) rfl (fun ls hl => ?_)
  refine lv_aload_n X.1 X.2.1 dL_law_1034 rfl (lv_at hl 4 rfl) ?_
  refine call_ip (run_V X S (n_thrown l G f_1029 y A2 _ _ _ _ _ _ hy2) 0 gL_law_X10_thrown rfl rfl rfl (by decide +kernel) ⟨(by exact Nat.le_of_ble_eq_true rfl), (by exact Nat.le_of_ble_eq_true rfl)⟩ ⟨_, _, hy2⟩ rfl rfl rfl hl.1 rfl (by exact Nat.le_of_ble_eq_true rfl) dL_law_1035 ⟨(show ck + 5 + 0 + 0 ≤ 601024 by omega), (show sk + 28 + 0 + 0 ≤ 7293034 by omega)⟩) S (fun r_1035 H locs hr_1035 S => ?_)
  subst hr_1035
  refine lv_iload X.1 X.2.1 dL_law_1038 (lv_at hl 1 rfl) ?_
  refine lv_icmp_eq (tgt := 1045) X.1 X.2.1 dL_law_1040 (by decide) (fun c_1040 => ?_) (fun c_1040 => ?_)
  · refine lv_iload X.1 X.2.1 dL_law_1045 (lv_at hl 1 rfl) ?_
    refine lv_if_ne (tgt := 1062) X.1 X.2.1 dL_law_1047 (by decide) (fun c_1047 => ?_) (fun c_1047 => ?_)
    · refine lv_goto (tgt := 1338) X.1 X.2.1 dL_law_1062 (by decide) ?_
      exact kk _ f_1029 H locs ls _ _ hI1 hR2 ⟨_, hr2M⟩ ⟨wo2, ho2⟩ (by omega) (by omega) S (lv_sub hl [2, 3, 4, 5, 6] rfl)
    · have hk0 := kk2_z c_1047
      refine lv_aload_n X.1 X.2.1 dL_law_1050 rfl (lv_at hl 5 rfl) ?_
      refine lv_iconst (v := 0) X.1 X.2.1 dL_law_1051 (by decide) ?_
      refine r_lald (v := (wo2 0)) X S ho2 (pk_in 0 1 (by omega)) rfl dL_law_1052 ?_
      refine lv_iload X.1 X.2.1 dL_law_1053 (lv_at hl 0 rfl) ?_
      refine lv_i2l (v := r_1029.toInt64) X.1 X.2.1 dL_law_1055 rfl ?_
      refine W.lcmp X.1 X.2.1 dL_law_1056 ?_
      refine lv_if_eq (tgt := 1062) X.1 X.2.1 dL_law_1057 (by decide) (fun c_1057 => ?_) (fun c_1057 => ?_)
      · refine lv_goto (tgt := 1338) X.1 X.2.1 dL_law_1062 (by decide) ?_
        exact kk _ f_1029 H locs ls _ _ hI1 hR2 ⟨_, hr2M⟩ ⟨wo2, ho2⟩ (by omega) (by omega) S (lv_sub hl [2, 3, 4, 5, 6] rfl)
      · exact absurd (by rw [hw2 hk0, hr2v hk0]; exact lgz _) c_1057
  · exact absurd rfl c_1040

set_option maxRecDepth 100000 in
set_option maxHeartbeats 4000000 in
/-- the law at craters -/
theorem law_craters {p0 : Program} {l : Launch} {e0 : Env} {s0 : State} {m0 : MethodId} {b0 : List Frame} {meth0 : Method} {c0 : Code} {Q9 : State → Prop} (hst : l.stackTraces = false) {G : cx_G} {b L : Nat} {xs : Nat → Int32} (hX : va_X b L xs s0 s0.heap) (hbl : b < s0.heap.size) (hbA : ¬ gA G b) (hL : L ≤ 3584) (X : cxC G p0 l room_1 c0 cL_law 8 m0 meth0 s0 #[Value.ref b] RL wsL_law) (i : Nat) (hi : 7 * i + 7 ≤ L) (st : St) (f : Wd) (x y ou : Nat) (wo : Nat → Int64) (thr : Int32) (hI : sInv st) (hR0 : RX G f st x) (hM0 : RM G f st y thr) (ho : f ou = some (2000, eJ G 1 wo)) (H : Heap) (locs : List Loc) (ls : Array Slot) (S : cxS G s0 f H locs) (hl : lv_has ls 8 [(0, .ref b), (1, .ref x), (2, .ref y), (3, .ref ou), (4, .int (nI (7 * i)))]) (ck sk : Nat) (hck : ck ≤ 590000) (hsk : sk ≤ 7200000) (kk : ∀ (st2 : St) (f2 : Wd) (H : Heap) (locs : List Loc) (ls : Array Slot) (ck2 sk2 : Nat), sInv st2 → RX G f2 st2 x → (∃ t2 : Int32, RM G f2 st2 y t2) → (∃ w2 : Nat → Int64, f2 ou = some (2000, eJ G 1 w2)) → ck2 ≤ ck + 62 → sk2 ≤ sk + 9192 → cxS G s0 f2 H locs → lv_has ls 8 [(0, .ref b), (1, .ref x), (2, .ref y), (3, .ref ou), (4, .int (nI (7 * i)))] → W p0 l e0 room_1 s0 m0 #[Value.ref b] b0 meth0 c0 H locs ck2 sk2 Q9 (F0 m0 1338 ls [])) : W p0 l e0 room_1 s0 m0 #[Value.ref b] b0 meth0 c0 H locs ck sk Q9 (F0 m0 1065 ls []) := by
  obtain ⟨gr9, rw9, L91, L92, L93, cu9, L94, g91, g92, g93, g94, w9, hR9⟩ := id hR0
  have hx := hR9.1
  obtain ⟨t1, ht1⟩ : ∃ z9 : Int32, z9 = xs (7 * i + 1) := ⟨_, rfl⟩
  obtain ⟨t2, ht2⟩ : ∃ z9 : Int32, z9 = xs (7 * i + 2) := ⟨_, rfl⟩
  obtain ⟨t3, ht3⟩ : ∃ z9 : Int32, z9 = xs (7 * i + 3) := ⟨_, rfl⟩
  obtain ⟨t4, ht4⟩ : ∃ z9 : Int32, z9 = xs (7 * i + 4) := ⟨_, rfl⟩
  obtain ⟨t5, ht5⟩ : ∃ z9 : Int32, z9 = xs (7 * i + 5) := ⟨_, rfl⟩
  obtain ⟨t6, ht6⟩ : ∃ z9 : Int32, z9 = xs (7 * i + 6) := ⟨_, rfl⟩
  obtain ⟨A, V, VL, hM1⟩ := id hM0
  have hy1 := hM1.1
  refine lv_aload_n X.1 X.2.1 dL_law_1065 rfl (lv_at hl 1 rfl) ?_
  refine call_ip (run_V X S (c_craters l hst G f st x hI hR0) 0 gL_law_X9_craters rfl rfl rfl (by decide +kernel) ⟨(by exact Nat.le_of_ble_eq_true rfl), (by exact Nat.le_of_ble_eq_true rfl)⟩ ⟨_, _, hx⟩ rfl rfl rfl hl.1 rfl (by exact Nat.le_of_ble_eq_true rfl) dL_law_1066 ⟨(show ck + 0 ≤ 601024 by omega), (show sk + 0 ≤ 7293034 by omega)⟩) S (fun r_1066 H locs hr_1066 S => ?_)
  subst hr_1066
  refine lv_aload_n X.1 X.2.1 dL_law_1069 rfl (lv_at hl 2 rfl) ?_
  refine call_i (run_V X S (n_craters l G f st y A V VL thr hI hM1) 0 gL_law_X10_craters rfl rfl rfl (by decide +kernel) ⟨(by exact Nat.le_of_ble_eq_true rfl), (by exact Nat.le_of_ble_eq_true rfl)⟩ ⟨_, _, hy1⟩ rfl rfl rfl hl.1 rfl (by exact Nat.le_of_ble_eq_true rfl) dL_law_1070 ⟨(show ck + 0 + 0 ≤ 601024 by omega), (show sk + 0 + 0 ≤ 7293034 by omega)⟩) S (fun r_1070 f_1070 H locs hr_1070 S => ?_)
  have hmd2 := hr_1070.2.2
  have ho2 := hmd2 _ _ _ ho (by unfold tM; omega)
  have hR2 := hR0.kept (md_mono hmd2 (fun t q => by unfold tM at q; unfold tX; omega)) (sInv_le hI)
  obtain ⟨hr9, -⟩ := id hr_1070
  subst hr9
  refine lv_icmp_eq (tgt := 1338) X.1 X.2.1 dL_law_1073 (by decide) (fun c_1073 => ?_) (fun c_1073 => ?_)
  · exact kk st f_1070 H locs ls _ _ hI hR2 ⟨0, hr_1070.2.1⟩ ⟨wo, ho2⟩ (by omega) (by omega) S (lv_sub hl [0, 1, 2, 3, 4] rfl)
  · exact absurd rfl c_1073

set_option maxRecDepth 100000 in
set_option maxHeartbeats 4000000 in
/-- the law at about -/
theorem law_about {p0 : Program} {l : Launch} {e0 : Env} {s0 : State} {m0 : MethodId} {b0 : List Frame} {meth0 : Method} {c0 : Code} {Q9 : State → Prop} (hst : l.stackTraces = false) {G : cx_G} {b L : Nat} {xs : Nat → Int32} (hX : va_X b L xs s0 s0.heap) (hbl : b < s0.heap.size) (hbA : ¬ gA G b) (hL : L ≤ 3584) (X : cxC G p0 l room_1 c0 cL_law 8 m0 meth0 s0 #[Value.ref b] RL wsL_law) (i : Nat) (hi : 7 * i + 7 ≤ L) (st : St) (f : Wd) (x y ou : Nat) (wo : Nat → Int64) (thr : Int32) (hI : sInv st) (hR0 : RX G f st x) (hM0 : RM G f st y thr) (ho : f ou = some (2000, eJ G 1 wo)) (H : Heap) (locs : List Loc) (ls : Array Slot) (S : cxS G s0 f H locs) (hl : lv_has ls 8 [(0, .ref b), (1, .ref x), (2, .ref y), (3, .ref ou), (4, .int (nI (7 * i)))]) (ck sk : Nat) (hck : ck ≤ 590000) (hsk : sk ≤ 7200000) (kk : ∀ (st2 : St) (f2 : Wd) (H : Heap) (locs : List Loc) (ls : Array Slot) (ck2 sk2 : Nat), sInv st2 → RX G f2 st2 x → (∃ t2 : Int32, RM G f2 st2 y t2) → (∃ w2 : Nat → Int64, f2 ou = some (2000, eJ G 1 w2)) → ck2 ≤ ck + 62 → sk2 ≤ sk + 9192 → cxS G s0 f2 H locs → lv_has ls 8 [(0, .ref b), (1, .ref x), (2, .ref y), (3, .ref ou), (4, .int (nI (7 * i)))] → W p0 l e0 room_1 s0 m0 #[Value.ref b] b0 meth0 c0 H locs ck2 sk2 Q9 (F0 m0 1338 ls [])) : W p0 l e0 room_1 s0 m0 #[Value.ref b] b0 meth0 c0 H locs ck sk Q9 (F0 m0 1078 ls []) := by
  obtain ⟨gr9, rw9, L91, L92, L93, cu9, L94, g91, g92, g93, g94, w9, hR9⟩ := id hR0
  have hx := hR9.1
  obtain ⟨t1, ht1⟩ : ∃ z9 : Int32, z9 = xs (7 * i + 1) := ⟨_, rfl⟩
  obtain ⟨t2, ht2⟩ : ∃ z9 : Int32, z9 = xs (7 * i + 2) := ⟨_, rfl⟩
  obtain ⟨t3, ht3⟩ : ∃ z9 : Int32, z9 = xs (7 * i + 3) := ⟨_, rfl⟩
  obtain ⟨t4, ht4⟩ : ∃ z9 : Int32, z9 = xs (7 * i + 4) := ⟨_, rfl⟩
  obtain ⟨t5, ht5⟩ : ∃ z9 : Int32, z9 = xs (7 * i + 5) := ⟨_, rfl⟩
  obtain ⟨t6, ht6⟩ : ∃ z9 : Int32, z9 = xs (7 * i + 6) := ⟨_, rfl⟩
  refine lv_aload_n X.1 X.2.1 dL_law_1078 rfl (lv_at hl 1 rfl) ?_
  refine lv_aload_n X.1 X.2.1 dL_law_1079 rfl (lv_at hl 0 rfl) ?_
  refine lv_iload X.1 X.2.1 dL_law_1080 (lv_at hl 4 rfl) ?_
  refine lv_iconst (v := 1) X.1 X.2.1 dL_law_1082 (by decide) ?_
  refine lv_iadd X.1 X.2.1 dL_law_1083 ?_
  refine r_toi (nI_add (7 * i) 1) ?_
  refine r_sld X S hX hbl hbA (v := t1) (vp_in_nI (show 7 * i + 1 < L by omega) (by omega)) (by rw [nI_clamp (by omega)]; exact ht1.symm) dL_law_1084 ?_
  refine lv_aload_n X.1 X.2.1 dL_law_1085 rfl (lv_at hl 0 rfl) ?_
  refine lv_iload X.1 X.2.1 dL_law_1086 (lv_at hl 4 rfl) ?_
  refine lv_iconst (v := 2) X.1 X.2.1 dL_law_1088 (by decide) ?_
  refine lv_iadd X.1 X.2.1 dL_law_1089 ?_
  refine r_toi (nI_add (7 * i) 2) ?_
  refine r_sld X S hX hbl hbA (v := t2) (vp_in_nI (show 7 * i + 2 < L by omega) (by omega)) (by rw [nI_clamp (by omega)]; exact ht2.symm) dL_law_1090 ?_
  refine lv_aload_n X.1 X.2.1 dL_law_1091 rfl (lv_at hl 3 rfl) ?_
  refine xcall_it (xrun_SX X S (h_about l hst G f st x hI hR0 t1 t2 ou wo ho) 4 gL_law_L_about rfl rfl rfl (by decide +kernel) ⟨(by exact Nat.le_of_ble_eq_true rfl), (by exact Nat.le_of_ble_eq_true rfl)⟩ rfl hl.1 rfl (by exact Nat.le_of_ble_eq_true rfl) dL_law_1092 ⟨(show ck + 2 ≤ 601024 by omega), (show sk + 12 ≤ 7293034 by omega)⟩) S (fun E H locs qx ce hE => hE.elim) (fun r_h f_1092 H locs hr_h S => ?_)
  obtain ⟨rfl, hR1, ⟨wo2, ho1, hw2⟩, hmd1⟩ := hr_h
  have hI1 := i_about st hI t1 t2
  obtain ⟨A, V, VL, hM1⟩ := hM0.kept2 hmd1 (fun t q => by unfold tX at q; omega)
  have hy1 := hM1.1
  refine lv_istore (lv' := [(5, .int (nI (k2 (inI t1 0 ((st 0 0 : Int) - 1)) (inI t2 0 3)))), (0, .ref b), (1, .ref x), (2, .ref y), (3, .ref ou), (4, .int (nI (7 * i)))]) X.1 X.2.1 dL_law_1095 hl (by decide) rfl (fun ls hl => ?_)
  refine lv_aload_n X.1 X.2.1 dL_law_1097 rfl (lv_at hl 3 rfl) ?_
  refine lv_aload_n X.1 X.2.1 dL_law_1098 rfl (lv_at hl 1 rfl) ?_
  refine lv_iload X.1 X.2.1 dL_law_1099 (lv_at hl 5 rfl) ?_
  refine lv_iconst (v := 1) X.1 X.2.1 dL_law_1101 (by decide) ?_
  refine lv_iadd X.1 X.2.1 dL_law_1102 ?_
  refine r_toi (nI_add (7 * i) 1) ?_
  refine r_sld X S hX hbl hbA (v := t1) (vp_in_nI (show 7 * i + 1 < L by omega) (by omega)) (by rw [nI_clamp (by omega)]; exact ht1.symm) dL_law_1103 ?_
  refine lv_aload_n X.1 X.2.1 dL_law_1104 rfl (lv_at hl 1 rfl) ?_
  refine lv_iload X.1 X.2.1 dL_law_1105 (lv_at hl 5 rfl) ?_
  refine lv_iconst (v := 2) X.1 X.2.1 dL_law_1107 (by decide) ?_
  refine lv_iadd X.1 X.2.1 dL_law_1108 ?_
  refine r_toi (nI_add (7 * i) 2) ?_
  refine r_sld X S hX hbl hbA (v := t2) (vp_in_nI (show 7 * i + 2 < L by omega) (by omega)) (by rw [nI_clamp (by omega)]; exact ht2.symm) dL_law_1109 ?_
  refine call_i (run_V X S (n_about l G f_1092 st y A V VL thr hI hM1 t1 t2) 2 gL_law_X10_about rfl rfl rfl (by decide +kernel) ⟨(by exact Nat.le_of_ble_eq_true rfl), (by exact Nat.le_of_ble_eq_true rfl)⟩ ⟨_, _, hy1⟩ rfl rfl rfl hl.1 rfl (by exact Nat.le_of_ble_eq_true rfl) dL_law_1110 ⟨(show ck + 2 + 0 ≤ 601024 by omega), (show sk + 12 + 0 ≤ 7293034 by omega)⟩) S (fun r_1110 f_1110 H locs hr_1110 S => ?_)
  obtain ⟨hr2M, hmd2, hr2v⟩ := hr_1110
  have ho2 := hmd2 _ _ _ ho1 (by unfold tM; omega)
  obtain ⟨A2, V2, VL2, hM2⟩ := id hr2M
  have hy2 := hM2.1
  have hR2 := hR1.kept (md_mono hmd2 (fun t q => by unfold tM at q; unfold tX; omega)) (sInv_le hI1)
  refine lv_istore (lv' := [(6, .int r_1110), (5, .int (nI (k2 (inI t1 0 ((st 0 0 : Int) - 1)) (inI t2 0 3)))), (0, .ref b), (1, .ref x), (2, .ref y), (3, .ref ou), (4, .int (nI (7 * i)))]) X.1 X.2.1 dL_law_1113 hl (by decide) rfl (fun ls hl => ?_)
  refine lv_aload_n X.1 X.2.1 dL_law_1115 rfl (lv_at hl 4 rfl) ?_
  refine call_ip (run_V X S (n_thrown l G f_1110 y A2 _ _ _ _ _ _ hy2) 0 gL_law_X10_thrown rfl rfl rfl (by decide +kernel) ⟨(by exact Nat.le_of_ble_eq_true rfl), (by exact Nat.le_of_ble_eq_true rfl)⟩ ⟨_, _, hy2⟩ rfl rfl rfl hl.1 rfl (by exact Nat.le_of_ble_eq_true rfl) dL_law_1116 ⟨(show ck + 2 + 0 + 0 ≤ 601024 by omega), (show sk + 12 + 0 + 0 ≤ 7293034 by omega)⟩) S (fun r_1116 H locs hr_1116 S => ?_)
  subst hr_1116
  refine lv_iload X.1 X.2.1 dL_law_1119 (lv_at hl 1 rfl) ?_
  refine lv_icmp_eq (tgt := 1126) X.1 X.2.1 dL_law_1121 (by decide) (fun c_1121 => ?_) (fun c_1121 => ?_)
  · refine lv_iload X.1 X.2.1 dL_law_1126 (lv_at hl 1 rfl) ?_
    refine lv_if_ne (tgt := 1143) X.1 X.2.1 dL_law_1128 (by decide) (fun c_1128 => ?_) (fun c_1128 => ?_)
    · refine lv_goto (tgt := 1338) X.1 X.2.1 dL_law_1143 (by decide) ?_
      exact kk _ f_1110 H locs ls _ _ hI1 hR2 ⟨_, hr2M⟩ ⟨wo2, ho2⟩ (by omega) (by omega) S (lv_sub hl [2, 3, 4, 5, 6] rfl)
    · have hk0 := kk2_z c_1128
      refine lv_aload_n X.1 X.2.1 dL_law_1131 rfl (lv_at hl 5 rfl) ?_
      refine lv_iconst (v := 0) X.1 X.2.1 dL_law_1132 (by decide) ?_
      refine r_lald (v := (wo2 0)) X S ho2 (pk_in 0 1 (by omega)) rfl dL_law_1133 ?_
      refine lv_iload X.1 X.2.1 dL_law_1134 (lv_at hl 0 rfl) ?_
      refine lv_i2l (v := r_1110.toInt64) X.1 X.2.1 dL_law_1136 rfl ?_
      refine W.lcmp X.1 X.2.1 dL_law_1137 ?_
      refine lv_if_eq (tgt := 1143) X.1 X.2.1 dL_law_1138 (by decide) (fun c_1138 => ?_) (fun c_1138 => ?_)
      · refine lv_goto (tgt := 1338) X.1 X.2.1 dL_law_1143 (by decide) ?_
        exact kk _ f_1110 H locs ls _ _ hI1 hR2 ⟨_, hr2M⟩ ⟨wo2, ho2⟩ (by omega) (by omega) S (lv_sub hl [2, 3, 4, 5, 6] rfl)
      · exact absurd (by rw [hw2 hk0, hr2v hk0]; exact lgz _) c_1138
  · exact absurd rfl c_1121

set_option maxRecDepth 100000 in
set_option maxHeartbeats 4000000 in
/-- the law at depthAnew -/
theorem law_depthAnew {p0 : Program} {l : Launch} {e0 : Env} {s0 : State} {m0 : MethodId} {b0 : List Frame} {meth0 : Method} {c0 : Code} {Q9 : State → Prop} (hst : l.stackTraces = false) {G : cx_G} {b L : Nat} {xs : Nat → Int32} (hX : va_X b L xs s0 s0.heap) (hbl : b < s0.heap.size) (hbA : ¬ gA G b) (hL : L ≤ 3584) (X : cxC G p0 l room_1 c0 cL_law 8 m0 meth0 s0 #[Value.ref b] RL wsL_law) (i : Nat) (hi : 7 * i + 7 ≤ L) (st : St) (f : Wd) (x y ou : Nat) (wo : Nat → Int64) (thr : Int32) (hI : sInv st) (hR0 : RX G f st x) (hM0 : RM G f st y thr) (ho : f ou = some (2000, eJ G 1 wo)) (H : Heap) (locs : List Loc) (ls : Array Slot) (S : cxS G s0 f H locs) (hl : lv_has ls 8 [(0, .ref b), (1, .ref x), (2, .ref y), (3, .ref ou), (4, .int (nI (7 * i)))]) (ck sk : Nat) (hck : ck ≤ 590000) (hsk : sk ≤ 7200000) (kk : ∀ (st2 : St) (f2 : Wd) (H : Heap) (locs : List Loc) (ls : Array Slot) (ck2 sk2 : Nat), sInv st2 → RX G f2 st2 x → (∃ t2 : Int32, RM G f2 st2 y t2) → (∃ w2 : Nat → Int64, f2 ou = some (2000, eJ G 1 w2)) → ck2 ≤ ck + 62 → sk2 ≤ sk + 9192 → cxS G s0 f2 H locs → lv_has ls 8 [(0, .ref b), (1, .ref x), (2, .ref y), (3, .ref ou), (4, .int (nI (7 * i)))] → W p0 l e0 room_1 s0 m0 #[Value.ref b] b0 meth0 c0 H locs ck2 sk2 Q9 (F0 m0 1338 ls [])) : W p0 l e0 room_1 s0 m0 #[Value.ref b] b0 meth0 c0 H locs ck sk Q9 (F0 m0 1146 ls []) := by
  obtain ⟨gr9, rw9, L91, L92, L93, cu9, L94, g91, g92, g93, g94, w9, hR9⟩ := id hR0
  have hx := hR9.1
  obtain ⟨t1, ht1⟩ : ∃ z9 : Int32, z9 = xs (7 * i + 1) := ⟨_, rfl⟩
  obtain ⟨t2, ht2⟩ : ∃ z9 : Int32, z9 = xs (7 * i + 2) := ⟨_, rfl⟩
  obtain ⟨t3, ht3⟩ : ∃ z9 : Int32, z9 = xs (7 * i + 3) := ⟨_, rfl⟩
  obtain ⟨t4, ht4⟩ : ∃ z9 : Int32, z9 = xs (7 * i + 4) := ⟨_, rfl⟩
  obtain ⟨t5, ht5⟩ : ∃ z9 : Int32, z9 = xs (7 * i + 5) := ⟨_, rfl⟩
  obtain ⟨t6, ht6⟩ : ∃ z9 : Int32, z9 = xs (7 * i + 6) := ⟨_, rfl⟩
  refine lv_aload_n X.1 X.2.1 dL_law_1146 rfl (lv_at hl 1 rfl) ?_
  refine lv_aload_n X.1 X.2.1 dL_law_1147 rfl (lv_at hl 0 rfl) ?_
  refine lv_iload X.1 X.2.1 dL_law_1148 (lv_at hl 4 rfl) ?_
  refine lv_iconst (v := 1) X.1 X.2.1 dL_law_1150 (by decide) ?_
  refine lv_iadd X.1 X.2.1 dL_law_1151 ?_
  refine r_toi (nI_add (7 * i) 1) ?_
  refine r_sld X S hX hbl hbA (v := t1) (vp_in_nI (show 7 * i + 1 < L by omega) (by omega)) (by rw [nI_clamp (by omega)]; exact ht1.symm) dL_law_1152 ?_
  refine lv_aload_n X.1 X.2.1 dL_law_1153 rfl (lv_at hl 3 rfl) ?_
  refine xcall_it (xrun_SX X S (h_depthAnew l hst G f st x hI hR0 t1 ou wo ho) 3 gL_law_L_depthAnew rfl rfl rfl (by decide +kernel) ⟨(by exact Nat.le_of_ble_eq_true rfl), (by exact Nat.le_of_ble_eq_true rfl)⟩ rfl hl.1 rfl (by exact Nat.le_of_ble_eq_true rfl) dL_law_1154 ⟨(show ck + 1 ≤ 601024 by omega), (show sk + 6 ≤ 7293034 by omega)⟩) S (fun E H locs qx ce hE => hE.elim) (fun r_h f_1154 H locs hr_h S => ?_)
  obtain ⟨rfl, hR1, ⟨wo2, ho1, hw2⟩, hmd1⟩ := hr_h
  have hI1 := i_depthAnew st hI t1
  obtain ⟨A, V, VL, hM1⟩ := hM0.kept2 hmd1 (fun t q => by unfold tX at q; omega)
  have hy1 := hM1.1
  refine lv_istore (lv' := [(5, .int (nI (k1 (inI t1 0 ((st 0 0 : Int) - 1))))), (0, .ref b), (1, .ref x), (2, .ref y), (3, .ref ou), (4, .int (nI (7 * i)))]) X.1 X.2.1 dL_law_1157 hl (by decide) rfl (fun ls hl => ?_)
  refine lv_aload_n X.1 X.2.1 dL_law_1159 rfl (lv_at hl 3 rfl) ?_
  refine lv_aload_n X.1 X.2.1 dL_law_1160 rfl (lv_at hl 1 rfl) ?_
  refine lv_iload X.1 X.2.1 dL_law_1161 (lv_at hl 5 rfl) ?_
  refine lv_iconst (v := 1) X.1 X.2.1 dL_law_1163 (by decide) ?_
  refine lv_iadd X.1 X.2.1 dL_law_1164 ?_
  refine r_toi (nI_add (7 * i) 1) ?_
  refine r_sld X S hX hbl hbA (v := t1) (vp_in_nI (show 7 * i + 1 < L by omega) (by omega)) (by rw [nI_clamp (by omega)]; exact ht1.symm) dL_law_1165 ?_
  refine call_i (run_V X S (n_depthAnew l G f_1154 st y A V VL thr hI hM1 t1) 1 gL_law_X10_depthAnew rfl rfl rfl (by decide +kernel) ⟨(by exact Nat.le_of_ble_eq_true rfl), (by exact Nat.le_of_ble_eq_true rfl)⟩ ⟨_, _, hy1⟩ rfl rfl rfl hl.1 rfl (by exact Nat.le_of_ble_eq_true rfl) dL_law_1166 ⟨(show ck + 1 + 0 ≤ 601024 by omega), (show sk + 6 + 0 ≤ 7293034 by omega)⟩) S (fun r_1166 f_1166 H locs hr_1166 S => ?_)
  obtain ⟨hr2M, hmd2, hr2v⟩ := hr_1166
  have ho2 := hmd2 _ _ _ ho1 (by unfold tM; omega)
  obtain ⟨A2, V2, VL2, hM2⟩ := id hr2M
  have hy2 := hM2.1
  have hR2 := hR1.kept (md_mono hmd2 (fun t q => by unfold tM at q; unfold tX; omega)) (sInv_le hI1)
  refine lv_istore (lv' := [(6, .int r_1166), (5, .int (nI (k1 (inI t1 0 ((st 0 0 : Int) - 1))))), (0, .ref b), (1, .ref x), (2, .ref y), (3, .ref ou), (4, .int (nI (7 * i)))]) X.1 X.2.1 dL_law_1169 hl (by decide) rfl (fun ls hl => ?_)
  refine lv_aload_n X.1 X.2.1 dL_law_1171 rfl (lv_at hl 4 rfl) ?_
  refine call_ip (run_V X S (n_thrown l G f_1166 y A2 _ _ _ _ _ _ hy2) 0 gL_law_X10_thrown rfl rfl rfl (by decide +kernel) ⟨(by exact Nat.le_of_ble_eq_true rfl), (by exact Nat.le_of_ble_eq_true rfl)⟩ ⟨_, _, hy2⟩ rfl rfl rfl hl.1 rfl (by exact Nat.le_of_ble_eq_true rfl) dL_law_1172 ⟨(show ck + 1 + 0 + 0 ≤ 601024 by omega), (show sk + 6 + 0 + 0 ≤ 7293034 by omega)⟩) S (fun r_1172 H locs hr_1172 S => ?_)
  subst hr_1172
  refine lv_iload X.1 X.2.1 dL_law_1175 (lv_at hl 1 rfl) ?_
  refine lv_icmp_eq (tgt := 1182) X.1 X.2.1 dL_law_1177 (by decide) (fun c_1177 => ?_) (fun c_1177 => ?_)
  · refine lv_iload X.1 X.2.1 dL_law_1182 (lv_at hl 1 rfl) ?_
    refine lv_if_ne (tgt := 1199) X.1 X.2.1 dL_law_1184 (by decide) (fun c_1184 => ?_) (fun c_1184 => ?_)
    · refine lv_goto (tgt := 1338) X.1 X.2.1 dL_law_1199 (by decide) ?_
      exact kk _ f_1166 H locs ls _ _ hI1 hR2 ⟨_, hr2M⟩ ⟨wo2, ho2⟩ (by omega) (by omega) S (lv_sub hl [2, 3, 4, 5, 6] rfl)
    · have hk0 := kk1_z c_1184
      refine lv_aload_n X.1 X.2.1 dL_law_1187 rfl (lv_at hl 5 rfl) ?_
      refine lv_iconst (v := 0) X.1 X.2.1 dL_law_1188 (by decide) ?_
      refine r_lald (v := (wo2 0)) X S ho2 (pk_in 0 1 (by omega)) rfl dL_law_1189 ?_
      refine lv_iload X.1 X.2.1 dL_law_1190 (lv_at hl 0 rfl) ?_
      refine lv_i2l (v := r_1166.toInt64) X.1 X.2.1 dL_law_1192 rfl ?_
      refine W.lcmp X.1 X.2.1 dL_law_1193 ?_
      refine lv_if_eq (tgt := 1199) X.1 X.2.1 dL_law_1194 (by decide) (fun c_1194 => ?_) (fun c_1194 => ?_)
      · refine lv_goto (tgt := 1338) X.1 X.2.1 dL_law_1199 (by decide) ?_
        exact kk _ f_1166 H locs ls _ _ hI1 hR2 ⟨_, hr2M⟩ ⟨wo2, ho2⟩ (by omega) (by omega) S (lv_sub hl [2, 3, 4, 5, 6] rfl)
      · exact absurd (by rw [hw2 hk0, hr2v hk0]; exact lgz _) c_1194
  · exact absurd rfl c_1177

set_option maxRecDepth 100000 in
set_option maxHeartbeats 4000000 in
/-- the law at top -/
theorem law_top {p0 : Program} {l : Launch} {e0 : Env} {s0 : State} {m0 : MethodId} {b0 : List Frame} {meth0 : Method} {c0 : Code} {Q9 : State → Prop} (hst : l.stackTraces = false) {G : cx_G} {b L : Nat} {xs : Nat → Int32} (hX : va_X b L xs s0 s0.heap) (hbl : b < s0.heap.size) (hbA : ¬ gA G b) (hL : L ≤ 3584) (X : cxC G p0 l room_1 c0 cL_law 8 m0 meth0 s0 #[Value.ref b] RL wsL_law) (i : Nat) (hi : 7 * i + 7 ≤ L) (st : St) (f : Wd) (x y ou : Nat) (wo : Nat → Int64) (thr : Int32) (hI : sInv st) (hR0 : RX G f st x) (hM0 : RM G f st y thr) (ho : f ou = some (2000, eJ G 1 wo)) (H : Heap) (locs : List Loc) (ls : Array Slot) (S : cxS G s0 f H locs) (hl : lv_has ls 8 [(0, .ref b), (1, .ref x), (2, .ref y), (3, .ref ou), (4, .int (nI (7 * i)))]) (ck sk : Nat) (hck : ck ≤ 590000) (hsk : sk ≤ 7200000) (kk : ∀ (st2 : St) (f2 : Wd) (H : Heap) (locs : List Loc) (ls : Array Slot) (ck2 sk2 : Nat), sInv st2 → RX G f2 st2 x → (∃ t2 : Int32, RM G f2 st2 y t2) → (∃ w2 : Nat → Int64, f2 ou = some (2000, eJ G 1 w2)) → ck2 ≤ ck + 62 → sk2 ≤ sk + 9192 → cxS G s0 f2 H locs → lv_has ls 8 [(0, .ref b), (1, .ref x), (2, .ref y), (3, .ref ou), (4, .int (nI (7 * i)))] → W p0 l e0 room_1 s0 m0 #[Value.ref b] b0 meth0 c0 H locs ck2 sk2 Q9 (F0 m0 1338 ls [])) : W p0 l e0 room_1 s0 m0 #[Value.ref b] b0 meth0 c0 H locs ck sk Q9 (F0 m0 1202 ls []) := by
  obtain ⟨gr9, rw9, L91, L92, L93, cu9, L94, g91, g92, g93, g94, w9, hR9⟩ := id hR0
  have hx := hR9.1
  obtain ⟨t1, ht1⟩ : ∃ z9 : Int32, z9 = xs (7 * i + 1) := ⟨_, rfl⟩
  obtain ⟨t2, ht2⟩ : ∃ z9 : Int32, z9 = xs (7 * i + 2) := ⟨_, rfl⟩
  obtain ⟨t3, ht3⟩ : ∃ z9 : Int32, z9 = xs (7 * i + 3) := ⟨_, rfl⟩
  obtain ⟨t4, ht4⟩ : ∃ z9 : Int32, z9 = xs (7 * i + 4) := ⟨_, rfl⟩
  obtain ⟨t5, ht5⟩ : ∃ z9 : Int32, z9 = xs (7 * i + 5) := ⟨_, rfl⟩
  obtain ⟨t6, ht6⟩ : ∃ z9 : Int32, z9 = xs (7 * i + 6) := ⟨_, rfl⟩
  refine lv_aload_n X.1 X.2.1 dL_law_1202 rfl (lv_at hl 1 rfl) ?_
  refine lv_aload_n X.1 X.2.1 dL_law_1203 rfl (lv_at hl 0 rfl) ?_
  refine lv_iload X.1 X.2.1 dL_law_1204 (lv_at hl 4 rfl) ?_
  refine lv_iconst (v := 1) X.1 X.2.1 dL_law_1206 (by decide) ?_
  refine lv_iadd X.1 X.2.1 dL_law_1207 ?_
  refine r_toi (nI_add (7 * i) 1) ?_
  refine r_sld X S hX hbl hbA (v := t1) (vp_in_nI (show 7 * i + 1 < L by omega) (by omega)) (by rw [nI_clamp (by omega)]; exact ht1.symm) dL_law_1208 ?_
  refine lv_aload_n X.1 X.2.1 dL_law_1209 rfl (lv_at hl 0 rfl) ?_
  refine lv_iload X.1 X.2.1 dL_law_1210 (lv_at hl 4 rfl) ?_
  refine lv_iconst (v := 2) X.1 X.2.1 dL_law_1212 (by decide) ?_
  refine lv_iadd X.1 X.2.1 dL_law_1213 ?_
  refine r_toi (nI_add (7 * i) 2) ?_
  refine r_sld X S hX hbl hbA (v := t2) (vp_in_nI (show 7 * i + 2 < L by omega) (by omega)) (by rw [nI_clamp (by omega)]; exact ht2.symm) dL_law_1214 ?_
  refine lv_aload_n X.1 X.2.1 dL_law_1215 rfl (lv_at hl 3 rfl) ?_
  refine xcall_it (xrun_SX X S (h_top l hst G f st x hI hR0 t1 t2 ou wo ho) 4 gL_law_L_top rfl rfl rfl (by decide +kernel) ⟨(by exact Nat.le_of_ble_eq_true rfl), (by exact Nat.le_of_ble_eq_true rfl)⟩ rfl hl.1 rfl (by exact Nat.le_of_ble_eq_true rfl) dL_law_1216 ⟨(show ck + 1 ≤ 601024 by omega), (show sk + 6 ≤ 7293034 by omega)⟩) S (fun E H locs qx ce hE => hE.elim) (fun r_h f_1216 H locs hr_h S => ?_)
  obtain ⟨rfl, hR1, ⟨wo2, ho1, hw2⟩, hmd1⟩ := hr_h
  have hI1 := i_top st hI t1 t2
  obtain ⟨A, V, VL, hM1⟩ := hM0.kept2 hmd1 (fun t q => by unfold tX at q; omega)
  have hy1 := hM1.1
  refine lv_istore (lv' := [(5, .int (nI (k1 (cellP t1 t2)))), (0, .ref b), (1, .ref x), (2, .ref y), (3, .ref ou), (4, .int (nI (7 * i)))]) X.1 X.2.1 dL_law_1219 hl (by decide) rfl (fun ls hl => ?_)
  refine lv_aload_n X.1 X.2.1 dL_law_1221 rfl (lv_at hl 3 rfl) ?_
  refine lv_aload_n X.1 X.2.1 dL_law_1222 rfl (lv_at hl 1 rfl) ?_
  refine lv_iload X.1 X.2.1 dL_law_1223 (lv_at hl 5 rfl) ?_
  refine lv_iconst (v := 1) X.1 X.2.1 dL_law_1225 (by decide) ?_
  refine lv_iadd X.1 X.2.1 dL_law_1226 ?_
  refine r_toi (nI_add (7 * i) 1) ?_
  refine r_sld X S hX hbl hbA (v := t1) (vp_in_nI (show 7 * i + 1 < L by omega) (by omega)) (by rw [nI_clamp (by omega)]; exact ht1.symm) dL_law_1227 ?_
  refine lv_aload_n X.1 X.2.1 dL_law_1228 rfl (lv_at hl 1 rfl) ?_
  refine lv_iload X.1 X.2.1 dL_law_1229 (lv_at hl 5 rfl) ?_
  refine lv_iconst (v := 2) X.1 X.2.1 dL_law_1231 (by decide) ?_
  refine lv_iadd X.1 X.2.1 dL_law_1232 ?_
  refine r_toi (nI_add (7 * i) 2) ?_
  refine r_sld X S hX hbl hbA (v := t2) (vp_in_nI (show 7 * i + 2 < L by omega) (by omega)) (by rw [nI_clamp (by omega)]; exact ht2.symm) dL_law_1233 ?_
  refine call_i (run_V X S (n_top l G f_1216 st y A V VL thr hI hM1 t1 t2) 2 gL_law_X10_top rfl rfl rfl (by decide +kernel) ⟨(by exact Nat.le_of_ble_eq_true rfl), (by exact Nat.le_of_ble_eq_true rfl)⟩ ⟨_, _, hy1⟩ rfl rfl rfl hl.1 rfl (by exact Nat.le_of_ble_eq_true rfl) dL_law_1234 ⟨(show ck + 1 + 0 ≤ 601024 by omega), (show sk + 6 + 0 ≤ 7293034 by omega)⟩) S (fun r_1234 f_1234 H locs hr_1234 S => ?_)
  obtain ⟨hr2M, hmd2, hr2v⟩ := hr_1234
  have ho2 := hmd2 _ _ _ ho1 (by unfold tM; omega)
  obtain ⟨A2, V2, VL2, hM2⟩ := id hr2M
  have hy2 := hM2.1
  have hR2 := hR1.kept (md_mono hmd2 (fun t q => by unfold tM at q; unfold tX; omega)) (sInv_le hI1)
  refine lv_istore (lv' := [(6, .int r_1234), (5, .int (nI (k1 (cellP t1 t2)))), (0, .ref b), (1, .ref x), (2, .ref y), (3, .ref ou), (4, .int (nI (7 * i)))]) X.1 X.2.1 dL_law_1237 hl (by decide) rfl (fun ls hl => ?_)
  refine lv_aload_n X.1 X.2.1 dL_law_1239 rfl (lv_at hl 4 rfl) ?_
  refine call_ip (run_V X S (n_thrown l G f_1234 y A2 _ _ _ _ _ _ hy2) 0 gL_law_X10_thrown rfl rfl rfl (by decide +kernel) ⟨(by exact Nat.le_of_ble_eq_true rfl), (by exact Nat.le_of_ble_eq_true rfl)⟩ ⟨_, _, hy2⟩ rfl rfl rfl hl.1 rfl (by exact Nat.le_of_ble_eq_true rfl) dL_law_1240 ⟨(show ck + 1 + 0 + 0 ≤ 601024 by omega), (show sk + 6 + 0 + 0 ≤ 7293034 by omega)⟩) S (fun r_1240 H locs hr_1240 S => ?_)
  subst hr_1240
  refine lv_iload X.1 X.2.1 dL_law_1243 (lv_at hl 1 rfl) ?_
  refine lv_icmp_eq (tgt := 1250) X.1 X.2.1 dL_law_1245 (by decide) (fun c_1245 => ?_) (fun c_1245 => ?_)
  · refine lv_iload X.1 X.2.1 dL_law_1250 (lv_at hl 1 rfl) ?_
    refine lv_if_ne (tgt := 1267) X.1 X.2.1 dL_law_1252 (by decide) (fun c_1252 => ?_) (fun c_1252 => ?_)
    · refine lv_goto (tgt := 1338) X.1 X.2.1 dL_law_1267 (by decide) ?_
      exact kk _ f_1234 H locs ls _ _ hI1 hR2 ⟨_, hr2M⟩ ⟨wo2, ho2⟩ (by omega) (by omega) S (lv_sub hl [2, 3, 4, 5, 6] rfl)
    · have hk0 := kk1_z c_1252
      refine lv_aload_n X.1 X.2.1 dL_law_1255 rfl (lv_at hl 5 rfl) ?_
      refine lv_iconst (v := 0) X.1 X.2.1 dL_law_1256 (by decide) ?_
      refine r_lald (v := (wo2 0)) X S ho2 (pk_in 0 1 (by omega)) rfl dL_law_1257 ?_
      refine lv_iload X.1 X.2.1 dL_law_1258 (lv_at hl 0 rfl) ?_
      refine lv_i2l (v := r_1234.toInt64) X.1 X.2.1 dL_law_1260 rfl ?_
      refine W.lcmp X.1 X.2.1 dL_law_1261 ?_
      refine lv_if_eq (tgt := 1267) X.1 X.2.1 dL_law_1262 (by decide) (fun c_1262 => ?_) (fun c_1262 => ?_)
      · refine lv_goto (tgt := 1338) X.1 X.2.1 dL_law_1267 (by decide) ?_
        exact kk _ f_1234 H locs ls _ _ hI1 hR2 ⟨_, hr2M⟩ ⟨wo2, ho2⟩ (by omega) (by omega) S (lv_sub hl [2, 3, 4, 5, 6] rfl)
      · exact absurd (by rw [hw2 hk0, hr2v hk0]; exact lgz _) c_1262
  · exact absurd rfl c_1245

set_option maxRecDepth 100000 in
set_option maxHeartbeats 4000000 in
/-- the law at topAnew -/
theorem law_topAnew {p0 : Program} {l : Launch} {e0 : Env} {s0 : State} {m0 : MethodId} {b0 : List Frame} {meth0 : Method} {c0 : Code} {Q9 : State → Prop} (hst : l.stackTraces = false) {G : cx_G} {b L : Nat} {xs : Nat → Int32} (hX : va_X b L xs s0 s0.heap) (hbl : b < s0.heap.size) (hbA : ¬ gA G b) (hL : L ≤ 3584) (X : cxC G p0 l room_1 c0 cL_law 8 m0 meth0 s0 #[Value.ref b] RL wsL_law) (i : Nat) (hi : 7 * i + 7 ≤ L) (st : St) (f : Wd) (x y ou : Nat) (wo : Nat → Int64) (thr : Int32) (hI : sInv st) (hR0 : RX G f st x) (hM0 : RM G f st y thr) (ho : f ou = some (2000, eJ G 1 wo)) (H : Heap) (locs : List Loc) (ls : Array Slot) (S : cxS G s0 f H locs) (hl : lv_has ls 8 [(0, .ref b), (1, .ref x), (2, .ref y), (3, .ref ou), (4, .int (nI (7 * i)))]) (ck sk : Nat) (hck : ck ≤ 590000) (hsk : sk ≤ 7200000) (kk : ∀ (st2 : St) (f2 : Wd) (H : Heap) (locs : List Loc) (ls : Array Slot) (ck2 sk2 : Nat), sInv st2 → RX G f2 st2 x → (∃ t2 : Int32, RM G f2 st2 y t2) → (∃ w2 : Nat → Int64, f2 ou = some (2000, eJ G 1 w2)) → ck2 ≤ ck + 62 → sk2 ≤ sk + 9192 → cxS G s0 f2 H locs → lv_has ls 8 [(0, .ref b), (1, .ref x), (2, .ref y), (3, .ref ou), (4, .int (nI (7 * i)))] → W p0 l e0 room_1 s0 m0 #[Value.ref b] b0 meth0 c0 H locs ck2 sk2 Q9 (F0 m0 1338 ls [])) : W p0 l e0 room_1 s0 m0 #[Value.ref b] b0 meth0 c0 H locs ck sk Q9 (F0 m0 1270 ls []) := by
  obtain ⟨gr9, rw9, L91, L92, L93, cu9, L94, g91, g92, g93, g94, w9, hR9⟩ := id hR0
  have hx := hR9.1
  obtain ⟨t1, ht1⟩ : ∃ z9 : Int32, z9 = xs (7 * i + 1) := ⟨_, rfl⟩
  obtain ⟨t2, ht2⟩ : ∃ z9 : Int32, z9 = xs (7 * i + 2) := ⟨_, rfl⟩
  obtain ⟨t3, ht3⟩ : ∃ z9 : Int32, z9 = xs (7 * i + 3) := ⟨_, rfl⟩
  obtain ⟨t4, ht4⟩ : ∃ z9 : Int32, z9 = xs (7 * i + 4) := ⟨_, rfl⟩
  obtain ⟨t5, ht5⟩ : ∃ z9 : Int32, z9 = xs (7 * i + 5) := ⟨_, rfl⟩
  obtain ⟨t6, ht6⟩ : ∃ z9 : Int32, z9 = xs (7 * i + 6) := ⟨_, rfl⟩
  refine lv_aload_n X.1 X.2.1 dL_law_1270 rfl (lv_at hl 1 rfl) ?_
  refine lv_aload_n X.1 X.2.1 dL_law_1271 rfl (lv_at hl 0 rfl) ?_
  refine lv_iload X.1 X.2.1 dL_law_1272 (lv_at hl 4 rfl) ?_
  refine lv_iconst (v := 1) X.1 X.2.1 dL_law_1274 (by decide) ?_
  refine lv_iadd X.1 X.2.1 dL_law_1275 ?_
  refine r_toi (nI_add (7 * i) 1) ?_
  refine r_sld X S hX hbl hbA (v := t1) (vp_in_nI (show 7 * i + 1 < L by omega) (by omega)) (by rw [nI_clamp (by omega)]; exact ht1.symm) dL_law_1276 ?_
  refine lv_aload_n X.1 X.2.1 dL_law_1277 rfl (lv_at hl 0 rfl) ?_
  refine lv_iload X.1 X.2.1 dL_law_1278 (lv_at hl 4 rfl) ?_
  refine lv_iconst (v := 2) X.1 X.2.1 dL_law_1280 (by decide) ?_
  refine lv_iadd X.1 X.2.1 dL_law_1281 ?_
  refine r_toi (nI_add (7 * i) 2) ?_
  refine r_sld X S hX hbl hbA (v := t2) (vp_in_nI (show 7 * i + 2 < L by omega) (by omega)) (by rw [nI_clamp (by omega)]; exact ht2.symm) dL_law_1282 ?_
  refine lv_aload_n X.1 X.2.1 dL_law_1283 rfl (lv_at hl 3 rfl) ?_
  refine xcall_it (xrun_SX X S (h_topAnew l hst G f st x hI hR0 t1 t2 ou wo ho) 4 gL_law_L_topAnew rfl rfl rfl (by decide +kernel) ⟨(by exact Nat.le_of_ble_eq_true rfl), (by exact Nat.le_of_ble_eq_true rfl)⟩ rfl hl.1 rfl (by exact Nat.le_of_ble_eq_true rfl) dL_law_1284 ⟨(show ck + 1 ≤ 601024 by omega), (show sk + 6 ≤ 7293034 by omega)⟩) S (fun E H locs qx ce hE => hE.elim) (fun r_h f_1284 H locs hr_h S => ?_)
  obtain ⟨rfl, hR1, ⟨wo2, ho1, hw2⟩, hmd1⟩ := hr_h
  have hI1 := i_topAnew st hI t1 t2
  obtain ⟨A, V, VL, hM1⟩ := hM0.kept2 hmd1 (fun t q => by unfold tX at q; omega)
  have hy1 := hM1.1
  refine lv_istore (lv' := [(5, .int (nI (k1 (cellP t1 t2)))), (0, .ref b), (1, .ref x), (2, .ref y), (3, .ref ou), (4, .int (nI (7 * i)))]) X.1 X.2.1 dL_law_1287 hl (by decide) rfl (fun ls hl => ?_)
  refine lv_aload_n X.1 X.2.1 dL_law_1289 rfl (lv_at hl 3 rfl) ?_
  refine lv_aload_n X.1 X.2.1 dL_law_1290 rfl (lv_at hl 1 rfl) ?_
  refine lv_iload X.1 X.2.1 dL_law_1291 (lv_at hl 5 rfl) ?_
  refine lv_iconst (v := 1) X.1 X.2.1 dL_law_1293 (by decide) ?_
  refine lv_iadd X.1 X.2.1 dL_law_1294 ?_
  refine r_toi (nI_add (7 * i) 1) ?_
  refine r_sld X S hX hbl hbA (v := t1) (vp_in_nI (show 7 * i + 1 < L by omega) (by omega)) (by rw [nI_clamp (by omega)]; exact ht1.symm) dL_law_1295 ?_
  refine lv_aload_n X.1 X.2.1 dL_law_1296 rfl (lv_at hl 1 rfl) ?_
  refine lv_iload X.1 X.2.1 dL_law_1297 (lv_at hl 5 rfl) ?_
  refine lv_iconst (v := 2) X.1 X.2.1 dL_law_1299 (by decide) ?_
  refine lv_iadd X.1 X.2.1 dL_law_1300 ?_
  refine r_toi (nI_add (7 * i) 2) ?_
  refine r_sld X S hX hbl hbA (v := t2) (vp_in_nI (show 7 * i + 2 < L by omega) (by omega)) (by rw [nI_clamp (by omega)]; exact ht2.symm) dL_law_1301 ?_
  refine call_i (run_V X S (n_topAnew l G f_1284 st y A V VL thr hI hM1 t1 t2) 2 gL_law_X10_topAnew rfl rfl rfl (by decide +kernel) ⟨(by exact Nat.le_of_ble_eq_true rfl), (by exact Nat.le_of_ble_eq_true rfl)⟩ ⟨_, _, hy1⟩ rfl rfl rfl hl.1 rfl (by exact Nat.le_of_ble_eq_true rfl) dL_law_1302 ⟨(show ck + 1 + 0 ≤ 601024 by omega), (show sk + 6 + 0 ≤ 7293034 by omega)⟩) S (fun r_1302 f_1302 H locs hr_1302 S => ?_)
  obtain ⟨hr2M, hmd2, hr2v⟩ := hr_1302
  have ho2 := hmd2 _ _ _ ho1 (by unfold tM; omega)
  obtain ⟨A2, V2, VL2, hM2⟩ := id hr2M
  have hy2 := hM2.1
  have hR2 := hR1.kept (md_mono hmd2 (fun t q => by unfold tM at q; unfold tX; omega)) (sInv_le hI1)
  refine lv_istore (lv' := [(6, .int r_1302), (5, .int (nI (k1 (cellP t1 t2)))), (0, .ref b), (1, .ref x), (2, .ref y), (3, .ref ou), (4, .int (nI (7 * i)))]) X.1 X.2.1 dL_law_1305 hl (by decide) rfl (fun ls hl => ?_)
  refine lv_aload_n X.1 X.2.1 dL_law_1307 rfl (lv_at hl 4 rfl) ?_
  refine call_ip (run_V X S (n_thrown l G f_1302 y A2 _ _ _ _ _ _ hy2) 0 gL_law_X10_thrown rfl rfl rfl (by decide +kernel) ⟨(by exact Nat.le_of_ble_eq_true rfl), (by exact Nat.le_of_ble_eq_true rfl)⟩ ⟨_, _, hy2⟩ rfl rfl rfl hl.1 rfl (by exact Nat.le_of_ble_eq_true rfl) dL_law_1308 ⟨(show ck + 1 + 0 + 0 ≤ 601024 by omega), (show sk + 6 + 0 + 0 ≤ 7293034 by omega)⟩) S (fun r_1308 H locs hr_1308 S => ?_)
  subst hr_1308
  refine lv_iload X.1 X.2.1 dL_law_1311 (lv_at hl 1 rfl) ?_
  refine lv_icmp_eq (tgt := 1318) X.1 X.2.1 dL_law_1313 (by decide) (fun c_1313 => ?_) (fun c_1313 => ?_)
  · refine lv_iload X.1 X.2.1 dL_law_1318 (lv_at hl 1 rfl) ?_
    refine lv_if_ne (tgt := 1335) X.1 X.2.1 dL_law_1320 (by decide) (fun c_1320 => ?_) (fun c_1320 => ?_)
    · refine lv_goto (tgt := 1338) X.1 X.2.1 dL_law_1335 (by decide) ?_
      exact kk _ f_1302 H locs ls _ _ hI1 hR2 ⟨_, hr2M⟩ ⟨wo2, ho2⟩ (by omega) (by omega) S (lv_sub hl [2, 3, 4, 5, 6] rfl)
    · have hk0 := kk1_z c_1320
      refine lv_aload_n X.1 X.2.1 dL_law_1323 rfl (lv_at hl 5 rfl) ?_
      refine lv_iconst (v := 0) X.1 X.2.1 dL_law_1324 (by decide) ?_
      refine r_lald (v := (wo2 0)) X S ho2 (pk_in 0 1 (by omega)) rfl dL_law_1325 ?_
      refine lv_iload X.1 X.2.1 dL_law_1326 (lv_at hl 0 rfl) ?_
      refine lv_i2l (v := r_1302.toInt64) X.1 X.2.1 dL_law_1328 rfl ?_
      refine W.lcmp X.1 X.2.1 dL_law_1329 ?_
      refine lv_if_eq (tgt := 1335) X.1 X.2.1 dL_law_1330 (by decide) (fun c_1330 => ?_) (fun c_1330 => ?_)
      · refine lv_goto (tgt := 1338) X.1 X.2.1 dL_law_1335 (by decide) ?_
        exact kk _ f_1302 H locs ls _ _ hI1 hR2 ⟨_, hr2M⟩ ⟨wo2, ho2⟩ (by omega) (by omega) S (lv_sub hl [2, 3, 4, 5, 6] rfl)
      · exact absurd (by rw [hw2 hk0, hr2v hk0]; exact lgz _) c_1330
  · exact absurd rfl c_1313
