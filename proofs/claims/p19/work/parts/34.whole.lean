/-! THE CLAIM OUT OF ONE WALK OF THE LAW'S BODY. Your part is whole_start (and what it stands on); all else here is the same for every law, but numbers. -/
def R_law : String := "CraterclockLaw"
def lw_P (b : Addr) (xs : List Int32) (args : Array Value) (s : State) : Prop := args = #[.ref b] ∧ s.IntsAt b xs ∧ xs.length ≤ 260 ∧ (Jvm.Cond.and given_1 narrow_1).before args s = true
def lw_Q (_ : Array Value) (s : State) (o : Outcome) (t : State) : Prop := o = .returned (some (.int 1)) ∧ Framed s o t [] 668555 7096105
def lw_Z (below : List Frame) (a : Array Value) (s : State) : State → Prop := fun t => ∃ o, t.status = .running ∧ Ended t below o ∧ lw_Q a s o t
/-- the law's own end, with 1 on the stack, nothing written that was there before, its room as the claim has it -/
theorem lw_ret {p : Program} {l : Launch} {e : Env} {s : State} {m : MethodId} {below : List Frame} {meth : Method} {c : Code} {b : Nat} (hx : p.tables.exec = Jvm.exec) (hb : c.code = code) (hr : meth.sig.returnType = ret) (hlocks : meth.locks = false) {pc : Nat} {H : Heap} {ls : Array Slot} (hdg : decode code pc = .ok (.ireturn, 1)) : W p l e room_1 s m #[Value.ref b] below meth c H [] 668555 7096105 (lw_Z below #[Value.ref b] s) (F0 m pc ls [.int 1]) := by
  intro T hT X
  obtain ⟨fs, hret, hrun, hended, hW, hframe⟩ := X.leave (v := some (.int 1)) (hlocks := hlocks) (fun h => by rw [hr] at h; cases h)
  have hmeth' : T.vm.method? m = some meth := X.method'
  refine ⟨T.setFrames fs, ?_, .returned (some (.int 1)), hrun, hended, rfl, ⟨_, rfl⟩, hW, hframe⟩
  jvm_step X.here [X.here.top, hx, hb, hdg, hmeth', hr, ret, narrow_b1]
  (try refine ⟨rfl, ?_⟩); (try refine ⟨rfl, ?_⟩)
  first | (intro acts; rw [hret _ acts rfl rfl rfl]) | rw [hret _ _ rfl rfl rfl]
  exact Steps.refl _
/-- what holds at the law's entry: the machine, the code, the tables' words (any of lw_tbl by 'hts w (by decide +kernel)'), the script of L ints xs at the cell b, what the Statement gives of the start (any of its parts by flat_of_before) -/
def lw_At (p : Program) (s : State) (m : MethodId) (meth : Method) (c : Code) (b L : Nat) (xs : Nat → Int32) : Prop :=
  p.tables.exec = Jvm.exec ∧ c.code = code ∧ meth.sig.returnType = ret ∧ c.maxLocals = 1 ∧ s.vm.findClass R_law = some m.cls ∧ (∀ w ∈ lw_tbl, w.before #[Value.ref b] s = true) ∧ va_X b L xs s s.heap ∧ b < s.heap.size ∧ meth.locks = false ∧ (Jvm.Cond.and given_1 narrow_1).before #[Value.ref b] s = true
-- ===== YOUR PART BEGINS =====
set_option maxRecDepth 100000 in
set_option maxHeartbeats 8000000 in
/-- YOUR PART: from the entry, for every script of at most 260 ints, the law comes to its end with true ('hflags': the launch's flags, for a law that throws: no stack traces) -/
theorem whole_start {p : Program} {e : Env} {s : State} {m : MethodId} {below : List Frame} {meth : Method} {c : Code} (l : Launch) (hflags : l.flags = flags0) {b L : Nat} {xs : Nat → Int32} (hL : L ≤ 260) (C0 : lw_At p s m meth c b L xs) : W p l e room_1 s m #[Value.ref b] below meth c s.heap [] 0 0 (lw_Z below #[Value.ref b] s) (entryFrame m ([Value.ref b] : List Value).toArray 1) := by
  obtain ⟨hx, hb, hr, hml, hown, hts, hX, hbl, hlocks, hgv⟩ := id C0
  have hst : l.stackTraces = false := by unfold Launch.stackTraces; rw [hflags]; decide
  have hs := flat_of_before _ hgv
  have htw : ∀ w ∈ wsL_law, w.before #[Value.ref b] s = true := fun w h => hts w (wsL_law_in w h)
  have hcl : ∀ k : Nat, ∃ z : ClassId × (Nat → Nat), ∀ q, vwCl[k]? = some q → u_Kn s q.1 q.2.1 q.2.2 z.1 z.2 := by
    intro k
    match k with
    | 0 =>
      obtain ⟨c9, iS, h⟩ := u_known (C := RJx4a65c) (T := TJx4a65c) (N := 3) (n := 3) hts inJx4a65c (hts (.instantiable RJx4a65c 3) (by decide +kernel))
      exact ⟨(c9, iS), fun q hq => by cases hq; exact h⟩
    | 1 =>
      obtain ⟨c9, iS, h⟩ := u_known (C := RX0) (T := TX0) (N := 2) (n := 2) hts inX0 (hts (.instantiable RX0 2) (by decide +kernel))
      exact ⟨(c9, iS), fun q hq => by cases hq; exact h⟩
    | 2 =>
      obtain ⟨c9, iS, h⟩ := u_known (C := RX1) (T := TX1) (N := 6) (n := 6) hts inX1 (hts (.instantiable RX1 6) (by decide +kernel))
      exact ⟨(c9, iS), fun q hq => by cases hq; exact h⟩
    | 3 =>
      obtain ⟨c9, iS, h⟩ := u_known (C := RX2) (T := TX2) (N := 1) (n := 1) hts inX2 (hts (.instantiable RX2 1) (by decide +kernel))
      exact ⟨(c9, iS), fun q hq => by cases hq; exact h⟩
    | 4 =>
      obtain ⟨c9, iS, h⟩ := u_known (C := RX3) (T := TX3) (N := 1) (n := 1) hts inX3 (hts (.instantiable RX3 1) (by decide +kernel))
      exact ⟨(c9, iS), fun q hq => by cases hq; exact h⟩
    | 5 =>
      obtain ⟨c9, iS, h⟩ := u_known (C := RX4) (T := TX4) (N := 4) (n := 4) hts inX4 (hts (.instantiable RX4 4) (by decide +kernel))
      exact ⟨(c9, iS), fun q hq => by cases hq; exact h⟩
    | 6 =>
      obtain ⟨c9, iS, h⟩ := u_known (C := RX5) (T := TX5) (N := 3) (n := 3) hts inX5 (hts (.instantiable RX5 3) (by decide +kernel))
      exact ⟨(c9, iS), fun q hq => by cases hq; exact h⟩
    | 7 =>
      obtain ⟨c9, iS, h⟩ := u_known (C := RX6) (T := TX6) (N := 1) (n := 1) hts inX6 (hts (.instantiable RX6 1) (by decide +kernel))
      exact ⟨(c9, iS), fun q hq => by cases hq; exact h⟩
    | 8 =>
      obtain ⟨c9, iS, h⟩ := u_known (C := RX8) (T := TX8) (N := 3) (n := 3) hts inX8 (hts (.instantiable RX8 3) (by decide +kernel))
      exact ⟨(c9, iS), fun q hq => by cases hq; exact h⟩
    | 9 =>
      obtain ⟨c9, iS, h⟩ := u_known (C := RX9) (T := TX9) (N := 6) (n := 6) hts inX9 (hts (.instantiable RX9 6) (by decide +kernel))
      exact ⟨(c9, iS), fun q hq => by cases hq; exact h⟩
    | k + 10 => exact ⟨(m.cls, fun _ => 0), fun q hq => by simp [vwCl] at hq⟩
  obtain ⟨dC, dI, hKc⟩ : ∃ (dC : Nat → ClassId) (dI : Nat → Nat → Nat), ∀ (k : Nat) (q : vw_C), vwCl[k]? = some q → u_Kn s q.1 q.2.1 q.2.2 (dC k) (dI k) := ⟨fun k => (Classical.choose (hcl k)).1, fun k => (Classical.choose (hcl k)).2, fun k q hq => Classical.choose_spec (hcl k) q hq⟩
  obtain ⟨cI, kI, pI, i1, i2, i3⟩ := Cond.arrayClass_spec (hts (.arrayClass .int) (by decide +kernel))
  obtain ⟨cJ, kJ, pJ, j1, j2, j3⟩ := Cond.arrayClass_spec (hts (.arrayClass .long) (by decide +kernel))
  obtain ⟨pO, cO, kO, o1, o2, o3, o4, o5⟩ := Cond.arrayOver_spec (hts (.arrayOver (.object "java/lang/Object")) (by decide +kernel))
  obtain ⟨d0, c1, cell, k1, e1, e2, e3, e4, e5, e6, -⟩ := Cond.exactly_spec (hs (.exactly (.static "java/util/ArrayList" "DEFAULTCAPACITY_EMPTY_ELEMENTDATA" "[Ljava/lang/Object;") "[Ljava/lang/Object;") (by decide +kernel))
  obtain ⟨hia, hun⟩ := Cond.arrayOf_spec (hs (.arrayOf (.static "java/util/ArrayList" "DEFAULTCAPACITY_EMPTY_ELEMENTDATA" "[Ljava/lang/Object;") (.object "java/lang/Object")) (by decide +kernel)) e1 e3
  have hsz : cell.slots.size = 0 := by
    have hlen := hs (.eq (.length (.static "java/util/ArrayList" "DEFAULTCAPACITY_EMPTY_ELEMENTDATA" "[Ljava/lang/Object;")) (.int 0)) (by decide +kernel)
    cases hv : (Term.length (.static "java/util/ArrayList" "DEFAULTCAPACITY_EMPTY_ELEMENTDATA" "[Ljava/lang/Object;")).eval #[Value.ref b] s none [] s with
    | none => simp [Cond.before, Cond.holds, Cond.value, hv] at hlen
    | some v =>
      obtain ⟨a2, cell2, q1, q2, q3⟩ := Term.length_spec hv
      have e7 : a2 = d0 := by rw [e1] at q1; cases q1; rfl
      subst e7
      have e8 := (State.arrayAt?_spec q2).1
      rw [e3] at e8
      cases e8
      have hn : cell.slots.size < 2 ^ 31 := by
        rcases Nat.lt_or_ge cell.slots.size (2 ^ 31) with z | z
        · exact z
        · exfalso
          simp [Term.eval, q2] at hv
          simp [Term.eval] at q1
          simp [q1, q2] at hv
          omega
      have hz : (Term.int 0).eval #[Value.ref b] s none [] s = some (.int 0) := rfl
      subst q3
      simp only [Cond.before, Cond.holds, Cond.value, hv, hz] at hlen
      have h0 : cell.slots.size.toInt32 = 0 := by simpa using hlen
      exact (nI_eq (a := cell.slots.size) (b := 0) hn (by omega)).mp h0
  obtain ⟨mi, hMi⟩ := va_Mi.of (hs (.isRef (.mirror "[Ljava/lang/Object;")) (by decide +kernel))
  have hnA : ∀ a : Nat, a < s.heap.size → ¬ (fun q : Nat => s.heap.size ≤ q) a := fun a h => Nat.not_le.mpr h
  have hd0 : d0 < s.heap.size := (Array.getElem?_eq_some_iff.mp e3).1
  obtain ⟨G, hG⟩ : ∃ G : cx_G, G = ((dC, dI), (cI, cJ, cO), (s.heap, d0, mi, b, L, xs)) := ⟨_, rfl⟩
  have str : ∀ (k : Nat) (tx : String), (Cond.stringRef "Craterclock" k tx).before #[Value.ref b] s = true → (Cond.exactly (.string "Craterclock" k) "java/lang/String").before #[Value.ref b] s = true → ∃ sa, vk_R "Craterclock" k tx sa s := by
    intro k tx h1 h2
    obtain ⟨sa, c9, ce9, k9, z1, -⟩ := Cond.exactly_spec h2
    exact ⟨sa, vk_R.of h1 z1⟩
  have hgk : gk G s := by
    subst hG
    refine ⟨⟨hKc, fun k q hq => ?_⟩, va_Zref (hts (.laysStatic "java/util/ArrayList" "DEFAULTCAPACITY_EMPTY_ELEMENTDATA" "[Ljava/lang/Object;") (by decide +kernel)) (hts (.initialized "java/util/ArrayList") (by decide +kernel)) e1 hnA, vx_Zqof (hts (.laysStatic "java/lang/Throwable" "UNASSIGNED_STACK" "[Ljava/lang/StackTraceElement;") (by decide +kernel)) (hts (.initialized "java/lang/Throwable") (by decide +kernel)) (hs (.isRef (.static "java/lang/Throwable" "UNASSIGNED_STACK" "[Ljava/lang/StackTraceElement;")) (by decide +kernel)) hnA, vx_Zqof (hts (.laysStatic "java/lang/Throwable" "SUPPRESSED_SENTINEL" "Ljava/util/List;") (by decide +kernel)) (hts (.initialized "java/lang/Throwable") (by decide +kernel)) (hs (.isRef (.static "java/lang/Throwable" "SUPPRESSED_SENTINEL" "Ljava/util/List;")) (by decide +kernel)) hnA, ?_, ?_, ?_, va_AO.of (hts (.arrayOver (.object "java/lang/Object")) (by decide +kernel)), hMi, ⟨va_Dc.of (hts (.declares ⟨"java/lang/Object", "getClass", "()Ljava/lang/Class;"⟩) (by decide +kernel)), ⟨cell, e3, hia, hun, hsz, hbl, hX⟩⟩, ?_⟩
    · match k, hq with
      | 0, hq => cases hq; exact ⟨fun n z => ⟨fun k h => (by cases h), kI, i2, pI, i3⟩, i1⟩
      | 1, hq => cases hq; exact ⟨fun n z => ⟨fun k h => (by cases h), kJ, j2, pJ, j3⟩, j1⟩
      | 2, hq => cases hq; exact ⟨fun n z => ⟨fun k h => (by cases h), kO, o3, pO, o4⟩, kO, pO, o3, o4, o1, o5⟩
      | k + 3, hq => simp [gT] at hq
    · exact List.forall_mem_cons.mpr ⟨str 247 "no such cell" (hts (.stringRef "Craterclock" 247 "no such cell") (by decide +kernel)) (hs (.exactly (.string "Craterclock" 247) "java/lang/String") (by decide +kernel)), List.forall_mem_cons.mpr ⟨str 256 "out of range" (hts (.stringRef "Craterclock" 256 "out of range") (by decide +kernel)) (hs (.exactly (.string "Craterclock" 256) "java/lang/String") (by decide +kernel)), List.forall_mem_cons.mpr ⟨str 261 "there would be more than 200 craters" (hts (.stringRef "Craterclock" 261 "there would be more than 200 craters") (by decide +kernel)) (hs (.exactly (.string "Craterclock" 261) "java/lang/String") (by decide +kernel)), List.forall_mem_cons.mpr ⟨str 259 "the field goes to less than where it begins" (hts (.stringRef "Craterclock" 259 "the field goes to less than where it begins") (by decide +kernel)) (hs (.exactly (.string "Craterclock" 259) "java/lang/String") (by decide +kernel)), List.forall_mem_cons.mpr ⟨str 263 "100 floods and softenings were told" (hts (.stringRef "Craterclock" 263 "100 floods and softenings were told") (by decide +kernel)) (hs (.exactly (.string "Craterclock" 263) "java/lang/String") (by decide +kernel)), List.forall_mem_cons.mpr ⟨str 123 "there are 6 eyes" (hts (.stringRef "Craterclock" 123 "there are 6 eyes") (by decide +kernel)) (hs (.exactly (.string "Craterclock" 123) "java/lang/String") (by decide +kernel)), List.forall_mem_cons.mpr ⟨str 144 "there are 8 anchors, or it has not more of both than the last" (hts (.stringRef "Craterclock" 144 "there are 8 anchors, or it has not more of both than the last") (by decide +kernel)) (hs (.exactly (.string "Craterclock" 144) "java/lang/String") (by decide +kernel)), List.forall_mem_cons.mpr ⟨str 252 "no such eye" (hts (.stringRef "Craterclock" 252 "no such eye") (by decide +kernel)) (hs (.exactly (.string "Craterclock" 252) "java/lang/String") (by decide +kernel)), List.forall_mem_cons.mpr ⟨str 168 "there is no age" (hts (.stringRef "Craterclock" 168 "there is no age") (by decide +kernel)) (hs (.exactly (.string "Craterclock" 168) "java/lang/String") (by decide +kernel)), List.forall_mem_cons.mpr ⟨str 250 "no such crater" (hts (.stringRef "Craterclock" 250 "no such crater") (by decide +kernel)) (hs (.exactly (.string "Craterclock" 250) "java/lang/String") (by decide +kernel)), (fun _ h => absurd h List.not_mem_nil)⟩⟩⟩⟩⟩⟩⟩⟩⟩⟩
    · exact List.forall_mem_cons.mpr ⟨yc.of (hts (.castable "Craterclock$Anchor" "java/lang/Object") (by decide +kernel)), List.forall_mem_cons.mpr ⟨yc.of (hts (.castable "Craterclock$Crater" "java/lang/Object") (by decide +kernel)), List.forall_mem_cons.mpr ⟨yc.of (hts (.castable "Craterclock$Eye" "java/lang/Object") (by decide +kernel)), List.forall_mem_cons.mpr ⟨yc.of (hts (.castable "Craterclock$Flood" "java/lang/Object") (by decide +kernel)), List.forall_mem_cons.mpr ⟨yc.of (hts (.castable "Craterclock$Softening" "java/lang/Object") (by decide +kernel)), List.forall_mem_cons.mpr ⟨yc.of (hts (.castable "Craterclock$Flood" "Craterclock$Lessening") (by decide +kernel)), List.forall_mem_cons.mpr ⟨yc.of (hts (.castable "Craterclock$Softening" "Craterclock$Lessening") (by decide +kernel)), List.forall_mem_cons.mpr ⟨yc.of (hts (.castable "[I" "java/lang/Cloneable") (by decide +kernel)), List.forall_mem_cons.mpr ⟨yc.of (hts (.castable "java/lang/IndexOutOfBoundsException" "java/lang/IndexOutOfBoundsException") (by decide +kernel)), List.forall_mem_cons.mpr ⟨yc.of (hts (.castable "java/lang/IllegalArgumentException" "java/lang/IllegalArgumentException") (by decide +kernel)), List.forall_mem_cons.mpr ⟨yc.of (hts (.castable "java/lang/IllegalStateException" "java/lang/IllegalStateException") (by decide +kernel)), (fun _ h => absurd h List.not_mem_nil)⟩⟩⟩⟩⟩⟩⟩⟩⟩⟩⟩
    · exact List.forall_mem_cons.mpr ⟨va_Nc.of (hs (.not (.castable "java/lang/IllegalArgumentException" "java/lang/IndexOutOfBoundsException")) (by decide +kernel)), List.forall_mem_cons.mpr ⟨va_Nc.of (hs (.not (.castable "java/lang/IllegalStateException" "java/lang/IndexOutOfBoundsException")) (by decide +kernel)), List.forall_mem_cons.mpr ⟨va_Nc.of (hs (.not (.castable "java/lang/IndexOutOfBoundsException" "java/lang/IllegalArgumentException")) (by decide +kernel)), List.forall_mem_cons.mpr ⟨va_Nc.of (hs (.not (.castable "java/lang/IllegalStateException" "java/lang/IllegalArgumentException")) (by decide +kernel)), List.forall_mem_cons.mpr ⟨va_Nc.of (hs (.not (.castable "java/lang/IndexOutOfBoundsException" "java/lang/IllegalStateException")) (by decide +kernel)), List.forall_mem_cons.mpr ⟨va_Nc.of (hs (.not (.castable "java/lang/IllegalArgumentException" "java/lang/IllegalStateException")) (by decide +kernel)), (fun _ h => absurd h List.not_mem_nil)⟩⟩⟩⟩⟩⟩
    · exact List.forall_mem_cons.mpr ⟨va_any rfl (hts (.declares (Bundle.initS "java/lang/RuntimeException")) (by decide +kernel)), List.forall_mem_cons.mpr ⟨va_any rfl (hts (.declares (Bundle.initS "java/lang/Exception")) (by decide +kernel)), List.forall_mem_cons.mpr ⟨va_any rfl (hts (.declares (Bundle.initS Bundle.tN)) (by decide +kernel)), List.forall_mem_cons.mpr ⟨va_any rfl (hts (.declares ⟨"Craterclock$Lessening", "lossOf", "(LCraterclock$Crater;)I"⟩) (by decide +kernel)), (fun _ h => absurd h List.not_mem_nil)⟩⟩⟩⟩
  have g1 : gH G = s.heap := by rw [hG]; rfl
  have g2 : gd G = d0 := by rw [hG]; rfl
  have hbA : ¬ gA G b := fun z => by
    have : (gH G).size ≤ b := z
    rw [g1] at this
    omega
  have hfw : hp G (fun a => if a = gd G then some (9999, eO G 0 (fun _ => none)) else none) s.heap := by
    refine ⟨fun a t e ha ht => ?_, fun a t e ha => ?_, if_pos rfl, by rw [g1, g2]; exact hd0, by rw [g1]; exact Nat.le_refl _, fun q _ => by rw [g1]⟩
    · dsimp only at ha
      split at ha
      · cases ha; exact absurd rfl ht
      · cases ha
    · dsimp only at ha
      split at ha
      · cases ha; exact Or.inr ⟨rfl, by assumption⟩
      · cases ha
  have hl := lv_entry ([.ref b]) (n := 1) (Nat.le_of_ble_eq_true rfl)
  rw [lg_entry_eq]
  generalize (lg_sl ([.ref b]) ++ List.replicate (1 - (lg_sl ([.ref b])).length) Slot.unset).toArray = ls at hl ⊢
  have g3 : gb G = b := by rw [hG]; rfl
  have g4 : gL G = L := by rw [hG]; rfl
  have hl : lv_has ls 1 [(0, .ref (gb G))] := by rw [g3]; exact hl
  have X : cxC G p l room_1 c cL_law 1 m meth s #[Value.ref b] RL wsL_law := ⟨hx, hb, hml, hown, htw, hgk, hfw.base, hlocks⟩
  obtain ⟨f, ef⟩ : ∃ z9 : Wd, z9 = (fun a => if a = gd G then some (9999, eO G 0 (fun _ => none)) else none) := ⟨_, rfl⟩
  rw [← ef] at hfw
  have hfc : ∀ (b t : Nat) (e : va_E), f b = some (t, e) → t = 9999 := by
    intro b t e hbt
    rw [ef] at hbt
    dsimp only at hbt
    split at hbt
    · cases hbt; rfl
    · cases hbt
  have S : cxS G s f s.heap [] := ⟨hfw, va_S.rf⟩
  have hL2 : gL G < 2 ^ 20 := by rw [g4]; omega
  refine lv_aload_n X.1 X.2.1 dL_law_0 rfl (lv_at hl 0 rfl) ?_
  refine lv_iconst (v := 0) X.1 X.2.1 dL_law_1 (by decide) ?_
  refine r_toi (show (0 : Int32) = nI 0 from rfl) ?_
  refine call_iq (run_S X S (m_plain l hst G f hfc hL2 0 (by omega)) 2 gL_law_L_plain rfl rfl rfl (by decide +kernel) ⟨(by exact Nat.le_of_ble_eq_true rfl), (by exact Nat.le_of_ble_eq_true rfl)⟩ rfl hl.1 rfl (by exact Nat.le_of_ble_eq_true rfl) dL_law_2 ⟨(by exact Nat.le_of_ble_eq_true rfl), (by exact Nat.le_of_ble_eq_true rfl)⟩) S (fun r_2 H locs hr_2 S => ?_)
  subst hr_2
  refine lv_if_eq (x := 1) (tgt := 31) X.1 X.2.1 dL_law_5 (by decide) (fun c_9 => absurd c_9 (by decide)) (fun _ => ?_)
  refine lv_aload_n X.1 X.2.1 dL_law_8 rfl (lv_at hl 0 rfl) ?_
  refine lv_bipush (v := 120) X.1 X.2.1 dL_law_9 (by decide) ?_
  refine r_toi (show (120 : Int32) = nI 120 from rfl) ?_
  refine call_iq (run_S X S (m_plain l hst G f hfc hL2 120 (by omega)) 2 gL_law_L_plain rfl rfl rfl (by decide +kernel) ⟨(by exact Nat.le_of_ble_eq_true rfl), (by exact Nat.le_of_ble_eq_true rfl)⟩ rfl hl.1 rfl (by exact Nat.le_of_ble_eq_true rfl) dL_law_11 ⟨(by exact Nat.le_of_ble_eq_true rfl), (by exact Nat.le_of_ble_eq_true rfl)⟩) S (fun r_11 H locs hr_11 S => ?_)
  subst hr_11
  refine lv_if_eq (x := 1) (tgt := 31) X.1 X.2.1 dL_law_14 (by decide) (fun c_9 => absurd c_9 (by decide)) (fun _ => ?_)
  refine lv_aload_n X.1 X.2.1 dL_law_17 rfl (lv_at hl 0 rfl) ?_
  refine lv_sipush (v := 240) X.1 X.2.1 dL_law_18 (by decide) ?_
  refine r_toi (show (240 : Int32) = nI 240 from rfl) ?_
  refine call_iq (run_S X S (m_plain l hst G f hfc hL2 240 (by omega)) 2 gL_law_L_plain rfl rfl rfl (by decide +kernel) ⟨(by exact Nat.le_of_ble_eq_true rfl), (by exact Nat.le_of_ble_eq_true rfl)⟩ rfl hl.1 rfl (by exact Nat.le_of_ble_eq_true rfl) dL_law_21 ⟨(by exact Nat.le_of_ble_eq_true rfl), (by exact Nat.le_of_ble_eq_true rfl)⟩) S (fun r_21 H locs hr_21 S => ?_)
  subst hr_21
  refine lv_if_eq (x := 1) (tgt := 31) X.1 X.2.1 dL_law_24 (by decide) (fun c_9 => absurd c_9 (by decide)) (fun _ => ?_)
  refine lv_iconst (v := 1) X.1 X.2.1 dL_law_27 (by decide) ?_
  refine lv_goto (tgt := 32) X.1 X.2.1 dL_law_28 (by decide) ?_
  refine va_forget (fun q hq => by have := S.2.2.2 q hq; have : (gH G).size ≤ q.base := this; rw [g1] at this; exact this) ?_
  exact W.widen (by exact Nat.le_of_ble_eq_true rfl) (by exact Nat.le_of_ble_eq_true rfl) (lw_ret hx hb hr hlocks dL_law_32)
-- ===== YOUR PART ENDS =====
set_option maxHeartbeats 4000000 in
theorem lw_walk (l : Launch) (hflags : l.flags = flags0) (b : Addr) (xs : List Int32) : MetFree l x (headSpec (Jvm.Cond.code x code maxLocals ret :: tables_1) room_1) (lw_P b xs) (fun _ _ _ _ _ => True) lw_Q := by
  refine MetFree.of_bodyS (code := code) (maxLocals := maxLocals) (ret := ret) (by decide) ?_ ?_
  · intro args s m h hn
    obtain ⟨meth, c, h1, h2, h3, h4, h5, h6, -, -⟩ := Cond.code_spec hn (atoms_spec (ws := Jvm.Cond.code x code maxLocals ret :: tables_1) h _ List.mem_cons_self)
    exact ⟨meth, c, h1, h2, h3, h4, h5, h6⟩
  · intro p e s m args below meth c s₁ B hml0 hP _
    obtain ⟨rfl, hx, hbd, hgv⟩ := hP
    obtain ⟨scr, harrAt, hlist, hof, hsmall⟩ := hx
    obtain ⟨hcb, hkn, -, -⟩ := State.arrayAt?_spec harrAt
    have hown : s.vm.findClass R_law = some m.cls := findClass_of_methodNamed B.named
    have hts0 : ∀ c ∈ (Jvm.Cond.code x code maxLocals ret :: tables_1), c.before #[Value.ref b] s = true := atoms_spec (ws := Jvm.Cond.code x code maxLocals ret :: tables_1) B.pre
    have hts : ∀ w ∈ lw_tbl, w.before #[Value.ref b] s = true := k2_hts_sels lw_privs (fun w hw => hts0 w (List.mem_cons_of_mem _ hw)) lw_privs_ok
    have hml : c.maxLocals = 1 := B.maxLocals_eq (hts0 _ List.mem_cons_self)
    have X₀ : Stand p l e room_1 s m #[Value.ref b] below meth c s₁ [] 0 0 := Stand.of_body B
    have hh0 : s₁.heap = s.heap := by rw [B.state]; rfl
    have hsz : scr.slots.size = xs.length := by rw [← Array.length_toList, hlist, List.length_map]
    have hval : ∀ j : Nat, j < xs.length → scr.slots[j]? = some (.int (xs.getD j 0)) := fun j hj => by
      rw [← Array.getElem?_toList, hlist]
      simp [hj]
    have hbl : b < s.heap.size := (Array.getElem?_eq_some_iff.mp hcb).1
    have hX : va_X b xs.length (fun j => xs.getD j 0) s s.heap := ⟨scr, hcb, hof, hkn, hsz, hval⟩
    have K : W p l e room_1 s m #[Value.ref b] below meth c s₁.heap [] 0 0 (lw_Z below #[Value.ref b] s) (entryFrame m ([Value.ref b] : List Value).toArray 1) := by
      rw [hh0]
      exact whole_start l hflags hbd ⟨B.exec, B.bytes, B.returns, hml, hown, hts, hX, hbl, B.notSynchronized, hgv⟩
    obtain ⟨t, a1, o, b1, b2, b3⟩ := K s₁ rfl X₀
    exact ⟨t, o, a1, b1, b2, b3⟩
theorem lw_pre_spec {args : Array Value} {s : State} (h : (Jvm.Cond.and given_1 narrow_1).before args s = true) (hr : rest_1_c.before args s = true) : ∃ (b : Addr) (xs : List Int32), lw_P b xs args s := by
  have hs := flat_of_before _ h
  have hq := flat_of_before _ hr
  have hc : (Cond.count 1).before args s = true := hs _ (by decide +kernel)
  have harr : (Cond.arrayOf (.arg 0) .int).before args s = true := hs _ (by decide +kernel)
  have hle : (Cond.le (.length (.arg 0)) (.int 260)).before args s = true := hs _ (by decide +kernel)
  have hlen : (Cond.isInt (.length (.arg 0))).before args s = true := hq _ (by decide +kernel)
  have hall : (Cond.all (.arg 0) (.isInt (.elem (.arg 0) (.index 0)))).before args s = true := hq _ (by decide +kernel)
  obtain ⟨b, xs, hb, hx⟩ := State.ints_of_pre rfl harr hlen hall
  have hsm : xs.length < 2 ^ 31 := hx.choose_spec.2.2.2
  have hev : (Term.length (.arg 0)).eval args s none [] s = some (.int xs.length.toInt32) := hx.length_eval hb
  have hv := Cond.le_ints hev (show (Term.int 260).eval args s none [] s = some (.int 260) from rfl)
  have hd : xs.length.toInt32 ≤ 260 := by
    simpa [Cond.before, Cond.holds, hv] using hle
  have hN : xs.length ≤ 260 := (Int32.ofNat_le_ofNat hsm (by decide)).mp (show Int32.ofNat xs.length ≤ Int32.ofNat 260 from hd)
  exact ⟨b, xs, Cond.one_arg hc (show args[0]? = some (.ref b) from hb), hx, hN, h⟩
theorem lw_comes (l : Launch) (hflags : l.flags = flags0) : Comes l x (Jvm.Cond.code x code maxLocals ret :: tables_1) room_1 (fun tb e args s => Calls_1 tb e args s ∧ rest_1 tb e args s ∧ Pre_1 tb e args s)
    (fun _ _ args s o t => lw_Q args s o t) := by
  intro p e ha hc hk s m args below hf hfit hheap happ hpre
  obtain ⟨b, xs, hP⟩ := lw_pre_spec hpre.2.2 hpre.2.1
  obtain ⟨k, o, h1, h2, h3, hQ⟩ := lw_walk l hflags b xs p e ha hc hk s m args below hf ((Spec.applies_iff_loose hf).mp happ).1 hP trivial
  exact ⟨k, o, h1, h2, h3, hQ⟩
theorem lw_frame {s t : State} {o : Outcome} {args : Array Value} (h : Framed s o t [] 668555 7096105) :
    Framed s o t (fieldLocs frame_1_writes args s ++ arrayLocs frame_1_arrays args s ++ staticLocs frame_1_statics s) 668555 7096105 := h
theorem lw_limb (L : Cond) (hL : ∀ (args : Array Value) (s t : State), L.after args s (.returned (some (.int 1))) t = true) :
    ArmFor flags0 classFile x code maxLocals ret World_1 tables_1 room_1 Calls_1 rest_1 Pre_1
      (fun tb e a s o t => postC L tb e a s o t ∧ Framed s o t (fieldLocs frame_1_writes a s ++ arrayLocs frame_1_arrays a s ++ staticLocs frame_1_statics s) 668555 7096105) := by
  intro l hflags _ _ p e ha hc hk s m args below hf hfit hheap happ hpre
  obtain ⟨k, o, h1, h2, h3, rfl, hF⟩ := lw_comes l hflags p e ha hc hk s m args below hf hfit hheap happ hpre
  exact ⟨k, _, h1, h2, h3, hL args s _, lw_frame hF⟩
theorem i_vc : Claimed_1_1 ∧ Claimed_1_2 := ⟨lw_limb limb_1_1 (fun args s t => by simp [limb_1_1, Cond.after, Cond.holds, Cond.value]), lw_limb limb_1_2 (fun args s t => Cond.after_iff.mpr (by
  first | (rw [show limb_1_2 = Cond.eq .result (.int 1) from rfl, Cond.eq_ints (x := 1) (y := 1) rfl rfl]; simp; done) | (simp [limb_1_2, Cond.value, Term.eval]; done)))⟩
