section
-- ===== PART A: goes FIRST, ahead of the names: the tables' words, and 'selects' of the private methods out of them =====
/-- a private method of a class that the tables say can be made, by its rows of tables_1 -/
def lw_okq (q : MethodName × Nat) : Prop := (q.1.cls ≠ "java/lang/invoke/MethodHandle" ∧ q.1.cls ≠ "java/lang/invoke/VarHandle") ∧ Cond.instantiable q.1.cls q.2 ∈ tables_1 ∧ Cond.privateMethod q.1 ∈ tables_1 ∧ Cond.instanceMethod q.1 ∈ tables_1
theorem lw_p0 : lw_okq (⟨"java/lang/Throwable", "fillInStackTrace", "(I)Ljava/lang/Throwable;"⟩, 6) := ⟨⟨by decide +kernel, by decide +kernel⟩, List.mem_of_getElem? (i := 162) (by decide +kernel), List.mem_of_getElem? (i := 160) (by decide +kernel), List.mem_of_getElem? (i := 161) (by decide +kernel)⟩
theorem lw_p1 : lw_okq (⟨"Craterclock", "requireRoomForCraters", "(I)V"⟩, 6) := ⟨⟨by decide +kernel, by decide +kernel⟩, List.mem_of_getElem? (i := 28) (by decide +kernel), List.mem_of_getElem? (i := 229) (by decide +kernel), List.mem_of_getElem? (i := 230) (by decide +kernel)⟩
theorem lw_p2 : lw_okq (⟨"Craterclock", "dropStone", "(III)I"⟩, 6) := ⟨⟨by decide +kernel, by decide +kernel⟩, List.mem_of_getElem? (i := 28) (by decide +kernel), List.mem_of_getElem? (i := 249) (by decide +kernel), List.mem_of_getElem? (i := 250) (by decide +kernel)⟩
theorem lw_p3 : lw_okq (⟨"Craterclock$Crater", "isWithin", "(III)Z"⟩, 6) := ⟨⟨by decide +kernel, by decide +kernel⟩, List.mem_of_getElem? (i := 253) (by decide +kernel), List.mem_of_getElem? (i := 315) (by decide +kernel), List.mem_of_getElem? (i := 316) (by decide +kernel)⟩
theorem lw_p4 : lw_okq (⟨"java/util/ArrayList", "add", "(Ljava/lang/Object;[Ljava/lang/Object;I)V"⟩, 3) := ⟨⟨by decide +kernel, by decide +kernel⟩, List.mem_of_getElem? (i := 47) (by decide +kernel), List.mem_of_getElem? (i := 327) (by decide +kernel), List.mem_of_getElem? (i := 328) (by decide +kernel)⟩
theorem lw_p5 : lw_okq (⟨"java/util/ArrayList", "grow", "()[Ljava/lang/Object;"⟩, 3) := ⟨⟨by decide +kernel, by decide +kernel⟩, List.mem_of_getElem? (i := 47) (by decide +kernel), List.mem_of_getElem? (i := 331) (by decide +kernel), List.mem_of_getElem? (i := 332) (by decide +kernel)⟩
theorem lw_p6 : lw_okq (⟨"java/util/ArrayList", "grow", "(I)[Ljava/lang/Object;"⟩, 3) := ⟨⟨by decide +kernel, by decide +kernel⟩, List.mem_of_getElem? (i := 47) (by decide +kernel), List.mem_of_getElem? (i := 335) (by decide +kernel), List.mem_of_getElem? (i := 336) (by decide +kernel)⟩
theorem lw_p7 : lw_okq (⟨"Craterclock", "drawNext", "()I"⟩, 6) := ⟨⟨by decide +kernel, by decide +kernel⟩, List.mem_of_getElem? (i := 28) (by decide +kernel), List.mem_of_getElem? (i := 398) (by decide +kernel), List.mem_of_getElem? (i := 399) (by decide +kernel)⟩
theorem lw_p8 : lw_okq (⟨"Craterclock", "countLeft", "()I"⟩, 6) := ⟨⟨by decide +kernel, by decide +kernel⟩, List.mem_of_getElem? (i := 28) (by decide +kernel), List.mem_of_getElem? (i := 406) (by decide +kernel), List.mem_of_getElem? (i := 407) (by decide +kernel)⟩
theorem lw_p9 : lw_okq (⟨"Craterclock", "requireRoomForLessening", "()V"⟩, 6) := ⟨⟨by decide +kernel, by decide +kernel⟩, List.mem_of_getElem? (i := 28) (by decide +kernel), List.mem_of_getElem? (i := 422) (by decide +kernel), List.mem_of_getElem? (i := 423) (by decide +kernel)⟩
theorem lw_p10 : lw_okq (⟨"Craterclock", "lessenAll", "(LCraterclock$Lessening;)I"⟩, 6) := ⟨⟨by decide +kernel, by decide +kernel⟩, List.mem_of_getElem? (i := 28) (by decide +kernel), List.mem_of_getElem? (i := 466) (by decide +kernel), List.mem_of_getElem? (i := 467) (by decide +kernel)⟩
theorem lw_p11 : lw_okq (⟨"Craterclock", "requireEyeAndCells", "(IIIII)V"⟩, 6) := ⟨⟨by decide +kernel, by decide +kernel⟩, List.mem_of_getElem? (i := 28) (by decide +kernel), List.mem_of_getElem? (i := 580) (by decide +kernel), List.mem_of_getElem? (i := 581) (by decide +kernel)⟩
theorem lw_p12 : lw_okq (⟨"Craterclock", "countSeen", "(ILCraterclock$Field;I)I"⟩, 6) := ⟨⟨by decide +kernel, by decide +kernel⟩, List.mem_of_getElem? (i := 28) (by decide +kernel), List.mem_of_getElem? (i := 586) (by decide +kernel), List.mem_of_getElem? (i := 587) (by decide +kernel)⟩
theorem lw_p13 : lw_okq (⟨"Craterclock", "densitySeen", "(ILCraterclock$Field;)J"⟩, 6) := ⟨⟨by decide +kernel, by decide +kernel⟩, List.mem_of_getElem? (i := 28) (by decide +kernel), List.mem_of_getElem? (i := 602) (by decide +kernel), List.mem_of_getElem? (i := 603) (by decide +kernel)⟩
theorem lw_p14 : lw_okq (⟨"Craterclock", "requireCrater", "(I)V"⟩, 6) := ⟨⟨by decide +kernel, by decide +kernel⟩, List.mem_of_getElem? (i := 28) (by decide +kernel), List.mem_of_getElem? (i := 638) (by decide +kernel), List.mem_of_getElem? (i := 639) (by decide +kernel)⟩
theorem lw_p15 : lw_okq (⟨"Craterclock", "depthOnceMore", "(I)I"⟩, 6) := ⟨⟨by decide +kernel, by decide +kernel⟩, List.mem_of_getElem? (i := 28) (by decide +kernel), List.mem_of_getElem? (i := 651) (by decide +kernel), List.mem_of_getElem? (i := 652) (by decide +kernel)⟩
def lw_privs_1 : List (MethodName × Nat) := [(⟨"java/lang/Throwable", "fillInStackTrace", "(I)Ljava/lang/Throwable;"⟩, 6), (⟨"Craterclock", "requireRoomForCraters", "(I)V"⟩, 6), (⟨"Craterclock", "dropStone", "(III)I"⟩, 6), (⟨"Craterclock$Crater", "isWithin", "(III)Z"⟩, 6), (⟨"java/util/ArrayList", "add", "(Ljava/lang/Object;[Ljava/lang/Object;I)V"⟩, 3), (⟨"java/util/ArrayList", "grow", "()[Ljava/lang/Object;"⟩, 3), (⟨"java/util/ArrayList", "grow", "(I)[Ljava/lang/Object;"⟩, 3), (⟨"Craterclock", "drawNext", "()I"⟩, 6), (⟨"Craterclock", "countLeft", "()I"⟩, 6), (⟨"Craterclock", "requireRoomForLessening", "()V"⟩, 6), (⟨"Craterclock", "lessenAll", "(LCraterclock$Lessening;)I"⟩, 6), (⟨"Craterclock", "requireEyeAndCells", "(IIIII)V"⟩, 6), (⟨"Craterclock", "countSeen", "(ILCraterclock$Field;I)I"⟩, 6), (⟨"Craterclock", "densitySeen", "(ILCraterclock$Field;)J"⟩, 6), (⟨"Craterclock", "requireCrater", "(I)V"⟩, 6), (⟨"Craterclock", "depthOnceMore", "(I)I"⟩, 6)]
theorem lw_r1 : ∀ q ∈ lw_privs_1, lw_okq q := List.forall_mem_cons.mpr ⟨lw_p0, List.forall_mem_cons.mpr ⟨lw_p1, List.forall_mem_cons.mpr ⟨lw_p2, List.forall_mem_cons.mpr ⟨lw_p3, List.forall_mem_cons.mpr ⟨lw_p4, List.forall_mem_cons.mpr ⟨lw_p5, List.forall_mem_cons.mpr ⟨lw_p6, List.forall_mem_cons.mpr ⟨lw_p7, List.forall_mem_cons.mpr ⟨lw_p8, List.forall_mem_cons.mpr ⟨lw_p9, List.forall_mem_cons.mpr ⟨lw_p10, List.forall_mem_cons.mpr ⟨lw_p11, List.forall_mem_cons.mpr ⟨lw_p12, List.forall_mem_cons.mpr ⟨lw_p13, List.forall_mem_cons.mpr ⟨lw_p14, List.forall_mem_cons.mpr ⟨lw_p15, fun _ h => absurd h List.not_mem_nil⟩⟩⟩⟩⟩⟩⟩⟩⟩⟩⟩⟩⟩⟩⟩⟩
theorem lw_p16 : lw_okq (⟨"CraterclockModel", "can", "(I)Z"⟩, 14) := ⟨⟨by decide +kernel, by decide +kernel⟩, List.mem_of_getElem? (i := 675) (by decide +kernel), List.mem_of_getElem? (i := 739) (by decide +kernel), List.mem_of_getElem? (i := 740) (by decide +kernel)⟩
theorem lw_p17 : lw_okq (⟨"CraterclockModel", "falls", "(III)I"⟩, 14) := ⟨⟨by decide +kernel, by decide +kernel⟩, List.mem_of_getElem? (i := 675) (by decide +kernel), List.mem_of_getElem? (i := 747) (by decide +kernel), List.mem_of_getElem? (i := 748) (by decide +kernel)⟩
theorem lw_p18 : lw_okq (⟨"CraterclockModel", "square", "(III)I"⟩, 14) := ⟨⟨by decide +kernel, by decide +kernel⟩, List.mem_of_getElem? (i := 675) (by decide +kernel), List.mem_of_getElem? (i := 751) (by decide +kernel), List.mem_of_getElem? (i := 752) (by decide +kernel)⟩
theorem lw_p19 : lw_okq (⟨"CraterclockModel", "lessens", "(II)Z"⟩, 14) := ⟨⟨by decide +kernel, by decide +kernel⟩, List.mem_of_getElem? (i := 675) (by decide +kernel), List.mem_of_getElem? (i := 755) (by decide +kernel), List.mem_of_getElem? (i := 756) (by decide +kernel)⟩
theorem lw_p20 : lw_okq (⟨"CraterclockModel", "draws", "(I)I"⟩, 14) := ⟨⟨by decide +kernel, by decide +kernel⟩, List.mem_of_getElem? (i := 675) (by decide +kernel), List.mem_of_getElem? (i := 768) (by decide +kernel), List.mem_of_getElem? (i := 769) (by decide +kernel)⟩
theorem lw_p21 : lw_okq (⟨"CraterclockModel", "left", "()I"⟩, 14) := ⟨⟨by decide +kernel, by decide +kernel⟩, List.mem_of_getElem? (i := 675) (by decide +kernel), List.mem_of_getElem? (i := 776) (by decide +kernel), List.mem_of_getElem? (i := 777) (by decide +kernel)⟩
theorem lw_p22 : lw_okq (⟨"CraterclockModel", "isWithin", "(IIIII)Z"⟩, 14) := ⟨⟨by decide +kernel, by decide +kernel⟩, List.mem_of_getElem? (i := 675) (by decide +kernel), List.mem_of_getElem? (i := 787) (by decide +kernel), List.mem_of_getElem? (i := 788) (by decide +kernel)⟩
theorem lw_p23 : lw_okq (⟨"CraterclockModel", "groundOf", "(I)I"⟩, 14) := ⟨⟨by decide +kernel, by decide +kernel⟩, List.mem_of_getElem? (i := 675) (by decide +kernel), List.mem_of_getElem? (i := 795) (by decide +kernel), List.mem_of_getElem? (i := 796) (by decide +kernel)⟩
theorem lw_p24 : lw_okq (⟨"CraterclockModel", "isEye", "(I)Z"⟩, 14) := ⟨⟨by decide +kernel, by decide +kernel⟩, List.mem_of_getElem? (i := 675) (by decide +kernel), List.mem_of_getElem? (i := 813) (by decide +kernel), List.mem_of_getElem? (i := 814) (by decide +kernel)⟩
theorem lw_p25 : lw_okq (⟨"CraterclockModel", "counts", "(IIIIII)I"⟩, 14) := ⟨⟨by decide +kernel, by decide +kernel⟩, List.mem_of_getElem? (i := 675) (by decide +kernel), List.mem_of_getElem? (i := 817) (by decide +kernel), List.mem_of_getElem? (i := 818) (by decide +kernel)⟩
theorem lw_p26 : lw_okq (⟨"CraterclockModel", "reason", "(IIIII)I"⟩, 14) := ⟨⟨by decide +kernel, by decide +kernel⟩, List.mem_of_getElem? (i := 675) (by decide +kernel), List.mem_of_getElem? (i := 825) (by decide +kernel), List.mem_of_getElem? (i := 826) (by decide +kernel)⟩
theorem lw_p27 : lw_okq (⟨"CraterclockModel", "densityOf", "(IIIII)J"⟩, 14) := ⟨⟨by decide +kernel, by decide +kernel⟩, List.mem_of_getElem? (i := 675) (by decide +kernel), List.mem_of_getElem? (i := 829) (by decide +kernel), List.mem_of_getElem? (i := 830) (by decide +kernel)⟩
theorem lw_p28 : lw_okq (⟨"CraterclockModel", "ageBy", "(J)J"⟩, 14) := ⟨⟨by decide +kernel, by decide +kernel⟩, List.mem_of_getElem? (i := 675) (by decide +kernel), List.mem_of_getElem? (i := 834) (by decide +kernel), List.mem_of_getElem? (i := 835) (by decide +kernel)⟩
theorem lw_p29 : lw_okq (⟨"CraterclockModel", "isCrater", "(I)Z"⟩, 14) := ⟨⟨by decide +kernel, by decide +kernel⟩, List.mem_of_getElem? (i := 675) (by decide +kernel), List.mem_of_getElem? (i := 850) (by decide +kernel), List.mem_of_getElem? (i := 851) (by decide +kernel)⟩
theorem lw_p30 : lw_okq (⟨"CraterclockModel", "topOf", "(II)I"⟩, 14) := ⟨⟨by decide +kernel, by decide +kernel⟩, List.mem_of_getElem? (i := 675) (by decide +kernel), List.mem_of_getElem? (i := 862) (by decide +kernel), List.mem_of_getElem? (i := 863) (by decide +kernel)⟩
def lw_privs_2 : List (MethodName × Nat) := [(⟨"CraterclockModel", "can", "(I)Z"⟩, 14), (⟨"CraterclockModel", "falls", "(III)I"⟩, 14), (⟨"CraterclockModel", "square", "(III)I"⟩, 14), (⟨"CraterclockModel", "lessens", "(II)Z"⟩, 14), (⟨"CraterclockModel", "draws", "(I)I"⟩, 14), (⟨"CraterclockModel", "left", "()I"⟩, 14), (⟨"CraterclockModel", "isWithin", "(IIIII)Z"⟩, 14), (⟨"CraterclockModel", "groundOf", "(I)I"⟩, 14), (⟨"CraterclockModel", "isEye", "(I)Z"⟩, 14), (⟨"CraterclockModel", "counts", "(IIIIII)I"⟩, 14), (⟨"CraterclockModel", "reason", "(IIIII)I"⟩, 14), (⟨"CraterclockModel", "densityOf", "(IIIII)J"⟩, 14), (⟨"CraterclockModel", "ageBy", "(J)J"⟩, 14), (⟨"CraterclockModel", "isCrater", "(I)Z"⟩, 14), (⟨"CraterclockModel", "topOf", "(II)I"⟩, 14)]
theorem lw_r2 : ∀ q ∈ lw_privs_2, lw_okq q := List.forall_mem_cons.mpr ⟨lw_p16, List.forall_mem_cons.mpr ⟨lw_p17, List.forall_mem_cons.mpr ⟨lw_p18, List.forall_mem_cons.mpr ⟨lw_p19, List.forall_mem_cons.mpr ⟨lw_p20, List.forall_mem_cons.mpr ⟨lw_p21, List.forall_mem_cons.mpr ⟨lw_p22, List.forall_mem_cons.mpr ⟨lw_p23, List.forall_mem_cons.mpr ⟨lw_p24, List.forall_mem_cons.mpr ⟨lw_p25, List.forall_mem_cons.mpr ⟨lw_p26, List.forall_mem_cons.mpr ⟨lw_p27, List.forall_mem_cons.mpr ⟨lw_p28, List.forall_mem_cons.mpr ⟨lw_p29, List.forall_mem_cons.mpr ⟨lw_p30, fun _ h => absurd h List.not_mem_nil⟩⟩⟩⟩⟩⟩⟩⟩⟩⟩⟩⟩⟩⟩⟩
def lw_privs : List (MethodName × Nat) := lw_privs_1 ++ (lw_privs_2)
def lw_tbl : List Cond := k2_sels lw_privs ++ tables_1
theorem lw_privs_ok : ∀ q ∈ lw_privs, lw_okq q := by
  show ∀ q ∈ lw_privs_1 ++ (lw_privs_2), lw_okq q
  exact List.forall_mem_append.mpr ⟨lw_r1, lw_r2⟩
end
section
/-! ===== BEGIN words of one list among another's, by their places ===== -/
theorem goodIn_r {big : List Cond} (ws : List Cond) (ps : List Nat) (hp : ws = ps.filterMap (fun i => big[i]?)) (h : ws.all goodWord = true) : GoodIn big ws := by
  intro w hw
  have h1 := List.all_eq_true.mp h w hw
  rw [hp] at hw
  obtain ⟨i, -, hi⟩ := List.mem_filterMap.mp hw
  have hm : w ∈ big := by first | exact List.mem_of_getElem? hi | exact List.getElem?_mem hi
  exact ⟨hm, good_of_word h1⟩
theorem goodIn_app {big a b : List Cond} (ha : GoodIn big a) (hb : GoodIn big b) : GoodIn big (a ++ b) := fun w h => (List.mem_append.mp h).elim (ha w) (hb w)
theorem goodIn_ca {big a b : List Cond} {c : Cond} (ha : GoodIn big (c :: a)) (hb : GoodIn big b) : GoodIn big (c :: (a ++ b)) := fun w h => (List.mem_cons.mp h).elim (fun e => ha w (List.mem_cons.mpr (Or.inl e))) (fun h => (List.mem_append.mp h).elim (fun h => ha w (List.mem_cons.mpr (Or.inr h))) (hb w))
theorem goodIn_sub {big ws : List Cond} (hm : ∀ w ∈ ws, w ∈ big) (h : ws.all goodWord = true) : GoodIn big ws := fun w hw => ⟨hm w hw, good_of_word (List.all_eq_true.mp h w hw)⟩
/-! ===== END ===== -/

/-! ===== BEGIN exceptions that leave a method, and their catching by the caller (launches without stack traces) ===== -/
section VXA
/-! The laws vx_back, vx_callV, vx_callS, vx_callSW, vx_throw0, vx_throwS follow proofs of the library, with one case more: JvmDerived/Free/Laws.lean (Back.of_free), Shelf42/LK1.lean (callV, callS), Shelf/KitTraced.lean (throwNew0V, throwNewS). -/
/-- where a method has thrown q: the class by its name, the cell, what was written, the world -/
def vx_T (XC : String → State → State → Prop) (st : State) (q : Addr) (t : State) (mc ms : Nat) (free : Addr → Prop) : Prop :=
  ∃ (E : String) (ce : Cell) (L : List Loc), XC E st t ∧ t.heap[q]? = some ce ∧ ce.vm = .none ∧ st.vm.findClass E = some ce.cls ∧ st.WarmedH t.vm ∧ st.sameButNew ({ t with vm := st.vm } : State) L mc ms ∧ ∀ z ∈ L, free z.base
def vx_Q (Qc : Array Value → State → Outcome → State → Prop) (XC : String → State → State → Prop) (mc ms : Nat) (free : Addr → Prop) : Array Value → State → Outcome → State → Prop := fun a st o t =>
  (Qc a st o t ∧ ∃ L, FrameEnd st o t L mc ms ∧ ∀ q ∈ L, free q.base) ∨ ∃ q, o = .threw q ∧ vx_T XC st q t mc ms free
/-- a callee that returns or throws -/
def vx_Met (l : Launch) (y : MethodName) (ws : List Cond) (rm : Room) (Pc : Array Value → State → Prop) (Qc : Array Value → State → Outcome → State → Prop) (XC : String → State → State → Prop) (mc ms : Nat) (free : Addr → Prop) : Prop :=
  MetFree l y (headSpec ws rm) Pc (fun _ _ _ _ _ => True) (vx_Q Qc XC mc ms free)
def vx_Post (XC : String → State → State → Prop) (mc ms : Nat) (free : Addr → Prop) : Pt → Array Value → Addr → Pt → Prop := fun A a q B =>
  ∃ (g : JFrame) (mk : MethodId) (t : State) (L : List Loc) (E : String) (ce : Cell), B.U.heap = t.heap ∧ B.U.vm = t.vm ∧ XC E (A.U.calling g mk a) t ∧ t.heap[q]? = some ce ∧ ce.vm = .none ∧ A.U.vm.findClass E = some ce.cls ∧ B.locs = A.locs ++ L ∧ (∀ z ∈ L, free z.base) ∧ B.cells = A.cells + mc ∧ B.slots = A.slots + ms
def vx_Back (l : Launch) (R : Room) (p : Program) (e : Env) (below : List Frame) (s : State) (sargs : Array Value) (y : MethodName) (len W9 : Nat)
    (Pre : Pt → Array Value → Prop) (Post : Pt → Array Value → Option Value → Pt → Prop) (PostX : Pt → Array Value → Addr → Pt → Prop) : Prop :=
  ∀ (m : MethodId) (meth : Method) (c : Code) (A : Pt) (g : JFrame) (ig : Instr) (mk : MethodId) (a : Array Value),
    Stand p l e R s m sargs below meth c A.U A.locs A.cells A.slots → g.method = m → g.locals.size = c.maxLocals → decode c.code g.pc = .ok (ig, len) →
    2 * g.monitorRoom + (g.stack.map fun v => v.category).sum ≤ W9 → A.U.methodNamed? y = some mk → Pre A a →
    (∃ (v : Option Value) (B : Pt), Stand p l e R s m sargs below meth c B.U B.locs B.cells B.slots ∧ Post A a v B ∧
      Steps p.tables e below (doInvoke e (A.U.setTop g) [] mk a).1 (B.U.setTop { g with pc := g.pc + len, stack := v.toList ++ g.stack })) ∨
    (∃ (q : Addr) (B : Pt), Stand p l e R s m sargs below meth c B.U B.locs B.cells B.slots ∧ PostX A a q B ∧
      Steps p.tables e below (doInvoke e (A.U.setTop g) [] mk a).1 ((B.U.setTop g).pushFrame (.throwing q)))
section Payer
variable {l : Launch} {R : Room} {p : Program} {e : Env} {below : List Frame} {s : State} {sargs : Array Value} {y : MethodName} {len W9 : Nat}
theorem vx_back {ws : List Cond} {rm : Room} {Pc : Array Value → State → Prop} {Qc : Array Value → State → Outcome → State → Prop} {XC : String → State → State → Prop} {mc ms : Nat} {free : Addr → Prop} {bytes : ByteArray} {maxL : Nat} {ret : Option FieldType}
    (hM : vx_Met l y ws rm Pc Qc XC mc ms free) (hblind : FrameBlind Pc) (hrc : rm.cells = mc) (hrs : rm.slots = ms)
    (hframes : rm.frames + 1 ≤ R.frames) (hlocals : W9 + (maxL + 11) + rm.locals ≤ R.locals)
    (hws : ∀ w ∈ ws, ∀ a' U, s.WarmedH U.vm → w.before a' U = true) (hcode : Cond.code y bytes maxL ret ∈ ws) (hinit : ∀ a' U, s.WarmedH U.vm → (Cond.initialized y.cls).before a' U = true) :
    vx_Back l R p e below s sargs y len W9 (PreOf R mc ms Pc) (PostOf Qc mc ms free) (vx_Post XC mc ms free) := by
  intro m meth c A g ig mk a X hg hsize hdg hW hn hp
  have h1 : (headSpec ws rm).pre.before a A.U = true := atoms_intro fun w hw => hws w hw _ _ X.warmed
  have h2 : (Cond.code y bytes maxL ret).before a A.U = true := hws _ hcode _ _ X.warmed
  have h3 : (Cond.initialized y.cls).before a A.U = true := hinit _ _ X.warmed
  have h4 : A.cells + (headSpec ws rm).room.cells ≤ R.cells := by rw [show (headSpec ws rm).room.cells = mc from hrc]; exact hp.1
  have h5 : A.slots + (headSpec ws rm).room.slots ≤ R.slots := by rw [show (headSpec ws rm).room.slots = ms from hrs]; exact hp.2.1
  have hPc : Pc a (A.U.calling g mk a) := hblind _ _ _ _ hp.2.2
  obtain ⟨U, Ls, c0, s0⟩ := A
  dsimp only [Pt.U, Pt.locs, Pt.cells, Pt.slots] at h1 h2 h3 h4 h5 X hn hPc ⊢
  obtain ⟨methY, cY, hmY, hcY, -, hlY, -, -, -, -⟩ := Cond.code_spec hn h2
  obtain ⟨kY, hkY, -⟩ := className_of_methodNamed hn
  have hinitY : kY.init = .initialized := Cond.initialized_spec (findClass_of_methodNamed hn) hkY h3
  have h : At U g.method c below := by rw [hg]; exact X.here
  have hlocals9 : W9 + (maxL + 11) + (headSpec ws rm).room.locals ≤ R.locals := hlocals
  have happ : (headSpec ws rm).appliesLoose y e.platform (U.calling g mk a) = true :=
    Spec.appliesLoose_calling (g := g) h hdg hn hkY hinitY
      (X.room_calling (g := g) (R' := (headSpec ws rm).room) hsize hmY hcY hframes (by rw [hlY]; omega) h4 h5) h1
  obtain ⟨mid, hmid⟩ := h.above
  have hfr : (U.setTop g).frames = (.java g :: mid) ++ below := by rw [State.frames_setTop' g h.top, hmid]; rfl
  obtain ⟨o, s₂, hsteps, -, hend, hq⟩ := Steps.callFree hM p X.admits X.cas X.clock (acts := []) hfr happ hPc trivial
  have hq' : vx_Q Qc XC mc ms free a (U.calling g mk a) o s₂ := hq
  rw [State.frames_setTop' g h.top] at hend
  obtain ⟨g₀, hg0⟩ := Option.isSome_iff_exists.mp h.top
  obtain ⟨r, hr⟩ := State.topJava?_eq_some.mp hg0
  have hr' : (({ U with heap := s₂.heap, slotsUsed := s₂.slotsUsed } : State).setVm s₂.vm).frames = .java g₀ :: r := hr
  rcases hq' with ⟨hqc, L, hfe, hL⟩ | ⟨q, rfl, E, ce, L, hx, hce, hcv, hcl, hW₂, hsm, hL⟩
  · obtain ⟨⟨v, rfl⟩, hW₂, e2, q2, q3, q4, q5, q6⟩ := id hfe
    have e3 : s₂ = ({ (U.calling g mk a).setFrames s₂.frames with heap := s₂.heap, slotsUsed := s₂.slotsUsed } : State).setVm s₂.vm := by
      have : s₂ = ({ s₂ with vm := (U.calling g mk a).vm } : State).setVm s₂.vm := rfl
      rw [e2] at this
      exact this
    obtain ⟨c₂, i₂, len₂, hc₂, hd₂, hf₂⟩ := hend
    have hW' : U.WarmedH s₂.vm := hW₂
    have hcc : c₂ = c := by
      have h1 : s₂.code? g.method = U.code? g.method := by
        rw [State.code?_eq, State.code?_eq, hW'.alike.method?]
      exact Option.some.inj (hc₂.symm.trans (h1.trans h.code))
    subst hcc
    have hlen : len₂ = len := by rw [hdg] at hd₂; cases hd₂; rfl
    subst hlen
    have hs₂ : s₂ = (({ U with heap := s₂.heap, slotsUsed := s₂.slotsUsed } : State).setVm s₂.vm).setTop { g with pc := g.pc + len₂, stack := v.toList ++ g.stack } := by
      refine e3.trans ?_
      rw [hf₂, State.calling_eq h.top, State.setFrames_setFrames, State.setTop_of_frames _ hr', hr]
      rfl
    have hsame : U.sameButNew ({ U with heap := s₂.heap, slotsUsed := s₂.slotsUsed } : State) L mc ms := by
      refine ⟨?_, q2, q3, q4, q5, q6⟩
      obtain ⟨t, ht, -⟩ := State.frames_cons hr
      show ({ U with heap := s₂.heap, slotsUsed := s₂.slotsUsed } : State) = { U.setFrames U.frames with heap := s₂.heap, slotsUsed := s₂.slotsUsed }
      rw [State.setFrames_self ht]
    subst hg
    refine Or.inl ⟨v, ⟨(({ U with heap := s₂.heap, slotsUsed := s₂.slotsUsed } : State).setVm s₂.vm), Ls ++ L, c0 + mc, s0 + ms⟩,
      ⟨X.admits, X.cas, X.clock, X.frames, X.room, X.hears, X.method, X.code, (X.here.setHeapUsed s₂.heap s₂.slotsUsed).setVm hW'.alike, X.tail, State.WarmedH.trans X.warmed hW', X.limits, X.bytes, X.same.trans (hsame.setVm s.vm)⟩,
      ⟨g, mk, s₂, L, rfl, rfl, hqc, rfl, hL, rfl, rfl⟩, ?_⟩
    show Steps p.tables e below _ ((({ U with heap := s₂.heap, slotsUsed := s₂.slotsUsed } : State).setVm s₂.vm).setTop { g with pc := g.pc + len₂, stack := v.toList ++ g.stack })
    rw [← hs₂]
    exact hsteps
  · obtain ⟨e2, q2, q3, q4, q5, q6⟩ := id hsm
    have e3 : s₂ = ({ (U.calling g mk a).setFrames s₂.frames with heap := s₂.heap, slotsUsed := s₂.slotsUsed } : State).setVm s₂.vm := by
      have : s₂ = ({ s₂ with vm := (U.calling g mk a).vm } : State).setVm s₂.vm := rfl
      rw [e2] at this
      exact this
    have hf₂ : s₂.frames = .throwing q :: .java g :: U.frames.tail := hend
    have hW' : U.WarmedH s₂.vm := hW₂
    have hs₂ : s₂ = ((({ U with heap := s₂.heap, slotsUsed := s₂.slotsUsed } : State).setVm s₂.vm).setTop g).pushFrame (.throwing q) := by
      refine e3.trans ?_
      rw [hf₂, State.calling_eq h.top, State.setFrames_setFrames, State.pushFrame, State.frames_setTop _ hr', State.setTop_of_frames _ hr', State.setFrames_setFrames, hr]
      rfl
    have hsame : U.sameButNew ({ U with heap := s₂.heap, slotsUsed := s₂.slotsUsed } : State) L mc ms := by
      refine ⟨?_, q2, q3, q4, q5, q6⟩
      obtain ⟨t, ht, -⟩ := State.frames_cons hr
      show ({ U with heap := s₂.heap, slotsUsed := s₂.slotsUsed } : State) = { U.setFrames U.frames with heap := s₂.heap, slotsUsed := s₂.slotsUsed }
      rw [State.setFrames_self ht]
    subst hg
    refine Or.inr ⟨q, ⟨(({ U with heap := s₂.heap, slotsUsed := s₂.slotsUsed } : State).setVm s₂.vm), Ls ++ L, c0 + mc, s0 + ms⟩,
      ⟨X.admits, X.cas, X.clock, X.frames, X.room, X.hears, X.method, X.code, (X.here.setHeapUsed s₂.heap s₂.slotsUsed).setVm hW'.alike, X.tail, State.WarmedH.trans X.warmed hW', X.limits, X.bytes, X.same.trans (hsame.setVm s.vm)⟩,
      ⟨g, mk, s₂, L, E, ce, rfl, rfl, hx, hce, hcv, hcl, rfl, hL, rfl, rfl⟩, ?_⟩
    show Steps p.tables e below _ (((({ U with heap := s₂.heap, slotsUsed := s₂.slotsUsed } : State).setVm s₂.vm).setTop g).pushFrame (.throwing q))
    rw [← hs₂]
    exact hsteps
end Payer
section Calls
variable {p : Program} {l : Launch} {e : Env} {R : Room} {s : State} {m : MethodId} {args : Array Value} {below : List Frame} {meth : Method} {c : Code} {T : State} {locs : List Loc} {cells slots : Nat}
theorem vx_callV (X : Stand p l e R s m args below meth c T locs cells slots) (hexec : p.tables.exec = Jvm.exec) {own C : String} {index : Nat} {y : MethodName} {bytes : ByteArray} {maxL : Nat} {ret : Option FieldType}
    (hown : s.vm.findClass own = some m.cls) (hlink : (Cond.methodLink own index y).before args s = true) (hinst : (Cond.instanceMethod y).before args s = true) (hsel : (Cond.selects C y y).before args s = true)
    (hcode : (Cond.code y bytes maxL ret).before args s = true) (hy : y.cls ≠ "java/lang/invoke/MethodHandle" ∧ y.cls ≠ "java/lang/invoke/VarHandle")
    {W9 : Nat} {Pre : Pt → Array Value → Prop} {Post : Pt → Array Value → Option Value → Pt → Prop} {PostX : Pt → Array Value → Addr → Pt → Prop} (hK : vx_Back l R p e below s args y 3 W9 Pre Post PostX)
    {b : Addr} {cellB : Cell} (hcell : T.heap[b]? = some cellB) (hobj : cellB.vm.isStatics = false) (hcls : s.vm.findClass C = some cellB.cls)
    {g : JFrame} (hg : g.method = m) (hsize : g.locals.size = c.maxLocals) {argsL rest : List Value} (hlen : ∀ sig, parseMethodDescriptor y.desc = some sig → argsL.length = sig.parameters.length)
    (hstack : g.stack = argsL.reverse ++ .ref b :: rest) (hW : 2 * g.monitorRoom + (rest.map fun v => v.category).sum ≤ W9) (hdg : decode c.code g.pc = .ok (.invokevirtual index, 3))
    (hpre : ∀ vm₁, s.WarmedH vm₁ → Pre ⟨T.setVm vm₁, locs, cells, slots⟩ (Value.ref b :: argsL).toArray) :
    (∃ (v : Option Value) (vm₁ : Vm) (B : Pt), s.WarmedH vm₁ ∧ Stand p l e R s m args below meth c B.U B.locs B.cells B.slots ∧ Post ⟨T.setVm vm₁, locs, cells, slots⟩ (Value.ref b :: argsL).toArray v B ∧
      ∀ target, Steps p.tables e below (B.U.setTop { g with pc := g.pc + 3, stack := v.toList ++ rest }) target → Steps p.tables e below (T.setTop g) target) ∨
    (∃ (q : Addr) (vm₁ : Vm) (B : Pt), s.WarmedH vm₁ ∧ Stand p l e R s m args below meth c B.U B.locs B.cells B.slots ∧ PostX ⟨T.setVm vm₁, locs, cells, slots⟩ (Value.ref b :: argsL).toArray q B ∧
      Steps p.tables e below (T.setTop g) ((B.U.setTop { g with stack := rest }).pushFrame (.throwing q))) := by
  obtain ⟨mk, methM, hnamed, hmethM, hstM, habM⟩ := Cond.instanceMethod_spec hinst
  obtain ⟨methM', cM, hmethM', -, -, -, -, -, -, hsigM⟩ := Cond.code_spec hnamed hcode
  cases hmethM.symm.trans hmethM'
  obtain ⟨c2, r2, m2, q1, q2, q3, q4, kP, hkP, hkPi⟩ := Cond.selects_spec hsel
  cases hcls.symm.trans q1
  cases (State.methodFound?_of_named hnamed hy).symm.trans q2
  cases hnamed.symm.trans q3
  have hselP : selectMethod e.platform s.vm cellB.cls mk = .method mk := by rw [Launch.admits_selectMethod X.admits]; exact q4
  obtain ⟨vm₁, X₁, hstep₁⟩ := X.invokevirtual hexec hown hlink hnamed hmethM hstM hkP hkPi hy (a := b) (cell := cellB) hcell
    (fun z h => by rw [h] at hobj; cases hobj) hselP hmethM habM hkP hkPi (g := g) hg (argsL := argsL) (rest := rest) (hlen _ hsigM) hstack hdg
  rcases hK m meth c ⟨T.setVm vm₁, locs, cells, slots⟩ { g with stack := rest } (.invokevirtual index) mk (Value.ref b :: argsL).toArray X₁ hg hsize hdg hW (X₁.named hnamed) (hpre vm₁ X₁.warmed) with ⟨v, B, X', hpost, hsteps⟩ | ⟨q, B, X', hpost, hsteps⟩
  · exact Or.inl ⟨v, vm₁, B, X₁.warmed, X', hpost, fun target h => hstep₁ _ fun acts => by rw [doInvoke_state]; exact hsteps.trans h⟩
  · exact Or.inr ⟨q, vm₁, B, X₁.warmed, X', hpost, hstep₁ _ fun acts => by rw [doInvoke_state]; exact hsteps⟩
theorem vx_callS (X : Stand p l e R s m args below meth c T locs cells slots) (hexec : p.tables.exec = Jvm.exec) {own : String} {index : Nat} {y : MethodName} {bytes : ByteArray} {maxL : Nat} {ret : Option FieldType}
    (hown : s.vm.findClass own = some m.cls) (hlink : (Cond.methodLink own index y).before args s = true) (hstat : (Cond.static y).before args s = true) (hinit : (Cond.initialized y.cls).before args s = true)
    (hcode : (Cond.code y bytes maxL ret).before args s = true) (hy : y.cls ≠ "java/lang/invoke/MethodHandle" ∧ y.cls ≠ "java/lang/invoke/VarHandle")
    {W9 : Nat} {Pre : Pt → Array Value → Prop} {Post : Pt → Array Value → Option Value → Pt → Prop} {PostX : Pt → Array Value → Addr → Pt → Prop} (hK : vx_Back l R p e below s args y 3 W9 Pre Post PostX)
    {g : JFrame} (hg : g.method = m) (hsize : g.locals.size = c.maxLocals) {argsL rest : List Value} (hlen : ∀ sig, parseMethodDescriptor y.desc = some sig → argsL.length = sig.parameters.length)
    (hstack : g.stack = argsL.reverse ++ rest) (hW : 2 * g.monitorRoom + (rest.map fun v => v.category).sum ≤ W9) (hdg : decode c.code g.pc = .ok (.invokestatic index, 3))
    (hpre : ∀ vm₁, s.WarmedH vm₁ → Pre ⟨T.setVm vm₁, locs, cells, slots⟩ argsL.toArray) :
    (∃ (v : Option Value) (vm₁ : Vm) (B : Pt), s.WarmedH vm₁ ∧ Stand p l e R s m args below meth c B.U B.locs B.cells B.slots ∧ Post ⟨T.setVm vm₁, locs, cells, slots⟩ argsL.toArray v B ∧
      ∀ target, Steps p.tables e below (B.U.setTop { g with pc := g.pc + 3, stack := v.toList ++ rest }) target → Steps p.tables e below (T.setTop g) target) ∨
    (∃ (q : Addr) (vm₁ : Vm) (B : Pt), s.WarmedH vm₁ ∧ Stand p l e R s m args below meth c B.U B.locs B.cells B.slots ∧ PostX ⟨T.setVm vm₁, locs, cells, slots⟩ argsL.toArray q B ∧
      Steps p.tables e below (T.setTop g) ((B.U.setTop { g with stack := rest }).pushFrame (.throwing q))) := by
  obtain ⟨mk, hnamed⟩ := Cond.code_named hcode
  obtain ⟨methM, cM, hmethM, -, -, -, -, -, -, hsigM⟩ := Cond.code_spec hnamed hcode
  have hstatic : methM.isStatic = true := Cond.static_spec hnamed hmethM hstat
  obtain ⟨kP, hkP, -⟩ := className_of_methodNamed hnamed
  have hinitP : kP.init = .initialized := Cond.initialized_spec (findClass_of_methodNamed hnamed) hkP hinit
  obtain ⟨vm₁, X₁, hstep₁⟩ := X.invokestatic hexec hown hlink hnamed hmethM hstatic hkP hinitP hy (g := g) hg (argsL := argsL) (rest := rest) (hlen _ hsigM) hstack hdg
  rcases hK m meth c ⟨T.setVm vm₁, locs, cells, slots⟩ { g with stack := rest } (.invokestatic index) mk argsL.toArray X₁ hg hsize hdg hW (X₁.named hnamed) (hpre vm₁ X₁.warmed) with ⟨v, B, X', hpost, hsteps⟩ | ⟨q, B, X', hpost, hsteps⟩
  · exact Or.inl ⟨v, vm₁, B, X₁.warmed, X', hpost, fun target h => hstep₁ _ fun acts => by rw [doInvoke_state]; exact hsteps.trans h⟩
  · exact Or.inr ⟨q, vm₁, B, X₁.warmed, X', hpost, hstep₁ _ fun acts => by rw [doInvoke_state]; exact hsteps⟩
end Calls
theorem vx_cls {s : State} {T : State} {vm₁ : Vm} {E : String} {k : ClassId} (hW : s.WarmedH vm₁) (h : (T.setVm vm₁).vm.findClass E = some k) : s.vm.findClass E = some k := by
  have h1 : vm₁.findClass E = some k := h
  rw [hW.alike.findClass] at h1
  exact h1
/-- the method's frame g, with q thrown over it -/
def vx_W (p : Program) (l : Launch) (e : Env) (R : Room) (s : State) (m : MethodId) (args : Array Value) (below : List Frame) (meth : Method) (c : Code) (H : Heap) (locs : List Loc) (cells slots : Nat) (Q : State → Prop) (g : JFrame) (q : Addr) : Prop :=
  ∀ T : State, T.heap = H → Stand p l e R s m args below meth c T locs cells slots → ∃ t, Steps p.tables e below ((T.setTop g).pushFrame (.throwing q)) t ∧ Q t
def vx_Run (p : Program) (l : Launch) (e : Env) (R : Room) (s : State) (m : MethodId) (args : Array Value) (below : List Frame) (meth : Method) (c : Code) (H : Heap) (locs : List Loc) (cells slots mc ms : Nat) (g : JFrame) (rest : List Value) (Qa : State → Outcome → State → Prop) (XC : String → State → State → Prop) (free : Addr → Prop) : Prop :=
  ∀ T : State, T.heap = H → Stand p l e R s m args below meth c T locs cells slots →
    (∃ (v : Option Value) (st₀ t T' : State) (L : List Loc), st₀.heap = H ∧ Stand p l e R s m args below meth c T' (locs ++ L) (cells + mc) (slots + ms) ∧ (∀ q ∈ L, free q.base) ∧ T'.heap = t.heap ∧ T'.vm = t.vm ∧ Qa st₀ (.returned v) t ∧
      Goes p e below T g T' { g with pc := g.pc + 3, stack := v.toList ++ rest }) ∨
    (∃ (q : Addr) (st₀ t T' : State) (L : List Loc) (E : String) (ce : Cell), st₀.heap = H ∧ Stand p l e R s m args below meth c T' (locs ++ L) (cells + mc) (slots + ms) ∧ (∀ z ∈ L, free z.base) ∧ T'.heap = t.heap ∧ T'.vm = t.vm ∧ XC E st₀ t ∧ t.heap[q]? = some ce ∧ ce.vm = .none ∧ s.vm.findClass E = some ce.cls ∧
      Steps p.tables e below (T.setTop g) ((T'.setTop { g with stack := rest }).pushFrame (.throwing q)))
def vx_X {S : Type} (px : S → Prop) (B : String → S → State → Prop) (A : Nat → Prop) : String → State → State → Prop := fun E st t => ∃ u : S, px u ∧ B E u t ∧ va_F A st t
section Runs
variable {p : Program} {l : Launch} {e : Env} {R : Room} {s : State} {m : MethodId} {args : Array Value} {below : List Frame} {meth : Method} {c : Code} {H : Heap} {locs : List Loc} {cells slots : Nat}
variable {y : MethodName} {bytes cc : ByteArray} {maxL nL mc ms n index : Nat} {ret : Option FieldType} {ws : List Cond} {rm : Room} {Pc : Array Value → State → Prop} {Qc : Array Value → State → Outcome → State → Prop} {XC : String → State → State → Prop} {free : Addr → Prop} {Ts : List Cond} {own C : String} {b : Addr} {As rest : List Value} {g : JFrame}
theorem vx_callBack (cb : CallB R s args own index y bytes maxL ret ws rm mc ms n) (hM : vx_Met l y ws rm Pc Qc XC mc ms free) (hbl : FrameBlind Pc) : vx_Back l R p e below s args y 3 8 (PreOf R mc ms Pc) (PostOf Qc mc ms free) (vx_Post XC mc ms free) := by
  obtain ⟨hrc, hrs, hfr, hlo, hws, hcw, -, hini, -⟩ := cb
  exact vx_back (bytes := bytes) (maxL := maxL) (ret := ret) hM hbl hrc hrs hfr hlo hws hcw (fun a' U hW => word_at hW (Or.inl (by first | rfl | simp [Cond.onTables, Cond.keeps, Cond.steady])) hini)
theorem vx_runV (S : CallFix p m c cc nL s args Ts own) (hM : vx_Met l y ws rm Pc Qc XC mc ms free) (cw : CallW R s args own C index y bytes maxL ret ws rm mc ms n) (hp : PreV s H C b Pc As)
    (hg : g.method = m) (hn : As.length = n) (hsize : g.locals.size = nL) (hstack : g.stack = As.reverse ++ .ref b :: rest) (hW : 2 * g.monitorRoom + (rest.map fun v => v.category).sum ≤ 8) (hdg : decode cc g.pc = .ok (.invokevirtual index, 3)) (hf : cells + mc ≤ R.cells ∧ slots + ms ≤ R.slots) :
    vx_Run p l e R s m args below meth c H locs cells slots mc ms g rest (Qc (Value.ref b :: As).toArray) XC free := by
  have hK : vx_Back l R p e below s args y 3 8 (PreOf R mc ms Pc) (PostOf Qc mc ms free) (vx_Post XC mc ms free) := vx_callBack cw.1 hM hp.1
  obtain ⟨⟨-, -, -, -, -, -, hcode, -, hy, hlen, hl⟩, hin, hse⟩ := cw
  obtain ⟨hx, hb, hml, ho, -⟩ := S
  obtain ⟨-, ⟨cellB, hcB, hoB, hclB⟩, hPc⟩ := hp
  intro T hT X
  rcases vx_callV X hx (C := C) (bytes := bytes) (maxL := maxL) (ret := ret) ho hl hin hse hcode hy hK (by rw [hT]; exact hcB) hoB hclB hg (hsize.trans hml.symm) (argsL := As) (rest := rest) (fun sig h => hn.trans (hlen sig h)) hstack hW (by rw [hb]; exact hdg)
    (fun vm₁ hW₁ => ⟨hf.1, hf.2, hPc (T.setVm vm₁) hT hW₁⟩) with ⟨v, vm₁, ⟨U', l2, c2, s2⟩, hW₁, X', ⟨g', mk, t, L, e1, e2, hq, h1, hL, h2, h3⟩, st⟩ | ⟨q, vm₁, ⟨U', l2, c2, s2⟩, hW₁, X', ⟨g', mk, t, L, E, ce, e1, e2, hq, hce, hcv, hcl, h1, hL, h2, h3⟩, st⟩
  · dsimp only [Pt.U, Pt.locs, Pt.cells, Pt.slots] at X' e1 e2 h1 h2 h3 st
    subst h1; subst h2; subst h3
    exact Or.inl ⟨v, (T.setVm vm₁).calling g' mk (Value.ref b :: As).toArray, t, U', L, hT, X', hL, e1, e2, hq, st⟩
  · dsimp only [Pt.U, Pt.locs, Pt.cells, Pt.slots] at X' e1 e2 h1 h2 h3 st hcl
    subst h1; subst h2; subst h3
    exact Or.inr ⟨q, (T.setVm vm₁).calling g' mk (Value.ref b :: As).toArray, t, U', L, E, ce, hT, X', hL, e1, e2, hq, hce, hcv, vx_cls hW₁ hcl, st⟩
theorem vx_runS (S : CallFix p m c cc nL s args Ts own) (hM : vx_Met l y ws rm Pc Qc XC mc ms free) (cw : CallB R s args own index y bytes maxL ret ws rm mc ms n ∧ (Cond.static y).before args s = true) (hp : PreS s H Pc As)
    (hg : g.method = m) (hn : As.length = n) (hsize : g.locals.size = nL) (hstack : g.stack = As.reverse ++ rest) (hW : 2 * g.monitorRoom + (rest.map fun v => v.category).sum ≤ 8) (hdg : decode cc g.pc = .ok (.invokestatic index, 3)) (hf : cells + mc ≤ R.cells ∧ slots + ms ≤ R.slots) :
    vx_Run p l e R s m args below meth c H locs cells slots mc ms g rest (Qc As.toArray) XC free := by
  have hK : vx_Back l R p e below s args y 3 8 (PreOf R mc ms Pc) (PostOf Qc mc ms free) (vx_Post XC mc ms free) := vx_callBack cw.1 hM hp.1
  obtain ⟨⟨-, -, -, -, -, -, hcode, hini, hy, hlen, hl⟩, hstt⟩ := cw
  obtain ⟨hx, hb, hml, ho, -⟩ := S
  intro T hT X
  rcases vx_callS X hx (bytes := bytes) (maxL := maxL) (ret := ret) ho hl hstt hini hcode hy hK hg (hsize.trans hml.symm) (argsL := As) (rest := rest) (fun sig h => hn.trans (hlen sig h)) hstack hW (by rw [hb]; exact hdg)
    (fun vm₁ hW₁ => ⟨hf.1, hf.2, hp.2 (T.setVm vm₁) hT hW₁⟩) with ⟨v, vm₁, ⟨U', l2, c2, s2⟩, hW₁, X', ⟨g', mk, t, L, e1, e2, hq, h1, hL, h2, h3⟩, st⟩ | ⟨q, vm₁, ⟨U', l2, c2, s2⟩, hW₁, X', ⟨g', mk, t, L, E, ce, e1, e2, hq, hce, hcv, hcl, h1, hL, h2, h3⟩, st⟩
  · dsimp only [Pt.U, Pt.locs, Pt.cells, Pt.slots] at X' e1 e2 h1 h2 h3 st
    subst h1; subst h2; subst h3
    exact Or.inl ⟨v, (T.setVm vm₁).calling g' mk As.toArray, t, U', L, hT, X', hL, e1, e2, hq, st⟩
  · dsimp only [Pt.U, Pt.locs, Pt.cells, Pt.slots] at X' e1 e2 h1 h2 h3 st hcl
    subst h1; subst h2; subst h3
    exact Or.inr ⟨q, (T.setVm vm₁).calling g' mk As.toArray, t, U', L, E, ce, hT, X', hL, e1, e2, hq, hce, hcv, vx_cls hW₁ hcl, st⟩
end Runs
section Rows
variable {p : Program} {l : Launch} {e : Env} {R : Room} {s : State} {m : MethodId} {args : Array Value} {below : List Frame} {meth : Method} {c : Code} {H : Heap} {locs : List Loc} {cells slots : Nat} {Q : State → Prop}
variable {mc ms : Nat} {free : Addr → Prop} {A0 A1 : Nat → Prop} {H0 : Heap} {a : Array Value} {pc : Nat} {ls : Array Slot} {st0 rest : List Value}
theorem vx_keep {st₀ t T' : State} {L : List Loc} (h0 : st₀.heap = H) (e1 : T'.heap = t.heap) (hS : va_S A0 H0 H locs) (hA : ∀ q, q < H.size → A1 q → A0 q) (hf : ∀ q, free q → A0 q) (hL : ∀ q ∈ L, free q.base) (hF : va_F A1 st₀ t) :
    H.size ≤ T'.heap.size ∧ (∀ q : Nat, q < H.size → ¬ A1 q → T'.heap[q]? = H[q]?) ∧ va_S A0 H0 T'.heap (locs ++ L) := by
  obtain ⟨hz, hk⟩ := hF
  rw [h0] at hz hk
  exact ⟨by rw [e1]; exact hz, fun q h1 h2 => by rw [e1]; exact hk q h1 h2,
    ⟨Nat.le_trans hS.1 (by rw [e1]; exact hz), fun q h1 h2 => by rw [e1, hk q (Nat.lt_of_lt_of_le h1 hS.1) (fun z => h2 (hA q (Nat.lt_of_lt_of_le h1 hS.1) z))]; exact hS.2.1 q h1 h2, fun q hq => by
      rcases List.mem_append.mp hq with h | h
      · exact hS.2.2 q h
      · exact hf _ (hL q h)⟩⟩
theorem vx_calli {S SX : Type} {post : Int32 → S → Prop} {px : SX → Prop} {B : S → State → Prop} {BX : String → SX → State → Prop} {AX : Nat → Prop} (hr : vx_Run p l e R s m args below meth c H locs cells slots mc ms (F0 m pc ls st0) rest (va_Qi post B A1 a) (vx_X px BX AX) free) (hS : va_S A0 H0 H locs) (hA : ∀ q, q < H.size → A1 q → A0 q) (hf : ∀ q, free q → A0 q) (hAX : ∀ q, q < H.size → AX q → A0 q)
    (kx : ∀ (E : String) (ce : Cell) (q9 : Addr) (u : SX) (t : State) (H1 : Heap) (locs1 : List Loc), t.heap = H1 → s.vm.Alike t.vm → px u → BX E u t → H.size ≤ H1.size → (∀ q : Nat, q < H.size → ¬ AX q → H1[q]? = H[q]?) → va_S A0 H0 H1 locs1 → H1[q9]? = some ce → ce.vm = .none → s.vm.findClass E = some ce.cls → vx_W p l e R s m args below meth c H1 locs1 (cells + mc) (slots + ms) Q (F0 m pc ls rest) q9)
    (kk : ∀ (r : Int32) (u : S) (t : State) (H1 : Heap) (locs1 : List Loc), t.heap = H1 → s.vm.Alike t.vm → post r u → B u t → H.size ≤ H1.size → (∀ q : Nat, q < H.size → ¬ A1 q → H1[q]? = H[q]?) → va_S A0 H0 H1 locs1 → W p l e R s m args below meth c H1 locs1 (cells + mc) (slots + ms) Q (F0 m (pc + 3) ls (.int r :: rest))) : W p l e R s m args below meth c H locs cells slots Q (F0 m pc ls st0) := by
  intro T hT X
  rcases hr T hT X with ⟨v, st₀, t, T', L, h0, X', hL, e1, e2, ⟨⟨r, u, hv, hp, hb⟩, hF⟩, st⟩ | ⟨q, st₀, t, T', L, E, ce, h0, X', hL, e1, e2, ⟨u, hp, hb, hF⟩, hce, hcv, hcl, st⟩
  · cases hv
    obtain ⟨k1, k2, k3⟩ := vx_keep h0 e1 hS hA hf hL hF
    obtain ⟨t2, a1, b1⟩ := kk r u t T'.heap (locs ++ L) e1.symm (by rw [← e2]; exact X'.warmed.alike) hp hb k1 k2 k3 T' rfl X'
    exact ⟨t2, st t2 a1, b1⟩
  · obtain ⟨k1, k2, k3⟩ := vx_keep h0 e1 hS hAX hf hL hF
    obtain ⟨t2, a1, b1⟩ := kx E ce q u t T'.heap (locs ++ L) e1.symm (by rw [← e2]; exact X'.warmed.alike) hp hb k1 k2 k3 (by rw [e1]; exact hce) hcv hcl T' rfl X'
    exact ⟨t2, st.trans a1, b1⟩
theorem vx_calll {S SX : Type} {post : Int64 → S → Prop} {px : SX → Prop} {B : S → State → Prop} {BX : String → SX → State → Prop} {AX : Nat → Prop} (hr : vx_Run p l e R s m args below meth c H locs cells slots mc ms (F0 m pc ls st0) rest (va_Ql post B A1 a) (vx_X px BX AX) free) (hS : va_S A0 H0 H locs) (hA : ∀ q, q < H.size → A1 q → A0 q) (hf : ∀ q, free q → A0 q) (hAX : ∀ q, q < H.size → AX q → A0 q)
    (kx : ∀ (E : String) (ce : Cell) (q9 : Addr) (u : SX) (t : State) (H1 : Heap) (locs1 : List Loc), t.heap = H1 → s.vm.Alike t.vm → px u → BX E u t → H.size ≤ H1.size → (∀ q : Nat, q < H.size → ¬ AX q → H1[q]? = H[q]?) → va_S A0 H0 H1 locs1 → H1[q9]? = some ce → ce.vm = .none → s.vm.findClass E = some ce.cls → vx_W p l e R s m args below meth c H1 locs1 (cells + mc) (slots + ms) Q (F0 m pc ls rest) q9)
    (kk : ∀ (r : Int64) (u : S) (t : State) (H1 : Heap) (locs1 : List Loc), t.heap = H1 → s.vm.Alike t.vm → post r u → B u t → H.size ≤ H1.size → (∀ q : Nat, q < H.size → ¬ A1 q → H1[q]? = H[q]?) → va_S A0 H0 H1 locs1 → W p l e R s m args below meth c H1 locs1 (cells + mc) (slots + ms) Q (F0 m (pc + 3) ls (.long r :: rest))) : W p l e R s m args below meth c H locs cells slots Q (F0 m pc ls st0) := by
  intro T hT X
  rcases hr T hT X with ⟨v, st₀, t, T', L, h0, X', hL, e1, e2, ⟨⟨r, u, hv, hp, hb⟩, hF⟩, st⟩ | ⟨q, st₀, t, T', L, E, ce, h0, X', hL, e1, e2, ⟨u, hp, hb, hF⟩, hce, hcv, hcl, st⟩
  · cases hv
    obtain ⟨k1, k2, k3⟩ := vx_keep h0 e1 hS hA hf hL hF
    obtain ⟨t2, a1, b1⟩ := kk r u t T'.heap (locs ++ L) e1.symm (by rw [← e2]; exact X'.warmed.alike) hp hb k1 k2 k3 T' rfl X'
    exact ⟨t2, st t2 a1, b1⟩
  · obtain ⟨k1, k2, k3⟩ := vx_keep h0 e1 hS hAX hf hL hF
    obtain ⟨t2, a1, b1⟩ := kx E ce q u t T'.heap (locs ++ L) e1.symm (by rw [← e2]; exact X'.warmed.alike) hp hb k1 k2 k3 (by rw [e1]; exact hce) hcv hcl T' rfl X'
    exact ⟨t2, st.trans a1, b1⟩
theorem vx_callf {S SX : Type} {post : UInt32 → S → Prop} {px : SX → Prop} {B : S → State → Prop} {BX : String → SX → State → Prop} {AX : Nat → Prop} (hr : vx_Run p l e R s m args below meth c H locs cells slots mc ms (F0 m pc ls st0) rest (va_Qf post B A1 a) (vx_X px BX AX) free) (hS : va_S A0 H0 H locs) (hA : ∀ q, q < H.size → A1 q → A0 q) (hf : ∀ q, free q → A0 q) (hAX : ∀ q, q < H.size → AX q → A0 q)
    (kx : ∀ (E : String) (ce : Cell) (q9 : Addr) (u : SX) (t : State) (H1 : Heap) (locs1 : List Loc), t.heap = H1 → s.vm.Alike t.vm → px u → BX E u t → H.size ≤ H1.size → (∀ q : Nat, q < H.size → ¬ AX q → H1[q]? = H[q]?) → va_S A0 H0 H1 locs1 → H1[q9]? = some ce → ce.vm = .none → s.vm.findClass E = some ce.cls → vx_W p l e R s m args below meth c H1 locs1 (cells + mc) (slots + ms) Q (F0 m pc ls rest) q9)
    (kk : ∀ (r : UInt32) (u : S) (t : State) (H1 : Heap) (locs1 : List Loc), t.heap = H1 → s.vm.Alike t.vm → post r u → B u t → H.size ≤ H1.size → (∀ q : Nat, q < H.size → ¬ A1 q → H1[q]? = H[q]?) → va_S A0 H0 H1 locs1 → W p l e R s m args below meth c H1 locs1 (cells + mc) (slots + ms) Q (F0 m (pc + 3) ls (.float r :: rest))) : W p l e R s m args below meth c H locs cells slots Q (F0 m pc ls st0) := by
  intro T hT X
  rcases hr T hT X with ⟨v, st₀, t, T', L, h0, X', hL, e1, e2, ⟨⟨r, u, hv, hp, hb⟩, hF⟩, st⟩ | ⟨q, st₀, t, T', L, E, ce, h0, X', hL, e1, e2, ⟨u, hp, hb, hF⟩, hce, hcv, hcl, st⟩
  · cases hv
    obtain ⟨k1, k2, k3⟩ := vx_keep h0 e1 hS hA hf hL hF
    obtain ⟨t2, a1, b1⟩ := kk r u t T'.heap (locs ++ L) e1.symm (by rw [← e2]; exact X'.warmed.alike) hp hb k1 k2 k3 T' rfl X'
    exact ⟨t2, st t2 a1, b1⟩
  · obtain ⟨k1, k2, k3⟩ := vx_keep h0 e1 hS hAX hf hL hF
    obtain ⟨t2, a1, b1⟩ := kx E ce q u t T'.heap (locs ++ L) e1.symm (by rw [← e2]; exact X'.warmed.alike) hp hb k1 k2 k3 (by rw [e1]; exact hce) hcv hcl T' rfl X'
    exact ⟨t2, st.trans a1, b1⟩
theorem vx_calld {S SX : Type} {post : UInt64 → S → Prop} {px : SX → Prop} {B : S → State → Prop} {BX : String → SX → State → Prop} {AX : Nat → Prop} (hr : vx_Run p l e R s m args below meth c H locs cells slots mc ms (F0 m pc ls st0) rest (va_Qd post B A1 a) (vx_X px BX AX) free) (hS : va_S A0 H0 H locs) (hA : ∀ q, q < H.size → A1 q → A0 q) (hf : ∀ q, free q → A0 q) (hAX : ∀ q, q < H.size → AX q → A0 q)
    (kx : ∀ (E : String) (ce : Cell) (q9 : Addr) (u : SX) (t : State) (H1 : Heap) (locs1 : List Loc), t.heap = H1 → s.vm.Alike t.vm → px u → BX E u t → H.size ≤ H1.size → (∀ q : Nat, q < H.size → ¬ AX q → H1[q]? = H[q]?) → va_S A0 H0 H1 locs1 → H1[q9]? = some ce → ce.vm = .none → s.vm.findClass E = some ce.cls → vx_W p l e R s m args below meth c H1 locs1 (cells + mc) (slots + ms) Q (F0 m pc ls rest) q9)
    (kk : ∀ (r : UInt64) (u : S) (t : State) (H1 : Heap) (locs1 : List Loc), t.heap = H1 → s.vm.Alike t.vm → post r u → B u t → H.size ≤ H1.size → (∀ q : Nat, q < H.size → ¬ A1 q → H1[q]? = H[q]?) → va_S A0 H0 H1 locs1 → W p l e R s m args below meth c H1 locs1 (cells + mc) (slots + ms) Q (F0 m (pc + 3) ls (.double r :: rest))) : W p l e R s m args below meth c H locs cells slots Q (F0 m pc ls st0) := by
  intro T hT X
  rcases hr T hT X with ⟨v, st₀, t, T', L, h0, X', hL, e1, e2, ⟨⟨r, u, hv, hp, hb⟩, hF⟩, st⟩ | ⟨q, st₀, t, T', L, E, ce, h0, X', hL, e1, e2, ⟨u, hp, hb, hF⟩, hce, hcv, hcl, st⟩
  · cases hv
    obtain ⟨k1, k2, k3⟩ := vx_keep h0 e1 hS hA hf hL hF
    obtain ⟨t2, a1, b1⟩ := kk r u t T'.heap (locs ++ L) e1.symm (by rw [← e2]; exact X'.warmed.alike) hp hb k1 k2 k3 T' rfl X'
    exact ⟨t2, st t2 a1, b1⟩
  · obtain ⟨k1, k2, k3⟩ := vx_keep h0 e1 hS hAX hf hL hF
    obtain ⟨t2, a1, b1⟩ := kx E ce q u t T'.heap (locs ++ L) e1.symm (by rw [← e2]; exact X'.warmed.alike) hp hb k1 k2 k3 (by rw [e1]; exact hce) hcv hcl T' rfl X'
    exact ⟨t2, st.trans a1, b1⟩
theorem vx_callv {S SX : Type} {post : S → Prop} {px : SX → Prop} {B : S → State → Prop} {BX : String → SX → State → Prop} {AX : Nat → Prop} (hr : vx_Run p l e R s m args below meth c H locs cells slots mc ms (F0 m pc ls st0) rest (va_Qv post B A1 a) (vx_X px BX AX) free) (hS : va_S A0 H0 H locs) (hA : ∀ q, q < H.size → A1 q → A0 q) (hf : ∀ q, free q → A0 q) (hAX : ∀ q, q < H.size → AX q → A0 q)
    (kx : ∀ (E : String) (ce : Cell) (q9 : Addr) (u : SX) (t : State) (H1 : Heap) (locs1 : List Loc), t.heap = H1 → s.vm.Alike t.vm → px u → BX E u t → H.size ≤ H1.size → (∀ q : Nat, q < H.size → ¬ AX q → H1[q]? = H[q]?) → va_S A0 H0 H1 locs1 → H1[q9]? = some ce → ce.vm = .none → s.vm.findClass E = some ce.cls → vx_W p l e R s m args below meth c H1 locs1 (cells + mc) (slots + ms) Q (F0 m pc ls rest) q9)
    (kk : ∀ (u : S) (t : State) (H1 : Heap) (locs1 : List Loc), t.heap = H1 → s.vm.Alike t.vm → post u → B u t → H.size ≤ H1.size → (∀ q : Nat, q < H.size → ¬ A1 q → H1[q]? = H[q]?) → va_S A0 H0 H1 locs1 → W p l e R s m args below meth c H1 locs1 (cells + mc) (slots + ms) Q (F0 m (pc + 3) ls (rest))) : W p l e R s m args below meth c H locs cells slots Q (F0 m pc ls st0) := by
  intro T hT X
  rcases hr T hT X with ⟨v, st₀, t, T', L, h0, X', hL, e1, e2, ⟨⟨u, hv, hp, hb⟩, hF⟩, st⟩ | ⟨q, st₀, t, T', L, E, ce, h0, X', hL, e1, e2, ⟨u, hp, hb, hF⟩, hce, hcv, hcl, st⟩
  · cases hv
    obtain ⟨k1, k2, k3⟩ := vx_keep h0 e1 hS hA hf hL hF
    obtain ⟨t2, a1, b1⟩ := kk u t T'.heap (locs ++ L) e1.symm (by rw [← e2]; exact X'.warmed.alike) hp hb k1 k2 k3 T' rfl X'
    exact ⟨t2, st t2 a1, b1⟩
  · obtain ⟨k1, k2, k3⟩ := vx_keep h0 e1 hS hAX hf hL hF
    obtain ⟨t2, a1, b1⟩ := kx E ce q u t T'.heap (locs ++ L) e1.symm (by rw [← e2]; exact X'.warmed.alike) hp hb k1 k2 k3 (by rw [e1]; exact hce) hcv hcl T' rfl X'
    exact ⟨t2, st.trans a1, b1⟩
/-- caught by the row x of this method's table; the rows ahead don't take it -/
theorem vx_catch {own name : String} {E : String} {ce : Cell} {q : Addr} (hown : s.vm.findClass own = some m.cls) (pre : List ExceptionTableEntry) (x : ExceptionTableEntry) (suf : List ExceptionTableEntry) (hsplit : c.exceptionTable.toList = pre ++ x :: suf)
    (hpass : ∀ z ∈ pre, covers z pc = false ∨ (z.catchType ≠ 0 ∧ ∃ nm : String, (Cond.classLink own z.catchType nm).before args s = true ∧ va_Nc E nm s)) (hx : covers x pc = true) (h0 : x.catchType ≠ 0)
    (hlink : (Cond.classLink own x.catchType name).before args s = true) (hcast : (Cond.castable E name).before args s = true) (hcell : H[q]? = some ce) (hv : ce.vm = .none) (hcl : s.vm.findClass E = some ce.cls)
    (kk : W p l e R s m args below meth c H locs cells slots Q (F0 m x.handlerPc ls [.ref q])) : vx_W p l e R s m args below meth c H locs cells slots Q (F0 m pc ls rest) q := by
  intro T hT X
  have hpl : e.platform.magicAccessors = ({} : Platform).magicAccessors := by rw [X.admits.platform]
  obtain ⟨c3, c4, hc3, hc4, hasg⟩ := Cond.castable_spec hcast
  cases Option.some.inj (hc3.symm.trans hcl)
  obtain ⟨c5, hc5, hcl5⟩ := Cond.classLink_spec hown hlink e.platform hpl
  cases Option.some.inj (hc4.symm.trans hc5)
  obtain ⟨vm', X', st⟩ := X.thenCaughtThrough q (g := F0 m pc ls rest) rfl (Steps.refl _) (by rw [hT]; exact hcell) (by rw [hv]; rfl) (by obtain ⟨k9, h9, -⟩ := Vm.findClass_spec hcl; exact ⟨k9, h9⟩) pre x suf hsplit
    (fun z hz => by
      rcases hpass z hz with h | ⟨hz0, nm, hl1, hn1⟩
      · exact Or.inl h
      · obtain ⟨c6, hc6, hcl6⟩ := Cond.classLink_spec hown hl1 e.platform hpl
        obtain ⟨a8, b8, h1, h2, h3⟩ := hn1
        cases Option.some.inj (h1.symm.trans hcl)
        cases Option.some.inj (h2.symm.trans hc6)
        exact Or.inr ⟨hz0, _, hcl6, h3⟩) hx (Or.inr ⟨h0, c4, hcl5, hasg⟩)
  obtain ⟨t, a1, b1⟩ := kk (T.setVm vm') hT X'
  exact ⟨t, st.trans a1, b1⟩
end Rows
section Ends
variable {p : Program} {l : Launch} {e : Env} {R : Room} {s : State} {m : MethodId} {args : Array Value} {below : List Frame} {meth : Method} {c : Code} {H : Heap} {locs : List Loc} {cells slots : Nat} {Q : State → Prop}
variable {mc ms : Nat} {free : Addr → Prop} {A0 A1 : Nat → Prop} {H0 : Heap} {a : Array Value} {ls : Array Slot} {st0 rest : List Value}
variable {Qc : Array Value → State → Outcome → State → Prop} {XC : String → State → State → Prop}
/-- what a body that may throw owes at its end -/
def vx_MQ (below : List Frame) (Qc : Array Value → State → Outcome → State → Prop) (XC : String → State → State → Prop) (a : Array Value) (s : State) (mc ms : Nat) (free : Addr → Prop) : State → Prop := fun t =>
  ∃ o, t.status = .running ∧ Ended t below o ∧ vx_Q Qc XC mc ms free a s o t
theorem vx_ret {g : JFrame} {mc ms : Nat} (k : W p l e R s m args below meth c H locs cells slots (MQ below Qc args s mc ms free) g) : W p l e R s m args below meth c H locs cells slots (vx_MQ below Qc XC args s mc ms free) g := by
  intro T hT X
  obtain ⟨t, a1, o, b1, b2, b3, b4⟩ := k T hT X
  exact ⟨t, a1, o, b1, b2, Or.inl ⟨b3, b4⟩⟩
/-- not caught here: it goes on to the caller -/
theorem vx_widen {g : JFrame} {q : Addr} {k n : Nat} (h1 : cells ≤ k) (h2 : slots ≤ n) (kk : vx_W p l e R s m args below meth c H locs k n Q g q) : vx_W p l e R s m args below meth c H locs cells slots Q g q := fun T hT X => kk T hT (stand_widen X h1 h2)
theorem vx_out {pc : Nat} {E : String} {ce : Cell} {q : Addr} {mc ms : Nat} (hout : ∀ x ∈ c.exceptionTable.toList, covers x pc = false) (hlocks : meth.locks = false) (hcell : H[q]? = some ce) (hv : ce.vm = .none) (hcl : s.vm.findClass E = some ce.cls)
    (hx : ∀ t : State, t.heap = H → s.vm.Alike t.vm → XC E s t) (hf : ∀ z ∈ locs, free z.base) (hc : cells ≤ mc) (hs : slots ≤ ms) :
    vx_W p l e R s m args below meth c H locs cells slots (vx_MQ below Qc XC args s mc ms free) (F0 m pc ls rest) q := by
  intro T hT X
  obtain ⟨st1, hrun, hend, hW, hsm⟩ := X.leaveThrown q (g := F0 m pc ls rest) rfl rfl rfl hout hlocks
  have hcell9 : (T.setFrames (.throwing q :: below)).heap[q]? = some ce := by
    show T.heap[q]? = some ce
    rw [hT]; exact hcell
  exact ⟨_, st1, .threw q, hrun, hend, Or.inr ⟨q, rfl, E, ce, locs, hx _ hT hW.alike, hcell9, hv, hcl, hW, hsm.mono hc hs, hf⟩⟩
theorem vx_frame {U : State} {k n : Nat} (h : s.sameButNew ({ U with vm := s.vm } : State) locs k n) : s.heap.size ≤ U.heap.size ∧ ∀ q : Nat, q < s.heap.size → (∀ z ∈ locs, z.base ≠ q) → U.heap[q]? = s.heap[q]? := by
  obtain ⟨-, h2, -, -, -, h6⟩ := h
  refine ⟨h2, fun q hq hz => ?_⟩
  obtain ⟨c9, e1, e2, e3, e4⟩ := h6 q _ (Array.getElem?_eq_getElem hq)
  have hs : c9.slots = (s.heap[q]).slots := Array.ext_getElem? fun i => e4 i fun hm => hz _ hm rfl
  have h9 : c9 = s.heap[q] := by
    rw [hs] at e2
    exact e2
  have e5 : U.heap[q]? = some c9 := e1
  rw [e5, h9, Array.getElem?_eq_getElem hq]
/-- the words of a throw but the four that speak of the heap -/
def vx_no (w : Cond) : Bool := decide (w ≠ .isRef (.static Bundle.tN "UNASSIGNED_STACK" Bundle.steD)) && decide (w ≠ .isRef (.static Bundle.tN "SUPPRESSED_SENTINEL" Bundle.listD)) && decide (w ≠ .laysStatic Bundle.tN "UNASSIGNED_STACK" Bundle.steD) && decide (w ≠ .laysStatic Bundle.tN "SUPPRESSED_SENTINEL" Bundle.listD)
def vx_at0 (own : String) (ic : Nat) (X : String) (names : List String) : List Cond := (Bundle.ownAtoms0 own ic X names).filter vx_no
def vx_atS (own : String) (ic : Nat) (X : String) (names : List String) : List Cond := (Bundle.ownAtoms own ic X names).filter vx_no
/-- a word that the tables alone decide, or a good one -/
def vx_ot (w : Cond) : Bool := w.onTables || goodWord w
theorem vx_ot_at {args a' : Array Value} {s U : State} {w : Cond} (hW : s.WarmedH U.vm) (hvm : s.vm = U.vm) (hg : vx_ot w = true) (h : w.before args s = true) : w.before a' U = true := by
  simp only [vx_ot, Bool.or_eq_true] at hg
  rcases hg with hg | hg
  · exact va_tabs hg hvm h
  · exact word_at hW (good_of_word hg) h
/-- a list's words: the good ones out of the method's own list, the others by premises of their own -/
theorem vx_hat {args : Array Value} {s : State} {L B : List Cond} (h1 : ∀ w ∈ L.filter goodWord, w.before args s = true) (h2 : ∀ w ∈ L.filter (fun w => !goodWord w), w ∈ B) (h3 : ∀ w ∈ B, w.before args s = true) : ∀ w ∈ L, w.before args s = true := by
  intro w hw
  by_cases g : goodWord w = true
  · exact h1 w (List.mem_filter.mpr ⟨hw, g⟩)
  · refine h3 w (h2 w (List.mem_filter.mpr ⟨hw, ?_⟩))
    show (!goodWord w) = true
    cases hgw : goodWord w
    · rfl
    · exact absurd hgw g
theorem vx_c {args : Array Value} {s : State} {w : Cond} {B : List Cond} (h : w.before args s = true) (t : ∀ w ∈ B, w.before args s = true) : ∀ w' ∈ w :: B, w'.before args s = true := fun w' h' => (List.mem_cons.mp h').elim (fun e => by rw [e]; exact h) (t w')
theorem vx_n {args : Array Value} {s : State} : ∀ w ∈ ([] : List Cond), w.before args s = true := fun _ h => nomatch h
theorem vx_own {args : Array Value} {s : State} {L : List Cond} (h1 : ∀ w ∈ L.filter vx_no, w.before args s = true)
    (hU : (Cond.isRef (.static Bundle.tN "UNASSIGNED_STACK" Bundle.steD)).before args s = true) (hN : (Cond.isRef (.static Bundle.tN "SUPPRESSED_SENTINEL" Bundle.listD)).before args s = true)
    (lU : (Cond.laysStatic Bundle.tN "UNASSIGNED_STACK" Bundle.steD).before args s = true) (lN : (Cond.laysStatic Bundle.tN "SUPPRESSED_SENTINEL" Bundle.listD).before args s = true) : ∀ w ∈ L, w.before args s = true := by
  intro w hw
  by_cases e1 : w = .isRef (.static Bundle.tN "UNASSIGNED_STACK" Bundle.steD)
  · rw [e1]; exact hU
  · by_cases e2 : w = .isRef (.static Bundle.tN "SUPPRESSED_SENTINEL" Bundle.listD)
    · rw [e2]; exact hN
    · by_cases e3 : w = .laysStatic Bundle.tN "UNASSIGNED_STACK" Bundle.steD
      · rw [e3]; exact lU
      · by_cases e4 : w = .laysStatic Bundle.tN "SUPPRESSED_SENTINEL" Bundle.listD
        · rw [e4]; exact lN
        · exact h1 w (List.mem_filter.mpr ⟨hw, by unfold vx_no; rw [decide_eq_true e1, decide_eq_true e2, decide_eq_true e3, decide_eq_true e4]; rfl⟩)
/-- where a static field lies, its class's statics cell in H -/
def vx_L (C n d : String) (A : Nat → Prop) (U : State) (H : Heap) : Prop := ∃ (c : ClassId) (k : Class) (i : Nat) (f : Field) (a : Nat) (cell : Cell), U.vm.findClass C = some c ∧ U.fieldFound? C n d = some (c, k, i, f) ∧ f.isStatic = true ∧ k.statics = some a ∧ H[a]? = some cell ∧ cell.vm.isStatics = true ∧ cell.cls = c ∧ f.slot < cell.slots.size ∧ k.staticTypes[f.slot]? = some f.type ∧ ¬ A a
theorem vx_L.moved {C n d : String} {A : Nat → Prop} {u U : State} {H : Heap} (hvm : u.vm.Alike U.vm) (h : vx_L C n d A u H) : vx_L C n d A U H := by
  obtain ⟨c, k, i, f, a, cell, h1, h2, h3, h4, h5, h6, h7, h8, h9, h10⟩ := h
  obtain ⟨k', hi', he⟩ := State.fieldFound?_setVm hvm h2
  exact ⟨c, k', i, f, a, cell, by rw [hvm.findClass]; exact h1, hi', h3, by rw [he]; exact h4, h5, h6, h7, h8, by rw [he]; exact h9, h10⟩
theorem vx_L.kept {C n d : String} {A : Nat → Prop} {U : State} {H H1 : Heap} (h : vx_L C n d A U H) (hq : ∀ a : Nat, a < H.size → ¬ A a → H1[a]? = H[a]?) : vx_L C n d A U H1 := by
  obtain ⟨c, k, i, f, a, cell, h1, h2, h3, h4, h5, h6, h7, h8, h9, h10⟩ := h
  exact ⟨c, k, i, f, a, cell, h1, h2, h3, h4, by rw [hq a (Array.getElem?_eq_some_iff.mp h5).1 h10]; exact h5, h6, h7, h8, h9, h10⟩
theorem vx_L.narrow {C n d : String} {A B : Nat → Prop} {U : State} {H : Heap} (h : vx_L C n d A U H) (hAB : ∀ q, B q → A q) : vx_L C n d B U H := by
  obtain ⟨c, k, i, f, a, cell, h1, h2, h3, h4, h5, h6, h7, h8, h9, h10⟩ := h
  exact ⟨c, k, i, f, a, cell, h1, h2, h3, h4, h5, h6, h7, h8, h9, fun z => h10 (hAB _ z)⟩
theorem vx_L.word {C n d : String} {A : Nat → Prop} {s : State} {args : Array Value} (h : vx_L C n d A s s.heap) : (Cond.laysStatic C n d).before args s = true := by
  obtain ⟨c, k, i, f, a, cell, h1, h2, h3, h4, h5, h6, h7, h8, h9, -⟩ := h
  show (Cond.laysStatic C n d).holds args s none s [] = true
  exact Cond.laysStatic_of h1 h2 h3 h4 h5 h6 h7 h8 h9
/-- .. and what it holds: null or some reference -/
def vx_Zq (C n d : String) (A : Nat → Prop) (U : State) (H : Heap) : Prop := va_Zq C n d A U H ∧ vx_L C n d A U H
theorem vx_Zq.moved {C n d : String} {A : Nat → Prop} {u U : State} {H : Heap} (hvm : u.vm.Alike U.vm) (h : vx_Zq C n d A u H) : vx_Zq C n d A U H := ⟨va_Zq.moved hvm h.1, vx_L.moved hvm h.2⟩
theorem vx_Zq.kept {C n d : String} {A : Nat → Prop} {U : State} {H H1 : Heap} (h : vx_Zq C n d A U H) (hq : ∀ a : Nat, a < H.size → ¬ A a → H1[a]? = H[a]?) : vx_Zq C n d A U H1 := ⟨va_Zq.kept h.1 hq, vx_L.kept h.2 hq⟩
theorem vx_Zq.narrow {C n d : String} {A B : Nat → Prop} {U : State} {H : Heap} (h : vx_Zq C n d A U H) (hAB : ∀ q, B q → A q) : vx_Zq C n d B U H := ⟨va_Zq.narrow h.1 hAB, vx_L.narrow h.2 hAB⟩
theorem vx_Zqof {args : Array Value} {s : State} {C n d : String} {A : Nat → Prop} (hl : (Cond.laysStatic C n d).before args s = true) (hini : (Cond.initialized C).before args s = true) (h : (Cond.isRef (.static C n d)).before args s = true) (hA : ∀ a : Nat, a < s.heap.size → ¬ A a) : vx_Zq C n d A s s.heap := by
  refine ⟨va_Zqof hl hini h hA, ?_⟩
  obtain ⟨c, k, i, f, a, cell, h1, h2, h3, h4, h5, h6, h7, h8, h9⟩ := Cond.laysStatic_spec hl
  exact ⟨c, k, i, f, a, cell, h1, h2, h3, h4, h5, h6, h7, h8, h9, hA a (Array.getElem?_eq_some_iff.mp h5).1⟩
theorem vx_isRef {C n d : String} {v : Value} {A : Nat → Prop} {s : State} {args : Array Value} (h : va_Z C n d v A s s.heap) (hv : v.isRef = true) : (Cond.isRef (.static C n d)).before args s = true := by
  obtain ⟨cf, kf, fi, f, a, cell, h1, h2, h3, h4, h5, h6, h7, -⟩ := h
  have he : (Term.static C n d).eval args s none [] s = some v := by
    simp [Term.eval, State.fieldNamed?, h1, h2, h4, h5, h6, h7]
  simp only [Cond.before, Cond.holds, Cond.value, he]
  cases v <;> simp_all [Value.isRef]
theorem vx_isRefq {C n d : String} {A : Nat → Prop} {s : State} {args : Array Value} (h : va_Zq C n d A s s.heap) : (Cond.isRef (.static C n d)).before args s = true := by
  rcases h with h | ⟨t, h⟩
  · exact vx_isRef h rfl
  · exact vx_isRef h rfl
/-- the same frame, seen from here: as if the method were called anew in this heap -/
theorem vx_rebase {T : State} (X : Stand p l e R s m args below meth c T locs cells slots) {R' : Room} (hf : R'.frames ≤ R.frames) (hl : R'.locals ≤ R.locals) (hc : cells + R'.cells ≤ R.cells) (hs : slots + R'.slots ≤ R.slots) :
    Stand p l e R' ((T.setVm s.vm).setFrames (.invoking m args :: below)) m args below meth c T [] 0 0 := by
  have htop : (T.setVm s.vm).topJava?.isSome := X.here.top
  have hF : ((T.setVm s.vm).setFrames (.invoking m args :: below)).frames = .invoking m args :: below := State.frames_setFrames _ (State.cur_lt_of_top htop)
  obtain ⟨g₀, hg0⟩ := Option.isSome_iff_exists.mp htop
  obtain ⟨r, hr⟩ := State.topJava?_eq_some.mp hg0
  have hl9 : e.platform.stackLimits (T.setVm s.vm).me = e.platform.stackLimits s.me := X.limits
  have hb9 : (T.setVm s.vm).me.stackBytes = s.me.stackBytes := X.bytes
  refine ⟨X.admits, X.cas, X.clock, hF, ?_, X.hears, X.method, X.code, X.here, X.tail, X.warmed, ?_, ?_, ?_⟩
  · have h := X.room
    have hU : ((T.setVm s.vm).setFrames (.invoking m args :: below)).localsInUse = s.localsInUse := by
      rw [State.localsInUse_invoking hF (meth := meth) (c := c) X.method X.code, State.localsInUse_invoking X.frames X.method X.code]
    simp only [State.hasRoom, Bool.and_eq_true, decide_eq_true_eq] at h ⊢
    obtain ⟨⟨⟨⟨h1, h2, h3, h4, h5, h6⟩, h7⟩, h8⟩, h9⟩ := h
    rw [X.frames, List.length_cons] at h2 h3
    have q1 := X.heapSize
    have q2 := X.used
    simp only [hF, hU, List.length_cons, State.stackLimits_setFrames, State.stackBytes_setFrames, hl9, hb9]
    refine ⟨⟨⟨⟨by omega, by omega, by omega, by omega, by omega, h6⟩, ?_⟩, ?_⟩, X.book⟩
    · show T.heap.size + R'.cells ≤ e.platform.maxCells
      omega
    · show T.slotsUsed + R'.slots ≤ e.platform.maxSlots
      omega
  · rw [State.stackLimits_setFrames]; rfl
  · rw [State.stackBytes_setFrames]; rfl
  · refine ⟨?_, Nat.le_refl _, Nat.le_refl _, ?_, ?_, fun a c9 h9 => ⟨c9, h9, rfl, rfl, fun _ _ => rfl⟩⟩
    · obtain ⟨t, ht, -⟩ := State.frames_cons hr
      show T.setVm s.vm = { ((T.setVm s.vm).setFrames (.invoking m args :: below)).setFrames (T.setVm s.vm).frames with heap := T.heap, slotsUsed := T.slotsUsed }
      rw [State.setFrames_setFrames, State.setFrames_self ht]
      rfl
    · show T.slotsUsed = T.slotsUsed + ((T.heap.toList.drop T.heap.size).map (·.slots.size)).sum
      rw [List.drop_eq_nil_of_le (Nat.le_of_eq Array.length_toList)]
      rfl
    · show ((T.heap.toList.drop T.heap.size).map (·.slots.size)).sum ≤ 0
      rw [List.drop_eq_nil_of_le (Nat.le_of_eq Array.length_toList)]
      exact Nat.le_refl _
/-- 'throw new E()': new; dup; invokespecial; athrow -/
theorem vx_throw0 {cc : ByteArray} {pc : Nat} (hexec : p.tables.exec = Jvm.exec) (hb : c.code = cc) (hl : l.stackTraces = false) {own cls : String} {names : List String} {ik ic mc ms : Nat} {A : Nat → Prop}
    (hown : s.vm.findClass own = some m.cls) (hcls : Bundle.fit cls = true) (hnames : ∀ n ∈ names, Bundle.fit n = true)
    (hk : (Cond.classLink own ik cls).before args s = true) (hini : (Cond.initialized cls).before args s = true) (hat : ∀ w ∈ vx_at0 own ic cls names, w.before args s = true)
    (hgood : ∀ w ∈ Cond.classLink own ik cls :: Cond.initialized cls :: vx_at0 own ic cls names, vx_ot w = true)
    (hU : vx_Zq Bundle.tN "UNASSIGNED_STACK" Bundle.steD A s s.heap) (hN : vx_Zq Bundle.tN "SUPPRESSED_SENTINEL" Bundle.listD A s s.heap) (hS : va_S A s.heap H locs) (hsize : ls.size = c.maxLocals)
    (d0 : decode cc pc = .ok (.new ik, 3)) (d3 : decode cc (pc + 3) = .ok (.dup, 1)) (d4 : decode cc (pc + 4) = .ok (.invokespecial ic, 3)) (d7 : decode cc (pc + 7) = .ok (.athrow, 1))
    (hout : ∀ x ∈ c.exceptionTable.toList, covers x (pc + 7) = false)
    (hRframes : names.length + 3 < R.frames) (hRlocals : (rest.map fun v => v.category).sum + (13 * (names.length + 1) + 42) ≤ R.locals) (hRcells : cells + 1 ≤ R.cells) (hRslots : slots + 6 ≤ R.slots) (hlocks : meth.locks = false)
    (hx : ∀ t : State, s.vm.Alike t.vm → H.size ≤ t.heap.size → (∀ q : Nat, q < H.size → t.heap[q]? = H[q]?) → XC cls s t)
    (hf : ∀ z ∈ locs, free z.base) (hc : cells + 1 ≤ mc) (hs : slots + 6 ≤ ms) :
    W p l e R s m args below meth c H locs cells slots (vx_MQ below Qc XC args s mc ms free) (F0 m pc ls rest) := by
  intro T hT X
  have htr : e.platform.stackTraces = false := (show e.platform.stackTraces = l.stackTraces by rw [X.admits.platform]).trans hl
  have Y := vx_rebase X (R' := { frames := R.frames, locals := R.locals, cells := 1, slots := 6 }) (Nat.le_refl _) (Nat.le_refl _) hRcells hRslots
  obtain ⟨s', hA⟩ : ∃ z, z = (T.setVm s.vm).setFrames (.invoking m args :: below) := ⟨_, rfl⟩
  rw [← hA] at Y
  have hvm : s'.vm = s.vm := by rw [hA]; rfl
  have hhp : s'.heap = H := by rw [hA]; exact hT
  have hW0 : s.WarmedH s'.vm := by rw [hvm]; exact State.WarmedH.refl s
  have hat' : ∀ w ∈ vx_at0 own ic cls names, w.before args s' = true := fun w hw => vx_ot_at hW0 hvm.symm (hgood w (List.mem_cons_of_mem _ (List.mem_cons_of_mem _ hw))) (hat w hw)
  have hk' : (Cond.classLink own ik cls).before args s' = true := vx_ot_at hW0 hvm.symm (hgood _ List.mem_cons_self) hk
  have hini' : (Cond.initialized cls).before args s' = true := vx_ot_at hW0 hvm.symm (hgood _ (List.mem_cons_of_mem _ List.mem_cons_self)) hini
  have hU' : vx_Zq Bundle.tN "UNASSIGNED_STACK" Bundle.steD A s' s'.heap := by rw [hhp]; exact vx_Zq.moved hW0.alike (hU.kept hS.2.1)
  have hN' : vx_Zq Bundle.tN "SUPPRESSED_SENTINEL" Bundle.listD A s' s'.heap := by rw [hhp]; exact vx_Zq.moved hW0.alike (hN.kept hS.2.1)
  have h : ∀ w ∈ Bundle.ownAtoms0 own ic cls names, w.before args s' = true := vx_own hat' (vx_isRefq hU'.1) (vx_isRefq hN'.1) hU'.2.word hN'.2.word
  have hown' : s'.vm.findClass own = some m.cls := by rw [hvm]; exact hown
  have hins : (Cond.instantiable cls 6).before args s' = true := h _ (by simp [Bundle.ownAtoms0])
  obtain ⟨vm₁, cX, kX, hfX, hkX, -, -, X₁, st1⟩ := Y.newCold hexec (own := own) (C := cls) (index := ik) (n := 6) hown' hk' hins hini'
    (g := F0 m pc ls rest) rfl (by rw [hb]; exact d0) (Nat.le_refl _) (Nat.le_refl _)
  generalize hT1 : (T.setVm vm₁).pushCell { cls := cX, slots := kX.instanceTypes.map defaultValue, vm := .none } = T1 at X₁ st1
  have hcat : (Value.ref T.heap.size).category = 1 := rfl
  have hcellA : T1.heap[T.heap.size]? = some (freshCell cX kX) := by rw [← hT1]; exact State.heap_pushCell_size _ _
  have d3' : decode c.code (pc + 3) = .ok (.dup, 1) := by rw [hb]; exact d3
  obtain ⟨U, hsteps, hrun, hend, hW, hsame, ce, hce, hO⟩ := X₁.ctorThrow0 hexec htr (own := own) (cls := cls) (names := names) (ic := ic) hown' hcls hnames h (fun x hx => nomatch hx) hfX hkX hcellA (by rw [hhp, hT]; exact Nat.le_refl _)
    (g := { method := m, pc := pc + 4, locals := ls, stack := .ref T.heap.size :: .ref T.heap.size :: rest, locked := none }) rfl hsize rfl rfl (rest := rest) rfl
    (by rw [hb]; exact d4) (by rw [hb]; exact d7) hout hRframes (by simp only [List.map_cons, List.sum_cons, hcat]; omega) hlocks
  obtain ⟨f1, f2⟩ := vx_frame hsame
  rw [hhp] at f1 f2
  have hWs : s.WarmedH U.vm := State.WarmedH.trans hW0 hW
  have hcl : s.vm.findClass cls = some ce.cls := by
    have h9 := hO.cls
    rw [hvm] at h9
    exact h9
  have hall : s.sameButNew ({ U with vm := s.vm } : State) locs mc ms := by
    subst hA
    obtain ⟨e1, e2⟩ := hsame
    rw [State.setFrames_setFrames] at e1
    have h2 : (T.setVm s.vm).sameButNew ({ U with vm := s.vm } : State) [] (0 + 1) (0 + 6) := ⟨e1, e2⟩
    have h3 := X.same.trans h2
    rw [List.append_nil] at h3
    exact h3.mono hc hs
  refine ⟨U, ?_, .threw T.heap.size, hrun, hend, Or.inr ⟨T.heap.size, rfl, cls, ce, locs, hx U hWs.alike f1 (fun q hq => f2 q hq (fun z hz => nomatch hz)), hce, hO.vm, hcl, hWs, hall, hf⟩⟩
  refine st1 _ ?_
  show Steps p.tables e below (T1.setTop { method := m, pc := pc + 3, locals := ls, stack := .ref T.heap.size :: rest, locked := none }) _
  jvm_step X₁.here [X₁.here.top, hexec, d3', Value.category]
  exact hsteps
/-- 'throw new E("text")': new; dup; ldc; invokespecial; athrow -/
theorem vx_throwS {cc : ByteArray} {pc : Nat} (hexec : p.tables.exec = Jvm.exec) (hb : c.code = cc) (hl : l.stackTraces = false) {own cls text : String} {names : List String} {ik is ic mc ms sa : Nat} {A : Nat → Prop}
    (hown : s.vm.findClass own = some m.cls) (hcls : Bundle.fit cls = true) (hnames : ∀ n ∈ names, Bundle.fit n = true)
    (hk : (Cond.classLink own ik cls).before args s = true) (hini : (Cond.initialized cls).before args s = true) (hstr : vk_R own is text sa s) (hat : ∀ w ∈ vx_atS own ic cls names, w.before args s = true)
    (hgood : ∀ w ∈ Cond.classLink own ik cls :: Cond.initialized cls :: vx_atS own ic cls names, vx_ot w = true)
    (hU : vx_Zq Bundle.tN "UNASSIGNED_STACK" Bundle.steD A s s.heap) (hN : vx_Zq Bundle.tN "SUPPRESSED_SENTINEL" Bundle.listD A s s.heap) (hS : va_S A s.heap H locs) (hsize : ls.size = c.maxLocals)
    (d0 : decode cc pc = .ok (.new ik, 3)) (d3 : decode cc (pc + 3) = .ok (.dup, 1)) (d4 : decode cc (pc + 4) = .ok (.ldc is, 2)) (d6 : decode cc (pc + 6) = .ok (.invokespecial ic, 3)) (d9 : decode cc (pc + 9) = .ok (.athrow, 1))
    (hout : ∀ x ∈ c.exceptionTable.toList, covers x (pc + 9) = false)
    (hRframes : names.length + 3 < R.frames) (hRlocals : (rest.map fun v => v.category).sum + (13 * (names.length + 1) + 43) ≤ R.locals) (hRcells : cells + 1 ≤ R.cells) (hRslots : slots + 6 ≤ R.slots) (hlocks : meth.locks = false)
    (hx : ∀ t : State, s.vm.Alike t.vm → H.size ≤ t.heap.size → (∀ q : Nat, q < H.size → t.heap[q]? = H[q]?) → XC cls s t)
    (hf : ∀ z ∈ locs, free z.base) (hc : cells + 1 ≤ mc) (hs : slots + 6 ≤ ms) :
    W p l e R s m args below meth c H locs cells slots (vx_MQ below Qc XC args s mc ms free) (F0 m pc ls rest) := by
  intro T hT X
  have htr : e.platform.stackTraces = false := (show e.platform.stackTraces = l.stackTraces by rw [X.admits.platform]).trans hl
  have Y := vx_rebase X (R' := { frames := R.frames, locals := R.locals, cells := 1, slots := 6 }) (Nat.le_refl _) (Nat.le_refl _) hRcells hRslots
  obtain ⟨s', hA⟩ : ∃ z, z = (T.setVm s.vm).setFrames (.invoking m args :: below) := ⟨_, rfl⟩
  rw [← hA] at Y
  have hvm : s'.vm = s.vm := by rw [hA]; rfl
  have hhp : s'.heap = H := by rw [hA]; exact hT
  have hW0 : s.WarmedH s'.vm := by rw [hvm]; exact State.WarmedH.refl s
  have hat' : ∀ w ∈ vx_atS own ic cls names, w.before args s' = true := fun w hw => vx_ot_at hW0 hvm.symm (hgood w (List.mem_cons_of_mem _ (List.mem_cons_of_mem _ hw))) (hat w hw)
  have hk' : (Cond.classLink own ik cls).before args s' = true := vx_ot_at hW0 hvm.symm (hgood _ List.mem_cons_self) hk
  have hini' : (Cond.initialized cls).before args s' = true := vx_ot_at hW0 hvm.symm (hgood _ (List.mem_cons_of_mem _ List.mem_cons_self)) hini
  have hU' : vx_Zq Bundle.tN "UNASSIGNED_STACK" Bundle.steD A s' s'.heap := by rw [hhp]; exact vx_Zq.moved hW0.alike (hU.kept hS.2.1)
  have hN' : vx_Zq Bundle.tN "SUPPRESSED_SENTINEL" Bundle.listD A s' s'.heap := by rw [hhp]; exact vx_Zq.moved hW0.alike (hN.kept hS.2.1)
  have h : ∀ w ∈ Bundle.ownAtoms own ic cls names, w.before args s' = true := vx_own hat' (vx_isRefq hU'.1) (vx_isRefq hN'.1) hU'.2.word hN'.2.word
  have hown' : s'.vm.findClass own = some m.cls := by rw [hvm]; exact hown
  have hins : (Cond.instantiable cls 6).before args s' = true := h _ (by simp [Bundle.ownAtoms])
  obtain ⟨vm₁, cX, kX, hfX, hkX, -, -, X₁, st1⟩ := Y.newCold hexec (own := own) (C := cls) (index := ik) (n := 6) hown' hk' hins hini'
    (g := F0 m pc ls rest) rfl (by rw [hb]; exact d0) (Nat.le_refl _) (Nat.le_refl _)
  generalize hT1 : (T.setVm vm₁).pushCell { cls := cX, slots := kX.instanceTypes.map defaultValue, vm := .none } = T1 at X₁ st1
  have hcat : (Value.ref T.heap.size).category = 1 := rfl
  have hcellA : T1.heap[T.heap.size]? = some (freshCell cX kX) := by rw [← hT1]; exact State.heap_pushCell_size _ _
  have d3' : decode c.code (pc + 3) = .ok (.dup, 1) := by rw [hb]; exact d3
  have d4' : decode c.code (pc + 4) = .ok (.ldc is, 2) := by rw [hb]; exact d4
  have hstr' : vk_R own is text sa s' := vk_R.warm hW0 hstr
  obtain ⟨U, hsteps, hrun, hend, hW, hsame, ce, hce, hO⟩ := X₁.ctorThrowS hexec htr (own := own) (cls := cls) (names := names) (ic := ic) hown' hcls hnames h (fun x hx => nomatch hx) hfX hkX hcellA (by rw [hhp, hT]; exact Nat.le_refl _) (msg := .ref sa) rfl
    (g := { method := m, pc := pc + 6, locals := ls, stack := .ref sa :: .ref T.heap.size :: .ref T.heap.size :: rest, locked := none }) rfl hsize rfl rfl (rest := rest) rfl
    (by rw [hb]; exact d6) (by rw [hb]; exact d9) hout hRframes (by simp only [List.map_cons, List.sum_cons, hcat]; omega) hlocks
  obtain ⟨f1, f2⟩ := vx_frame hsame
  rw [hhp] at f1 f2
  have hWs : s.WarmedH U.vm := State.WarmedH.trans hW0 hW
  have hcl : s.vm.findClass cls = some ce.cls := by
    have h9 := hO.cls
    rw [hvm] at h9
    exact h9
  have hall : s.sameButNew ({ U with vm := s.vm } : State) locs mc ms := by
    subst hA
    obtain ⟨e1, e2⟩ := hsame
    rw [State.setFrames_setFrames] at e1
    have h2 : (T.setVm s.vm).sameButNew ({ U with vm := s.vm } : State) [] (0 + 1) (0 + 6) := ⟨e1, e2⟩
    have h3 := X.same.trans h2
    rw [List.append_nil] at h3
    exact h3.mono hc hs
  refine ⟨U, ?_, .threw T.heap.size, hrun, hend, Or.inr ⟨T.heap.size, rfl, cls, ce, locs, hx U hWs.alike f1 (fun q hq => f2 q hq (fun z hz => nomatch hz)), hce, hO.vm, hcl, hWs, hall, hf⟩⟩
  refine st1 _ ?_
  show Steps p.tables e below (T1.setTop { method := m, pc := pc + 3, locals := ls, stack := .ref T.heap.size :: rest, locked := none }) _
  jvm_step X₁.here [X₁.here.top, hexec, d3', Value.category]
  exact X₁.ldcString hexec (own := own) (text := text) (index := is) (a := sa) hown' hstr'.1 hstr'.2
    (g := { method := m, pc := pc + 4, locals := ls, stack := .ref T.heap.size :: .ref T.heap.size :: rest, locked := none }) rfl d4' _ hsteps
/-- 'throw new E("text")', the text by a wide index -/
theorem vx_throwSW {cc : ByteArray} {pc : Nat} (hexec : p.tables.exec = Jvm.exec) (hb : c.code = cc) (hl : l.stackTraces = false) {own cls text : String} {names : List String} {ik is ic mc ms sa : Nat} {A : Nat → Prop}
    (hown : s.vm.findClass own = some m.cls) (hcls : Bundle.fit cls = true) (hnames : ∀ n ∈ names, Bundle.fit n = true)
    (hk : (Cond.classLink own ik cls).before args s = true) (hini : (Cond.initialized cls).before args s = true) (hstr : vk_R own is text sa s) (hat : ∀ w ∈ vx_atS own ic cls names, w.before args s = true)
    (hgood : ∀ w ∈ Cond.classLink own ik cls :: Cond.initialized cls :: vx_atS own ic cls names, vx_ot w = true)
    (hU : vx_Zq Bundle.tN "UNASSIGNED_STACK" Bundle.steD A s s.heap) (hN : vx_Zq Bundle.tN "SUPPRESSED_SENTINEL" Bundle.listD A s s.heap) (hS : va_S A s.heap H locs) (hsize : ls.size = c.maxLocals)
    (d0 : decode cc pc = .ok (.new ik, 3)) (d3 : decode cc (pc + 3) = .ok (.dup, 1)) (d4 : decode cc (pc + 4) = .ok (.ldc_w is, 3)) (d7 : decode cc (pc + 7) = .ok (.invokespecial ic, 3)) (d10 : decode cc (pc + 10) = .ok (.athrow, 1))
    (hout : ∀ x ∈ c.exceptionTable.toList, covers x (pc + 10) = false)
    (hRframes : names.length + 3 < R.frames) (hRlocals : (rest.map fun v => v.category).sum + (13 * (names.length + 1) + 43) ≤ R.locals) (hRcells : cells + 1 ≤ R.cells) (hRslots : slots + 6 ≤ R.slots) (hlocks : meth.locks = false)
    (hx : ∀ t : State, s.vm.Alike t.vm → H.size ≤ t.heap.size → (∀ q : Nat, q < H.size → t.heap[q]? = H[q]?) → XC cls s t)
    (hf : ∀ z ∈ locs, free z.base) (hc : cells + 1 ≤ mc) (hs : slots + 6 ≤ ms) :
    W p l e R s m args below meth c H locs cells slots (vx_MQ below Qc XC args s mc ms free) (F0 m pc ls rest) := by
  intro T hT X
  have htr : e.platform.stackTraces = false := (show e.platform.stackTraces = l.stackTraces by rw [X.admits.platform]).trans hl
  have Y := vx_rebase X (R' := { frames := R.frames, locals := R.locals, cells := 1, slots := 6 }) (Nat.le_refl _) (Nat.le_refl _) hRcells hRslots
  obtain ⟨s', hA⟩ : ∃ z, z = (T.setVm s.vm).setFrames (.invoking m args :: below) := ⟨_, rfl⟩
  rw [← hA] at Y
  have hvm : s'.vm = s.vm := by rw [hA]; rfl
  have hhp : s'.heap = H := by rw [hA]; exact hT
  have hW0 : s.WarmedH s'.vm := by rw [hvm]; exact State.WarmedH.refl s
  have hat' : ∀ w ∈ vx_atS own ic cls names, w.before args s' = true := fun w hw => vx_ot_at hW0 hvm.symm (hgood w (List.mem_cons_of_mem _ (List.mem_cons_of_mem _ hw))) (hat w hw)
  have hk' : (Cond.classLink own ik cls).before args s' = true := vx_ot_at hW0 hvm.symm (hgood _ List.mem_cons_self) hk
  have hini' : (Cond.initialized cls).before args s' = true := vx_ot_at hW0 hvm.symm (hgood _ (List.mem_cons_of_mem _ List.mem_cons_self)) hini
  have hU' : vx_Zq Bundle.tN "UNASSIGNED_STACK" Bundle.steD A s' s'.heap := by rw [hhp]; exact vx_Zq.moved hW0.alike (hU.kept hS.2.1)
  have hN' : vx_Zq Bundle.tN "SUPPRESSED_SENTINEL" Bundle.listD A s' s'.heap := by rw [hhp]; exact vx_Zq.moved hW0.alike (hN.kept hS.2.1)
  have h : ∀ w ∈ Bundle.ownAtoms own ic cls names, w.before args s' = true := vx_own hat' (vx_isRefq hU'.1) (vx_isRefq hN'.1) hU'.2.word hN'.2.word
  have hown' : s'.vm.findClass own = some m.cls := by rw [hvm]; exact hown
  have hins : (Cond.instantiable cls 6).before args s' = true := h _ (by simp [Bundle.ownAtoms])
  obtain ⟨vm₁, cX, kX, hfX, hkX, -, -, X₁, st1⟩ := Y.newCold hexec (own := own) (C := cls) (index := ik) (n := 6) hown' hk' hins hini'
    (g := F0 m pc ls rest) rfl (by rw [hb]; exact d0) (Nat.le_refl _) (Nat.le_refl _)
  generalize hT1 : (T.setVm vm₁).pushCell { cls := cX, slots := kX.instanceTypes.map defaultValue, vm := .none } = T1 at X₁ st1
  have hcat : (Value.ref T.heap.size).category = 1 := rfl
  have hcellA : T1.heap[T.heap.size]? = some (freshCell cX kX) := by rw [← hT1]; exact State.heap_pushCell_size _ _
  have d3' : decode c.code (pc + 3) = .ok (.dup, 1) := by rw [hb]; exact d3
  have d4' : decode c.code (pc + 4) = .ok (.ldc_w is, 3) := by rw [hb]; exact d4
  have hstr' : vk_R own is text sa s' := vk_R.warm hW0 hstr
  obtain ⟨U, hsteps, hrun, hend, hW, hsame, ce, hce, hO⟩ := X₁.ctorThrowS hexec htr (own := own) (cls := cls) (names := names) (ic := ic) hown' hcls hnames h (fun x hx => nomatch hx) hfX hkX hcellA (by rw [hhp, hT]; exact Nat.le_refl _) (msg := .ref sa) rfl
    (g := { method := m, pc := pc + 7, locals := ls, stack := .ref sa :: .ref T.heap.size :: .ref T.heap.size :: rest, locked := none }) rfl hsize rfl rfl (rest := rest) rfl
    (by rw [hb]; exact d7) (by rw [hb]; exact d10) hout hRframes (by simp only [List.map_cons, List.sum_cons, hcat]; omega) hlocks
  obtain ⟨f1, f2⟩ := vx_frame hsame
  rw [hhp] at f1 f2
  have hWs : s.WarmedH U.vm := State.WarmedH.trans hW0 hW
  have hcl : s.vm.findClass cls = some ce.cls := by
    have h9 := hO.cls
    rw [hvm] at h9
    exact h9
  have hall : s.sameButNew ({ U with vm := s.vm } : State) locs mc ms := by
    subst hA
    obtain ⟨e1, e2⟩ := hsame
    rw [State.setFrames_setFrames] at e1
    have h2 : (T.setVm s.vm).sameButNew ({ U with vm := s.vm } : State) [] (0 + 1) (0 + 6) := ⟨e1, e2⟩
    have h3 := X.same.trans h2
    rw [List.append_nil] at h3
    exact h3.mono hc hs
  refine ⟨U, ?_, .threw T.heap.size, hrun, hend, Or.inr ⟨T.heap.size, rfl, cls, ce, locs, hx U hWs.alike f1 (fun q hq => f2 q hq (fun z hz => nomatch hz)), hce, hO.vm, hcl, hWs, hall, hf⟩⟩
  refine st1 _ ?_
  show Steps p.tables e below (T1.setTop { method := m, pc := pc + 3, locals := ls, stack := .ref T.heap.size :: rest, locked := none }) _
  jvm_step X₁.here [X₁.here.top, hexec, d3', Value.category]
  exact X₁.ldcStringW hexec (own := own) (text := text) (index := is) (a := sa) hown' hstr'.1 hstr'.2
    (g := { method := m, pc := pc + 4, locals := ls, stack := .ref T.heap.size :: .ref T.heap.size :: rest, locked := none }) rfl d4' _ hsteps
end Ends
section Bodies
variable {l : Launch}
theorem vx_ofW {y : MethodName} {ws ws' : List Cond} {rm : Room} {Pc : Array Value → State → Prop} {Qc : Array Value → State → Outcome → State → Prop} {XC : String → State → State → Prop} {mc ms : Nat} {free : Addr → Prop} {cc : ByteArray} {maxL : Nat} {ret : Option FieldType}
    (hy : plainName y.cls = true) (hw : ws = Cond.code y cc maxL ret :: ws')
    (body : ∀ p e s m args below meth c s₁, BodyLoose p l y (headSpec ws rm) cc maxL ret e s m args below meth c s₁ → c.maxLocals = maxL → (∀ x ∈ c.exceptionTable.toList, False) → Pc args s →
      W p l e (headSpec ws rm).room s m args below meth c s.heap [] 0 0 (vx_MQ below Qc XC args s mc ms free) (entryFrame m args maxL)) : vx_Met l y ws rm Pc Qc XC mc ms free := by
  refine MetFree.of_bodyS (code := cc) (maxLocals := maxL) (ret := ret) hy ?_ ?_
  · intro args s m h hn
    obtain ⟨meth, c, h1, h2, h3, h4, h5, h6, -, -⟩ := Cond.code_spec hn (atoms_spec (ws := ws) h _ (by rw [hw]; exact List.mem_cons_self))
    exact ⟨meth, c, h1, h2, h3, h4, h5, h6⟩
  · intro p e s m args below meth c s₁ B hml hP _
    have hh0 : s₁.heap = s.heap := by rw [B.state]; rfl
    have ht : ∀ x ∈ c.exceptionTable.toList, False := by
      obtain ⟨meth9, c9, h1, h2, -, -, -, -, h7, -⟩ := Cond.code_spec B.named (atoms_spec (ws := ws) B.pre _ (by rw [hw]; exact List.mem_cons_self))
      cases Option.some.inj (h1.symm.trans B.method)
      cases Option.some.inj (h2.symm.trans (Stand.of_body B).code)
      intro x hx
      rw [Array.isEmpty_iff.mp h7] at hx
      cases hx
    obtain ⟨t, a1, o, b1, b2, b3⟩ := body p e s m args below meth c s₁ B hml ht hP s₁ hh0 (Stand.of_body B)
    exact ⟨t, o, a1, b1, b2, b3⟩
/-- the table of a body with handlers -/
theorem vx_table {p : Program} {x y : MethodName} {S : Spec} {cc bytes : ByteArray} {maxL maxL' : Nat} {ret ret' : Option FieldType} {e : Env} {s s₁ : State} {m : MethodId} {args : Array Value} {below : List Frame} {meth : Method} {c : Code} {hh : List (Nat × Nat × Nat × Nat)}
    (B : BodyLoose p l y S cc maxL ret e s m args below meth c s₁) (h : (Cond.codeWith y bytes maxL' ret' hh).before args s = true) : c.exceptionTable.toList = tableOf hh := by
  obtain ⟨m9, meth9, c9, hn9, h1, h2, -, -, h6, -⟩ := Cond.codeWith_spec h
  cases Option.some.inj (hn9.symm.trans B.named)
  cases Option.some.inj (h1.symm.trans B.method)
  cases Option.some.inj (h2.symm.trans (Stand.of_body B).code)
  rw [← h6, table_eq]
end Bodies
end VXA
/-! ===== END ===== -/
/-! ===== BEGIN a static call of a method with an exception table ===== -/
section VXS
variable {p : Program} {l : Launch} {e : Env} {R : Room} {s : State} {m : MethodId} {args : Array Value} {below : List Frame} {meth : Method} {c : Code} {T : State} {H : Heap} {locs : List Loc} {cells slots : Nat}
abbrev vx_CSW (R : Room) (s : State) (args : Array Value) (own : String) (index : Nat) (y : MethodName) (bytes : ByteArray) (maxL : Nat) (ret : Option FieldType) (hh : List (Nat × Nat × Nat × Nat)) (ws : List Cond) (rm : Room) (mc ms n : Nat) : Prop :=
  (rm.cells = mc ∧ rm.slots = ms ∧ rm.frames + 1 ≤ R.frames ∧ 8 + (maxL + 11) + rm.locals ≤ R.locals ∧ (∀ w ∈ ws, ∀ (a' : Array Value) (U : State), s.WarmedH U.vm → w.before a' U = true) ∧ Cond.codeWith y bytes maxL ret hh ∈ ws) ∧
  (Cond.codeWith y bytes maxL ret hh).before args s = true ∧ (Cond.initialized y.cls).before args s = true ∧ (y.cls ≠ "java/lang/invoke/MethodHandle" ∧ y.cls ≠ "java/lang/invoke/VarHandle") ∧
  (∀ sig, parseMethodDescriptor y.desc = some sig → n = sig.parameters.length) ∧ (Cond.methodLink own index y).before args s = true ∧ (Cond.static y).before args s = true
theorem vx_cwSW {own : String} {index maxL mc ms : Nat} {y : MethodName} {bytes : ByteArray} {ret : Option FieldType} {hh : List (Nat × Nat × Nat × Nat)} {Ts ws ws' : List Cond} {rm : Room} (n : Nat) (ht : ∀ w ∈ Ts, w.before args s = true) (hT : GoodIn Ts (va_wsS own index y ws)) (hw : ws = Cond.codeWith y bytes maxL ret hh :: ws') (hrc : rm.cells = mc) (hrs : rm.slots = ms)
    (hd : y.cls ≠ "java/lang/invoke/MethodHandle" ∧ y.cls ≠ "java/lang/invoke/VarHandle" ∧ (parseMethodDescriptor y.desc).map (fun d => d.parameters.length) = some n) (hR : rm.frames + 1 ≤ R.frames ∧ 8 + (maxL + 11) + rm.locals ≤ R.locals) :
    vx_CSW R s args own index y bytes maxL ret hh ws rm mc ms n := by
  have ok : ∀ w ∈ va_wsS own index y ws, w.before args s = true := fun w h => ht w (hT w h).1
  have hG : GoodIn Ts ws := fun w h => hT w (by unfold va_wsS; exact List.mem_append_right _ h)
  have hc : Cond.codeWith y bytes maxL ret hh ∈ ws := by rw [hw]; exact List.mem_cons_self
  refine ⟨⟨hrc, hrs, hR.1, hR.2, pay_in ht hG, hc⟩, ht _ (hG _ hc).1, ok _ (by simp [va_wsS]), ⟨hd.1, hd.2.1⟩, fun sig h => ?_, ok _ (by simp [va_wsS]), ok _ (by simp [va_wsS])⟩
  have h2 := hd.2.2
  rw [h] at h2
  exact (Option.some.inj h2).symm
theorem vx_callSW (X : Stand p l e R s m args below meth c T locs cells slots) (hexec : p.tables.exec = Jvm.exec) {own : String} {index : Nat} {y : MethodName} {bytes : ByteArray} {maxL : Nat} {ret : Option FieldType} {hh : List (Nat × Nat × Nat × Nat)}
    (hown : s.vm.findClass own = some m.cls) (hlink : (Cond.methodLink own index y).before args s = true) (hstat : (Cond.static y).before args s = true) (hinit : (Cond.initialized y.cls).before args s = true)
    (hcode : (Cond.codeWith y bytes maxL ret hh).before args s = true) (hy : y.cls ≠ "java/lang/invoke/MethodHandle" ∧ y.cls ≠ "java/lang/invoke/VarHandle")
    {W9 : Nat} {Pre : Pt → Array Value → Prop} {Post : Pt → Array Value → Option Value → Pt → Prop} (hK : Back l R p e below s args y 3 W9 Pre Post)
    {g : JFrame} (hg : g.method = m) (hsize : g.locals.size = c.maxLocals) {argsL rest : List Value} (hlen : ∀ sig, parseMethodDescriptor y.desc = some sig → argsL.length = sig.parameters.length)
    (hstack : g.stack = argsL.reverse ++ rest) (hW : 2 * g.monitorRoom + (rest.map fun v => v.category).sum ≤ W9) (hdg : decode c.code g.pc = .ok (.invokestatic index, 3))
    (hpre : ∀ vm₁, s.WarmedH vm₁ → Pre ⟨T.setVm vm₁, locs, cells, slots⟩ argsL.toArray) :
    ∃ (v : Option Value) (vm₁ : Vm) (B : Pt), s.WarmedH vm₁ ∧ Stand p l e R s m args below meth c B.U B.locs B.cells B.slots ∧ Post ⟨T.setVm vm₁, locs, cells, slots⟩ argsL.toArray v B ∧
      ∀ target, Steps p.tables e below (B.U.setTop { g with pc := g.pc + 3, stack := v.toList ++ rest }) target → Steps p.tables e below (T.setTop g) target := by
  obtain ⟨mk, methM, cM, hnamed, hmethM, -, -, -, -, -, -, hsigM⟩ := Cond.codeWith_spec hcode
  have hstatic : methM.isStatic = true := Cond.static_spec hnamed hmethM hstat
  obtain ⟨kP, hkP, -⟩ := className_of_methodNamed hnamed
  have hinitP : kP.init = .initialized := Cond.initialized_spec (findClass_of_methodNamed hnamed) hkP hinit
  obtain ⟨vm₁, X₁, hstep₁⟩ := X.invokestatic hexec hown hlink hnamed hmethM hstatic hkP hinitP hy (g := g) hg (argsL := argsL) (rest := rest) (hlen _ hsigM) hstack hdg
  obtain ⟨v, B, X', hpost, hsteps⟩ := hK m meth c ⟨T.setVm vm₁, locs, cells, slots⟩ { g with stack := rest } (.invokestatic index) mk argsL.toArray X₁ hg hsize hdg hW (X₁.named hnamed) (hpre vm₁ X₁.warmed)
  exact ⟨v, vm₁, B, X₁.warmed, X', hpost, fun target h => hstep₁ _ fun acts => by rw [doInvoke_state]; exact hsteps.trans h⟩
theorem vx_runSW {y : MethodName} {bytes cc : ByteArray} {maxL nL mc ms n index : Nat} {ret : Option FieldType} {hh : List (Nat × Nat × Nat × Nat)} {ws : List Cond} {rm : Room} {Pc : Array Value → State → Prop} {Qc : Array Value → State → Outcome → State → Prop} {free : Addr → Prop} {Ts : List Cond} {own : String} {As rest : List Value} {g : JFrame}
    (S : CallFix p m c cc nL s args Ts own) (hM : Met l y ws rm Pc Qc mc ms free) (cw : vx_CSW R s args own index y bytes maxL ret hh ws rm mc ms n) (hp : PreS s H Pc As)
    (hg : g.method = m) (hn : As.length = n) (hsize : g.locals.size = nL) (hstack : g.stack = As.reverse ++ rest) (hW : 2 * g.monitorRoom + (rest.map fun v => v.category).sum ≤ 8) (hdg : decode cc g.pc = .ok (.invokestatic index, 3)) (hf : cells + mc ≤ R.cells ∧ slots + ms ≤ R.slots) :
    va_Run p l e R s m args below meth c H locs cells slots mc ms g rest (Qc As.toArray) (free) := by
  obtain ⟨⟨hrc, hrs, hfr, hlo, hws, hcw⟩, hcode, hini, hy, hlen, hl, hstt⟩ := cw
  have hK : Back l R p e below s args y 3 8 (PreOf R mc ms Pc) (PostOf Qc mc ms free) := va_backW (hh := hh) (bytes := bytes) (maxL := maxL) (ret := ret) hM hp.1 hrc hrs hfr hlo hws hcw (fun a' U hW => word_at hW (Or.inl (by first | rfl | simp [Cond.onTables, Cond.keeps, Cond.steady])) hini)
  obtain ⟨hx, hb, hml, ho, -⟩ := S
  intro T hT X
  obtain ⟨v, vm₁, ⟨U', l2, c2, s2⟩, hW₁, X', ⟨g', mk, t, L, e1, e2, hq, h1, hL, h2, h3⟩, st⟩ := vx_callSW X hx (hh := hh) (bytes := bytes) (maxL := maxL) (ret := ret) ho hl hstt hini hcode hy hK hg (hsize.trans hml.symm) (argsL := As) (rest := rest) (fun sig h => hn.trans (hlen sig h)) hstack hW (by rw [hb]; exact hdg)
    (fun vm₁ hW₁ => ⟨hf.1, hf.2, hp.2 (T.setVm vm₁) hT hW₁⟩)
  dsimp only [Pt.U, Pt.locs, Pt.cells, Pt.slots] at X' e1 e2 h1 h2 h3 st
  subst h1; subst h2; subst h3
  exact ⟨v, (T.setVm vm₁).calling g' mk As.toArray, t, U', L, hT, X', hL, e1, e2, hq, st⟩
/-- not caught here, past rows that name other classes: it goes on to the caller -/
theorem vx_outP {p : Program} {l : Launch} {e : Env} {R : Room} {s : State} {m : MethodId} {args : Array Value} {below : List Frame} {meth : Method} {c : Code} {H : Heap} {locs : List Loc} {cells slots : Nat} {free : Addr → Prop} {ls : Array Slot} {rest : List Value} {Qc : Array Value → State → Outcome → State → Prop} {XC : String → State → State → Prop}
    {pc : Nat} {own E : String} {ce : Cell} {q : Addr} {mc ms : Nat} (hown : s.vm.findClass own = some m.cls) (hlocks : meth.locks = false)
    (hpass : ∀ z ∈ c.exceptionTable.toList, covers z pc = false ∨ (z.catchType ≠ 0 ∧ ∃ nm : String, (Cond.classLink own z.catchType nm).before args s = true ∧ va_Nc E nm s)) (hcell : H[q]? = some ce) (hv : ce.vm = .none) (hcl : s.vm.findClass E = some ce.cls)
    (hx : ∀ t : State, t.heap = H → s.vm.Alike t.vm → XC E s t) (hf : ∀ z ∈ locs, free z.base) (hc : cells ≤ mc) (hs : slots ≤ ms) :
    vx_W p l e R s m args below meth c H locs cells slots (vx_MQ below Qc XC args s mc ms free) (F0 m pc ls rest) q := by
  intro T hT X
  have hpl : e.platform.magicAccessors = ({} : Platform).magicAccessors := by rw [X.admits.platform]
  obtain ⟨vm', hW', X', st⟩ := X.outThrough hlocks q (g := F0 m pc ls rest) rfl rfl rfl (cell := ce) (by rw [hT]; exact hcell) (by rw [hv]; rfl)
    (by obtain ⟨k9, h9, -⟩ := Vm.findClass_spec hcl; exact ⟨k9, h9⟩) (fun z hz => by
      rcases hpass z hz with h | ⟨hz0, nm, hl1, hn1⟩
      · exact Or.inl h
      · obtain ⟨c6, hc6, hcl6⟩ := Cond.classLink_spec hown hl1 e.platform hpl
        obtain ⟨a8, b8, h1, h2, h3⟩ := hn1
        cases Option.some.inj (h1.symm.trans hcl)
        cases Option.some.inj (h2.symm.trans hc6)
        exact Or.inr ⟨hz0, _, hcl6, h3⟩)
  obtain ⟨g₀, hfr⟩ := X'.frames_eq
  have hcell9 : ((T.setVm vm').setFrames (.throwing q :: below)).heap[q]? = some ce := by
    show T.heap[q]? = some ce
    rw [hT]; exact hcell
  have hend : Ended ((T.setVm vm').setFrames (.throwing q :: below)) below (.threw q) := State.frames_setFrames _ (State.cur_lt_of_frames hfr)
  refine ⟨(T.setVm vm').setFrames (.throwing q :: below), ?_, .threw q, X'.here.running, hend, Or.inr ⟨q, rfl, E, ce, locs, hx _ hT (X'.ends _).1.alike, hcell9, hv, hcl, (X'.ends _).1, (X'.ends _).2.mono hc hs, hf⟩⟩
  rw [X.pushThrowing_eq]
  exact st
/-- a thing of a world lies in the heap -/
theorem vx_lt {D : va_G} {cl : List vw_C} {ws : va_W} {H1 : Heap} (h : va_P D cl ws H1) {k : Nat} {q : Nat × va_E} (hk : ws[k]? = some q) : q.1 < H1.size := (h k q hk).lt
end VXS
/-! ===== END ===== -/
/-! ===== BEGIN methods with a table of their own: called by a name, returning or throwing ===== -/
section VXH
/-! vx_backW, vx_callVX, vx_callSX, vx_callVW, vx_runVW, vx_runVX, vx_runSX, vx_ofWH follow the same proofs as their sisters above (Free/Laws.lean, Shelf42/LK1.lean); vx_outP calls Shelf42/NT130.lean (outThrough). -/
section
variable {l : Launch} {R : Room} {p : Program} {e : Env} {below : List Frame} {s : State} {sargs : Array Value} {y : MethodName} {len W9 : Nat}
theorem vx_backW {ws : List Cond} {rm : Room} {Pc : Array Value → State → Prop} {Qc : Array Value → State → Outcome → State → Prop} {XC : String → State → State → Prop} {mc ms : Nat} {free : Addr → Prop} {bytes : ByteArray} {maxL : Nat} {ret : Option FieldType} {hh : List (Nat × Nat × Nat × Nat)}
    (hM : vx_Met l y ws rm Pc Qc XC mc ms free) (hblind : FrameBlind Pc) (hrc : rm.cells = mc) (hrs : rm.slots = ms)
    (hframes : rm.frames + 1 ≤ R.frames) (hlocals : W9 + (maxL + 11) + rm.locals ≤ R.locals)
    (hws : ∀ w ∈ ws, ∀ a' U, s.WarmedH U.vm → w.before a' U = true) (hcode : Cond.codeWith y bytes maxL ret hh ∈ ws) (hinit : ∀ a' U, s.WarmedH U.vm → (Cond.initialized y.cls).before a' U = true) :
    vx_Back l R p e below s sargs y len W9 (PreOf R mc ms Pc) (PostOf Qc mc ms free) (vx_Post XC mc ms free) := by
  intro m meth c A g ig mk a X hg hsize hdg hW hn hp
  have h1 : (headSpec ws rm).pre.before a A.U = true := atoms_intro fun w hw => hws w hw _ _ X.warmed
  have h2 : (Cond.codeWith y bytes maxL ret hh).before a A.U = true := hws _ hcode _ _ X.warmed
  have h3 : (Cond.initialized y.cls).before a A.U = true := hinit _ _ X.warmed
  have h4 : A.cells + (headSpec ws rm).room.cells ≤ R.cells := by rw [show (headSpec ws rm).room.cells = mc from hrc]; exact hp.1
  have h5 : A.slots + (headSpec ws rm).room.slots ≤ R.slots := by rw [show (headSpec ws rm).room.slots = ms from hrs]; exact hp.2.1
  have hPc : Pc a (A.U.calling g mk a) := hblind _ _ _ _ hp.2.2
  obtain ⟨U, Ls, c0, s0⟩ := A
  dsimp only [Pt.U, Pt.locs, Pt.cells, Pt.slots] at h1 h2 h3 h4 h5 X hn hPc ⊢
  obtain ⟨m9, methY, cY, hn9, hmY, hcY, -, hlY, -⟩ := Cond.codeWith_spec h2
  cases Option.some.inj (hn9.symm.trans hn)
  obtain ⟨kY, hkY, -⟩ := className_of_methodNamed hn
  have hinitY : kY.init = .initialized := Cond.initialized_spec (findClass_of_methodNamed hn) hkY h3
  have h : At U g.method c below := by rw [hg]; exact X.here
  have hlocals9 : W9 + (maxL + 11) + (headSpec ws rm).room.locals ≤ R.locals := hlocals
  have happ : (headSpec ws rm).appliesLoose y e.platform (U.calling g mk a) = true :=
    Spec.appliesLoose_calling (g := g) h hdg hn hkY hinitY
      (X.room_calling (g := g) (R' := (headSpec ws rm).room) hsize hmY hcY hframes (by rw [hlY]; omega) h4 h5) h1
  obtain ⟨mid, hmid⟩ := h.above
  have hfr : (U.setTop g).frames = (.java g :: mid) ++ below := by rw [State.frames_setTop' g h.top, hmid]; rfl
  obtain ⟨o, s₂, hsteps, -, hend, hq⟩ := Steps.callFree hM p X.admits X.cas X.clock (acts := []) hfr happ hPc trivial
  have hq' : vx_Q Qc XC mc ms free a (U.calling g mk a) o s₂ := hq
  rw [State.frames_setTop' g h.top] at hend
  obtain ⟨g₀, hg0⟩ := Option.isSome_iff_exists.mp h.top
  obtain ⟨r, hr⟩ := State.topJava?_eq_some.mp hg0
  have hr' : (({ U with heap := s₂.heap, slotsUsed := s₂.slotsUsed } : State).setVm s₂.vm).frames = .java g₀ :: r := hr
  rcases hq' with ⟨hqc, L, hfe, hL⟩ | ⟨q, rfl, E, ce, L, hx, hce, hcv, hcl, hW₂, hsm, hL⟩
  · obtain ⟨⟨v, rfl⟩, hW₂, e2, q2, q3, q4, q5, q6⟩ := id hfe
    have e3 : s₂ = ({ (U.calling g mk a).setFrames s₂.frames with heap := s₂.heap, slotsUsed := s₂.slotsUsed } : State).setVm s₂.vm := by
      have : s₂ = ({ s₂ with vm := (U.calling g mk a).vm } : State).setVm s₂.vm := rfl
      rw [e2] at this
      exact this
    obtain ⟨c₂, i₂, len₂, hc₂, hd₂, hf₂⟩ := hend
    have hW' : U.WarmedH s₂.vm := hW₂
    have hcc : c₂ = c := by
      have h1 : s₂.code? g.method = U.code? g.method := by
        rw [State.code?_eq, State.code?_eq, hW'.alike.method?]
      exact Option.some.inj (hc₂.symm.trans (h1.trans h.code))
    subst hcc
    have hlen : len₂ = len := by rw [hdg] at hd₂; cases hd₂; rfl
    subst hlen
    have hs₂ : s₂ = (({ U with heap := s₂.heap, slotsUsed := s₂.slotsUsed } : State).setVm s₂.vm).setTop { g with pc := g.pc + len₂, stack := v.toList ++ g.stack } := by
      refine e3.trans ?_
      rw [hf₂, State.calling_eq h.top, State.setFrames_setFrames, State.setTop_of_frames _ hr', hr]
      rfl
    have hsame : U.sameButNew ({ U with heap := s₂.heap, slotsUsed := s₂.slotsUsed } : State) L mc ms := by
      refine ⟨?_, q2, q3, q4, q5, q6⟩
      obtain ⟨t, ht, -⟩ := State.frames_cons hr
      show ({ U with heap := s₂.heap, slotsUsed := s₂.slotsUsed } : State) = { U.setFrames U.frames with heap := s₂.heap, slotsUsed := s₂.slotsUsed }
      rw [State.setFrames_self ht]
    subst hg
    refine Or.inl ⟨v, ⟨(({ U with heap := s₂.heap, slotsUsed := s₂.slotsUsed } : State).setVm s₂.vm), Ls ++ L, c0 + mc, s0 + ms⟩,
      ⟨X.admits, X.cas, X.clock, X.frames, X.room, X.hears, X.method, X.code, (X.here.setHeapUsed s₂.heap s₂.slotsUsed).setVm hW'.alike, X.tail, State.WarmedH.trans X.warmed hW', X.limits, X.bytes, X.same.trans (hsame.setVm s.vm)⟩,
      ⟨g, mk, s₂, L, rfl, rfl, hqc, rfl, hL, rfl, rfl⟩, ?_⟩
    show Steps p.tables e below _ ((({ U with heap := s₂.heap, slotsUsed := s₂.slotsUsed } : State).setVm s₂.vm).setTop { g with pc := g.pc + len₂, stack := v.toList ++ g.stack })
    rw [← hs₂]
    exact hsteps
  · obtain ⟨e2, q2, q3, q4, q5, q6⟩ := id hsm
    have e3 : s₂ = ({ (U.calling g mk a).setFrames s₂.frames with heap := s₂.heap, slotsUsed := s₂.slotsUsed } : State).setVm s₂.vm := by
      have : s₂ = ({ s₂ with vm := (U.calling g mk a).vm } : State).setVm s₂.vm := rfl
      rw [e2] at this
      exact this
    have hf₂ : s₂.frames = .throwing q :: .java g :: U.frames.tail := hend
    have hW' : U.WarmedH s₂.vm := hW₂
    have hs₂ : s₂ = ((({ U with heap := s₂.heap, slotsUsed := s₂.slotsUsed } : State).setVm s₂.vm).setTop g).pushFrame (.throwing q) := by
      refine e3.trans ?_
      rw [hf₂, State.calling_eq h.top, State.setFrames_setFrames, State.pushFrame, State.frames_setTop _ hr', State.setTop_of_frames _ hr', State.setFrames_setFrames, hr]
      rfl
    have hsame : U.sameButNew ({ U with heap := s₂.heap, slotsUsed := s₂.slotsUsed } : State) L mc ms := by
      refine ⟨?_, q2, q3, q4, q5, q6⟩
      obtain ⟨t, ht, -⟩ := State.frames_cons hr
      show ({ U with heap := s₂.heap, slotsUsed := s₂.slotsUsed } : State) = { U.setFrames U.frames with heap := s₂.heap, slotsUsed := s₂.slotsUsed }
      rw [State.setFrames_self ht]
    subst hg
    refine Or.inr ⟨q, ⟨(({ U with heap := s₂.heap, slotsUsed := s₂.slotsUsed } : State).setVm s₂.vm), Ls ++ L, c0 + mc, s0 + ms⟩,
      ⟨X.admits, X.cas, X.clock, X.frames, X.room, X.hears, X.method, X.code, (X.here.setHeapUsed s₂.heap s₂.slotsUsed).setVm hW'.alike, X.tail, State.WarmedH.trans X.warmed hW', X.limits, X.bytes, X.same.trans (hsame.setVm s.vm)⟩,
      ⟨g, mk, s₂, L, E, ce, rfl, rfl, hx, hce, hcv, hcl, rfl, hL, rfl, rfl⟩, ?_⟩
    show Steps p.tables e below _ (((({ U with heap := s₂.heap, slotsUsed := s₂.slotsUsed } : State).setVm s₂.vm).setTop g).pushFrame (.throwing q))
    rw [← hs₂]
    exact hsteps
end
variable {p : Program} {l : Launch} {e : Env} {R : Room} {s : State} {m : MethodId} {args : Array Value} {below : List Frame} {meth : Method} {c : Code} {T : State} {H : Heap} {locs : List Loc} {cells slots : Nat}
theorem vx_callVX (X : Stand p l e R s m args below meth c T locs cells slots) (hexec : p.tables.exec = Jvm.exec) {own C : String} {index : Nat} {y : MethodName} {bytes : ByteArray} {maxL : Nat} {ret : Option FieldType} {hh : List (Nat × Nat × Nat × Nat)}
    (hown : s.vm.findClass own = some m.cls) (hlink : (Cond.methodLink own index y).before args s = true) (hinst : (Cond.instanceMethod y).before args s = true) (hsel : (Cond.selects C y y).before args s = true)
    (hcode : (Cond.codeWith y bytes maxL ret hh).before args s = true) (hy : y.cls ≠ "java/lang/invoke/MethodHandle" ∧ y.cls ≠ "java/lang/invoke/VarHandle")
    {W9 : Nat} {Pre : Pt → Array Value → Prop} {Post : Pt → Array Value → Option Value → Pt → Prop} {PostX : Pt → Array Value → Addr → Pt → Prop} (hK : vx_Back l R p e below s args y 3 W9 Pre Post PostX)
    {b : Addr} {cellB : Cell} (hcell : T.heap[b]? = some cellB) (hobj : cellB.vm.isStatics = false) (hcls : s.vm.findClass C = some cellB.cls)
    {g : JFrame} (hg : g.method = m) (hsize : g.locals.size = c.maxLocals) {argsL rest : List Value} (hlen : ∀ sig, parseMethodDescriptor y.desc = some sig → argsL.length = sig.parameters.length)
    (hstack : g.stack = argsL.reverse ++ .ref b :: rest) (hW : 2 * g.monitorRoom + (rest.map fun v => v.category).sum ≤ W9) (hdg : decode c.code g.pc = .ok (.invokevirtual index, 3))
    (hpre : ∀ vm₁, s.WarmedH vm₁ → Pre ⟨T.setVm vm₁, locs, cells, slots⟩ (Value.ref b :: argsL).toArray) :
    (∃ (v : Option Value) (vm₁ : Vm) (B : Pt), s.WarmedH vm₁ ∧ Stand p l e R s m args below meth c B.U B.locs B.cells B.slots ∧ Post ⟨T.setVm vm₁, locs, cells, slots⟩ (Value.ref b :: argsL).toArray v B ∧
      ∀ target, Steps p.tables e below (B.U.setTop { g with pc := g.pc + 3, stack := v.toList ++ rest }) target → Steps p.tables e below (T.setTop g) target) ∨
    (∃ (q : Addr) (vm₁ : Vm) (B : Pt), s.WarmedH vm₁ ∧ Stand p l e R s m args below meth c B.U B.locs B.cells B.slots ∧ PostX ⟨T.setVm vm₁, locs, cells, slots⟩ (Value.ref b :: argsL).toArray q B ∧
      Steps p.tables e below (T.setTop g) ((B.U.setTop { g with stack := rest }).pushFrame (.throwing q))) := by
  obtain ⟨mk, methM, hnamed, hmethM, hstM, habM⟩ := Cond.instanceMethod_spec hinst
  obtain ⟨m8, methM', cM, hn8, hmethM', -, -, -, -, -, -, hsigM⟩ := Cond.codeWith_spec hcode
  cases Option.some.inj (hn8.symm.trans hnamed)
  cases hmethM.symm.trans hmethM'
  obtain ⟨c2, r2, m2, q1, q2, q3, q4, kP, hkP, hkPi⟩ := Cond.selects_spec hsel
  cases hcls.symm.trans q1
  cases (State.methodFound?_of_named hnamed hy).symm.trans q2
  cases hnamed.symm.trans q3
  have hselP : selectMethod e.platform s.vm cellB.cls mk = .method mk := by rw [Launch.admits_selectMethod X.admits]; exact q4
  obtain ⟨vm₁, X₁, hstep₁⟩ := X.invokevirtual hexec hown hlink hnamed hmethM hstM hkP hkPi hy (a := b) (cell := cellB) hcell
    (fun z h => by rw [h] at hobj; cases hobj) hselP hmethM habM hkP hkPi (g := g) hg (argsL := argsL) (rest := rest) (hlen _ hsigM) hstack hdg
  rcases hK m meth c ⟨T.setVm vm₁, locs, cells, slots⟩ { g with stack := rest } (.invokevirtual index) mk (Value.ref b :: argsL).toArray X₁ hg hsize hdg hW (X₁.named hnamed) (hpre vm₁ X₁.warmed) with ⟨v, B, X', hpost, hsteps⟩ | ⟨q, B, X', hpost, hsteps⟩
  · exact Or.inl ⟨v, vm₁, B, X₁.warmed, X', hpost, fun target h => hstep₁ _ fun acts => by rw [doInvoke_state]; exact hsteps.trans h⟩
  · exact Or.inr ⟨q, vm₁, B, X₁.warmed, X', hpost, hstep₁ _ fun acts => by rw [doInvoke_state]; exact hsteps⟩
theorem vx_callSX (X : Stand p l e R s m args below meth c T locs cells slots) (hexec : p.tables.exec = Jvm.exec) {own : String} {index : Nat} {y : MethodName} {bytes : ByteArray} {maxL : Nat} {ret : Option FieldType} {hh : List (Nat × Nat × Nat × Nat)}
    (hown : s.vm.findClass own = some m.cls) (hlink : (Cond.methodLink own index y).before args s = true) (hstat : (Cond.static y).before args s = true) (hinit : (Cond.initialized y.cls).before args s = true)
    (hcode : (Cond.codeWith y bytes maxL ret hh).before args s = true) (hy : y.cls ≠ "java/lang/invoke/MethodHandle" ∧ y.cls ≠ "java/lang/invoke/VarHandle")
    {W9 : Nat} {Pre : Pt → Array Value → Prop} {Post : Pt → Array Value → Option Value → Pt → Prop} {PostX : Pt → Array Value → Addr → Pt → Prop} (hK : vx_Back l R p e below s args y 3 W9 Pre Post PostX)
    {g : JFrame} (hg : g.method = m) (hsize : g.locals.size = c.maxLocals) {argsL rest : List Value} (hlen : ∀ sig, parseMethodDescriptor y.desc = some sig → argsL.length = sig.parameters.length)
    (hstack : g.stack = argsL.reverse ++ rest) (hW : 2 * g.monitorRoom + (rest.map fun v => v.category).sum ≤ W9) (hdg : decode c.code g.pc = .ok (.invokestatic index, 3))
    (hpre : ∀ vm₁, s.WarmedH vm₁ → Pre ⟨T.setVm vm₁, locs, cells, slots⟩ argsL.toArray) :
    (∃ (v : Option Value) (vm₁ : Vm) (B : Pt), s.WarmedH vm₁ ∧ Stand p l e R s m args below meth c B.U B.locs B.cells B.slots ∧ Post ⟨T.setVm vm₁, locs, cells, slots⟩ argsL.toArray v B ∧
      ∀ target, Steps p.tables e below (B.U.setTop { g with pc := g.pc + 3, stack := v.toList ++ rest }) target → Steps p.tables e below (T.setTop g) target) ∨
    (∃ (q : Addr) (vm₁ : Vm) (B : Pt), s.WarmedH vm₁ ∧ Stand p l e R s m args below meth c B.U B.locs B.cells B.slots ∧ PostX ⟨T.setVm vm₁, locs, cells, slots⟩ argsL.toArray q B ∧
      Steps p.tables e below (T.setTop g) ((B.U.setTop { g with stack := rest }).pushFrame (.throwing q))) := by
  obtain ⟨mk, methM, cM, hnamed, hmethM, -, -, -, -, -, -, hsigM⟩ := Cond.codeWith_spec hcode
  have hstatic : methM.isStatic = true := Cond.static_spec hnamed hmethM hstat
  obtain ⟨kP, hkP, -⟩ := className_of_methodNamed hnamed
  have hinitP : kP.init = .initialized := Cond.initialized_spec (findClass_of_methodNamed hnamed) hkP hinit
  obtain ⟨vm₁, X₁, hstep₁⟩ := X.invokestatic hexec hown hlink hnamed hmethM hstatic hkP hinitP hy (g := g) hg (argsL := argsL) (rest := rest) (hlen _ hsigM) hstack hdg
  rcases hK m meth c ⟨T.setVm vm₁, locs, cells, slots⟩ { g with stack := rest } (.invokestatic index) mk argsL.toArray X₁ hg hsize hdg hW (X₁.named hnamed) (hpre vm₁ X₁.warmed) with ⟨v, B, X', hpost, hsteps⟩ | ⟨q, B, X', hpost, hsteps⟩
  · exact Or.inl ⟨v, vm₁, B, X₁.warmed, X', hpost, fun target h => hstep₁ _ fun acts => by rw [doInvoke_state]; exact hsteps.trans h⟩
  · exact Or.inr ⟨q, vm₁, B, X₁.warmed, X', hpost, hstep₁ _ fun acts => by rw [doInvoke_state]; exact hsteps⟩
theorem vx_callVW (X : Stand p l e R s m args below meth c T locs cells slots) (hexec : p.tables.exec = Jvm.exec) {own C : String} {index : Nat} {y : MethodName} {bytes : ByteArray} {maxL : Nat} {ret : Option FieldType} {hh : List (Nat × Nat × Nat × Nat)}
    (hown : s.vm.findClass own = some m.cls) (hlink : (Cond.methodLink own index y).before args s = true) (hinst : (Cond.instanceMethod y).before args s = true) (hsel : (Cond.selects C y y).before args s = true)
    (hcode : (Cond.codeWith y bytes maxL ret hh).before args s = true) (hy : y.cls ≠ "java/lang/invoke/MethodHandle" ∧ y.cls ≠ "java/lang/invoke/VarHandle")
    {W9 : Nat} {Pre : Pt → Array Value → Prop} {Post : Pt → Array Value → Option Value → Pt → Prop} (hK : Back l R p e below s args y 3 W9 Pre Post)
    {b : Addr} {cellB : Cell} (hcell : T.heap[b]? = some cellB) (hobj : cellB.vm.isStatics = false) (hcls : s.vm.findClass C = some cellB.cls)
    {g : JFrame} (hg : g.method = m) (hsize : g.locals.size = c.maxLocals) {argsL rest : List Value} (hlen : ∀ sig, parseMethodDescriptor y.desc = some sig → argsL.length = sig.parameters.length)
    (hstack : g.stack = argsL.reverse ++ .ref b :: rest) (hW : 2 * g.monitorRoom + (rest.map fun v => v.category).sum ≤ W9) (hdg : decode c.code g.pc = .ok (.invokevirtual index, 3))
    (hpre : ∀ vm₁, s.WarmedH vm₁ → Pre ⟨T.setVm vm₁, locs, cells, slots⟩ (Value.ref b :: argsL).toArray) :
    ∃ (v : Option Value) (vm₁ : Vm) (B : Pt), s.WarmedH vm₁ ∧ Stand p l e R s m args below meth c B.U B.locs B.cells B.slots ∧ Post ⟨T.setVm vm₁, locs, cells, slots⟩ (Value.ref b :: argsL).toArray v B ∧
      ∀ target, Steps p.tables e below (B.U.setTop { g with pc := g.pc + 3, stack := v.toList ++ rest }) target → Steps p.tables e below (T.setTop g) target := by
  obtain ⟨mk, methM, hnamed, hmethM, hstM, habM⟩ := Cond.instanceMethod_spec hinst
  obtain ⟨m8, methM', cM, hn8, hmethM', -, -, -, -, -, -, hsigM⟩ := Cond.codeWith_spec hcode
  cases Option.some.inj (hn8.symm.trans hnamed)
  cases hmethM.symm.trans hmethM'
  obtain ⟨c2, r2, m2, q1, q2, q3, q4, kP, hkP, hkPi⟩ := Cond.selects_spec hsel
  cases hcls.symm.trans q1
  cases (State.methodFound?_of_named hnamed hy).symm.trans q2
  cases hnamed.symm.trans q3
  have hselP : selectMethod e.platform s.vm cellB.cls mk = .method mk := by rw [Launch.admits_selectMethod X.admits]; exact q4
  obtain ⟨vm₁, X₁, hstep₁⟩ := X.invokevirtual hexec hown hlink hnamed hmethM hstM hkP hkPi hy (a := b) (cell := cellB) hcell
    (fun z h => by rw [h] at hobj; cases hobj) hselP hmethM habM hkP hkPi (g := g) hg (argsL := argsL) (rest := rest) (hlen _ hsigM) hstack hdg
  obtain ⟨v, B, X', hpost, hsteps⟩ := hK m meth c ⟨T.setVm vm₁, locs, cells, slots⟩ { g with stack := rest } (.invokevirtual index) mk (Value.ref b :: argsL).toArray X₁ hg hsize hdg hW (X₁.named hnamed) (hpre vm₁ X₁.warmed)
  exact ⟨v, vm₁, B, X₁.warmed, X', hpost, fun target h => hstep₁ _ fun acts => by rw [doInvoke_state]; exact hsteps.trans h⟩
abbrev vx_CVW (R : Room) (s : State) (args : Array Value) (own C : String) (index : Nat) (y : MethodName) (bytes : ByteArray) (maxL : Nat) (ret : Option FieldType) (hh : List (Nat × Nat × Nat × Nat)) (ws : List Cond) (rm : Room) (mc ms n : Nat) : Prop :=
  (rm.cells = mc ∧ rm.slots = ms ∧ rm.frames + 1 ≤ R.frames ∧ 8 + (maxL + 11) + rm.locals ≤ R.locals ∧ (∀ w ∈ ws, ∀ (a' : Array Value) (U : State), s.WarmedH U.vm → w.before a' U = true) ∧ Cond.codeWith y bytes maxL ret hh ∈ ws) ∧
  (Cond.codeWith y bytes maxL ret hh).before args s = true ∧ (Cond.initialized y.cls).before args s = true ∧ (y.cls ≠ "java/lang/invoke/MethodHandle" ∧ y.cls ≠ "java/lang/invoke/VarHandle") ∧
  (∀ sig, parseMethodDescriptor y.desc = some sig → n = sig.parameters.length) ∧ (Cond.methodLink own index y).before args s = true ∧ (Cond.instanceMethod y).before args s = true ∧ (Cond.selects C y y).before args s = true
theorem vx_cwVW {own C : String} {index maxL mc ms : Nat} {y : MethodName} {bytes : ByteArray} {ret : Option FieldType} {hh : List (Nat × Nat × Nat × Nat)} {Ts ws ws' : List Cond} {rm : Room} (n : Nat) (ht : ∀ w ∈ Ts, w.before args s = true) (hT : GoodIn Ts (wsV own index C y ws)) (hw : ws = Cond.codeWith y bytes maxL ret hh :: ws') (hrc : rm.cells = mc) (hrs : rm.slots = ms)
    (hd : y.cls = C ∧ y.cls ≠ "java/lang/invoke/MethodHandle" ∧ y.cls ≠ "java/lang/invoke/VarHandle" ∧ (parseMethodDescriptor y.desc).map (fun d => d.parameters.length) = some n) (hR : rm.frames + 1 ≤ R.frames ∧ 8 + (maxL + 11) + rm.locals ≤ R.locals) :
    vx_CVW R s args own C index y bytes maxL ret hh ws rm mc ms n := by
  obtain ⟨hC, hd⟩ := hd
  subst hC
  have ok : ∀ w ∈ wsV own index y.cls y ws, w.before args s = true := fun w h => ht w (hT w h).1
  have hG : GoodIn Ts ws := fun w h => hT w (by unfold wsV; exact List.mem_append_right _ h)
  have hc : Cond.codeWith y bytes maxL ret hh ∈ ws := by rw [hw]; exact List.mem_cons_self
  refine ⟨⟨hrc, hrs, hR.1, hR.2, pay_in ht hG, hc⟩, ht _ (hG _ hc).1, ok _ (by simp [wsV]), ⟨hd.1, hd.2.1⟩, fun sig h => ?_, ok _ (by simp [wsV]), ok _ (by simp [wsV]), ok _ (by simp [wsV])⟩
  have h2 := hd.2.2
  rw [h] at h2
  exact (Option.some.inj h2).symm
theorem vx_runVW {y : MethodName} {bytes cc : ByteArray} {maxL nL mc ms n index : Nat} {ret : Option FieldType} {hh : List (Nat × Nat × Nat × Nat)} {ws : List Cond} {rm : Room} {Pc : Array Value → State → Prop} {Qc : Array Value → State → Outcome → State → Prop} {free : Addr → Prop} {Ts : List Cond} {own C : String} {b : Addr} {As rest : List Value} {g : JFrame}
    (S : CallFix p m c cc nL s args Ts own) (hM : Met l y ws rm Pc Qc mc ms free) (cw : vx_CVW R s args own C index y bytes maxL ret hh ws rm mc ms n) (hp : PreV s H C b Pc As)
    (hg : g.method = m) (hn : As.length = n) (hsize : g.locals.size = nL) (hstack : g.stack = As.reverse ++ .ref b :: rest) (hW : 2 * g.monitorRoom + (rest.map fun v => v.category).sum ≤ 8) (hdg : decode cc g.pc = .ok (.invokevirtual index, 3)) (hf : cells + mc ≤ R.cells ∧ slots + ms ≤ R.slots) :
    va_Run p l e R s m args below meth c H locs cells slots mc ms g rest (Qc (Value.ref b :: As).toArray) free := by
  obtain ⟨⟨hrc, hrs, hfr, hlo, hws, hcw⟩, hcode, hini, hy, hlen, hl, hin, hse⟩ := cw
  have hK : Back l R p e below s args y 3 8 (PreOf R mc ms Pc) (PostOf Qc mc ms free) := va_backW (hh := hh) (bytes := bytes) (maxL := maxL) (ret := ret) hM hp.1 hrc hrs hfr hlo hws hcw (fun a' U hW => word_at hW (Or.inl (by first | rfl | simp [Cond.onTables, Cond.keeps, Cond.steady])) hini)
  obtain ⟨hx, hb, hml, ho, -⟩ := S
  obtain ⟨-, ⟨cellB, hcB, hoB, hclB⟩, hPc⟩ := hp
  intro T hT X
  obtain ⟨v, vm₁, ⟨U', l2, c2, s2⟩, hW₁, X', ⟨g', mk, t, L, e1, e2, hq, h1, hL, h2, h3⟩, st⟩ := vx_callVW X hx (C := C) (hh := hh) (bytes := bytes) (maxL := maxL) (ret := ret) ho hl hin hse hcode hy hK (by rw [hT]; exact hcB) hoB hclB hg (hsize.trans hml.symm) (argsL := As) (rest := rest) (fun sig h => hn.trans (hlen sig h)) hstack hW (by rw [hb]; exact hdg)
    (fun vm₁ hW₁ => ⟨hf.1, hf.2, hPc (T.setVm vm₁) hT hW₁⟩)
  dsimp only [Pt.U, Pt.locs, Pt.cells, Pt.slots] at X' e1 e2 h1 h2 h3 st
  subst h1; subst h2; subst h3
  exact ⟨v, (T.setVm vm₁).calling g' mk (Value.ref b :: As).toArray, t, U', L, hT, X', hL, e1, e2, hq, st⟩
section
variable {y : MethodName} {bytes cc : ByteArray} {maxL nL mc ms n index : Nat} {ret : Option FieldType} {ws : List Cond} {rm : Room} {Pc : Array Value → State → Prop} {Qc : Array Value → State → Outcome → State → Prop} {XC : String → State → State → Prop} {free : Addr → Prop} {Ts : List Cond} {own C : String} {b : Addr} {As rest : List Value} {g : JFrame}
theorem vx_runVX {hh : List (Nat × Nat × Nat × Nat)} (S : CallFix p m c cc nL s args Ts own) (hM : vx_Met l y ws rm Pc Qc XC mc ms free) (cw : vx_CVW R s args own C index y bytes maxL ret hh ws rm mc ms n) (hp : PreV s H C b Pc As)
    (hg : g.method = m) (hn : As.length = n) (hsize : g.locals.size = nL) (hstack : g.stack = As.reverse ++ .ref b :: rest) (hW : 2 * g.monitorRoom + (rest.map fun v => v.category).sum ≤ 8) (hdg : decode cc g.pc = .ok (.invokevirtual index, 3)) (hf : cells + mc ≤ R.cells ∧ slots + ms ≤ R.slots) :
    vx_Run p l e R s m args below meth c H locs cells slots mc ms g rest (Qc (Value.ref b :: As).toArray) XC free := by
  obtain ⟨⟨hrc, hrs, hfr, hlo, hws, hcw⟩, hcode, hini, hy, hlen, hl, hin, hse⟩ := cw
  have hK : vx_Back l R p e below s args y 3 8 (PreOf R mc ms Pc) (PostOf Qc mc ms free) (vx_Post XC mc ms free) := vx_backW (hh := hh) (bytes := bytes) (maxL := maxL) (ret := ret) hM hp.1 hrc hrs hfr hlo hws hcw (fun a' U hW => word_at hW (Or.inl (by first | rfl | simp [Cond.onTables, Cond.keeps, Cond.steady])) hini)
  obtain ⟨hx, hb, hml, ho, -⟩ := S
  obtain ⟨-, ⟨cellB, hcB, hoB, hclB⟩, hPc⟩ := hp
  intro T hT X
  rcases vx_callVX X hx (C := C) (hh := hh) (bytes := bytes) (maxL := maxL) (ret := ret) ho hl hin hse hcode hy hK (by rw [hT]; exact hcB) hoB hclB hg (hsize.trans hml.symm) (argsL := As) (rest := rest) (fun sig h => hn.trans (hlen sig h)) hstack hW (by rw [hb]; exact hdg)
    (fun vm₁ hW₁ => ⟨hf.1, hf.2, hPc (T.setVm vm₁) hT hW₁⟩) with ⟨v, vm₁, ⟨U', l2, c2, s2⟩, hW₁, X', ⟨g', mk, t, L, e1, e2, hq, h1, hL, h2, h3⟩, st⟩ | ⟨q, vm₁, ⟨U', l2, c2, s2⟩, hW₁, X', ⟨g', mk, t, L, E, ce, e1, e2, hq, hce, hcv, hcl, h1, hL, h2, h3⟩, st⟩
  · dsimp only [Pt.U, Pt.locs, Pt.cells, Pt.slots] at X' e1 e2 h1 h2 h3 st
    subst h1; subst h2; subst h3
    exact Or.inl ⟨v, (T.setVm vm₁).calling g' mk (Value.ref b :: As).toArray, t, U', L, hT, X', hL, e1, e2, hq, st⟩
  · dsimp only [Pt.U, Pt.locs, Pt.cells, Pt.slots] at X' e1 e2 h1 h2 h3 st hcl
    subst h1; subst h2; subst h3
    exact Or.inr ⟨q, (T.setVm vm₁).calling g' mk (Value.ref b :: As).toArray, t, U', L, E, ce, hT, X', hL, e1, e2, hq, hce, hcv, vx_cls hW₁ hcl, st⟩
theorem vx_runSX {hh : List (Nat × Nat × Nat × Nat)} (S : CallFix p m c cc nL s args Ts own) (hM : vx_Met l y ws rm Pc Qc XC mc ms free) (cw : vx_CSW R s args own index y bytes maxL ret hh ws rm mc ms n) (hp : PreS s H Pc As)
    (hg : g.method = m) (hn : As.length = n) (hsize : g.locals.size = nL) (hstack : g.stack = As.reverse ++ rest) (hW : 2 * g.monitorRoom + (rest.map fun v => v.category).sum ≤ 8) (hdg : decode cc g.pc = .ok (.invokestatic index, 3)) (hf : cells + mc ≤ R.cells ∧ slots + ms ≤ R.slots) :
    vx_Run p l e R s m args below meth c H locs cells slots mc ms g rest (Qc As.toArray) XC free := by
  obtain ⟨⟨hrc, hrs, hfr, hlo, hws, hcw⟩, hcode, hini, hy, hlen, hl, hstt⟩ := cw
  have hK : vx_Back l R p e below s args y 3 8 (PreOf R mc ms Pc) (PostOf Qc mc ms free) (vx_Post XC mc ms free) := vx_backW (hh := hh) (bytes := bytes) (maxL := maxL) (ret := ret) hM hp.1 hrc hrs hfr hlo hws hcw (fun a' U hW => word_at hW (Or.inl (by first | rfl | simp [Cond.onTables, Cond.keeps, Cond.steady])) hini)
  obtain ⟨hx, hb, hml, ho, -⟩ := S
  intro T hT X
  rcases vx_callSX X hx (hh := hh) (bytes := bytes) (maxL := maxL) (ret := ret) ho hl hstt hini hcode hy hK hg (hsize.trans hml.symm) (argsL := As) (rest := rest) (fun sig h => hn.trans (hlen sig h)) hstack hW (by rw [hb]; exact hdg)
    (fun vm₁ hW₁ => ⟨hf.1, hf.2, hp.2 (T.setVm vm₁) hT hW₁⟩) with ⟨v, vm₁, ⟨U', l2, c2, s2⟩, hW₁, X', ⟨g', mk, t, L, e1, e2, hq, h1, hL, h2, h3⟩, st⟩ | ⟨q, vm₁, ⟨U', l2, c2, s2⟩, hW₁, X', ⟨g', mk, t, L, E, ce, e1, e2, hq, hce, hcv, hcl, h1, hL, h2, h3⟩, st⟩
  · dsimp only [Pt.U, Pt.locs, Pt.cells, Pt.slots] at X' e1 e2 h1 h2 h3 st
    subst h1; subst h2; subst h3
    exact Or.inl ⟨v, (T.setVm vm₁).calling g' mk As.toArray, t, U', L, hT, X', hL, e1, e2, hq, st⟩
  · dsimp only [Pt.U, Pt.locs, Pt.cells, Pt.slots] at X' e1 e2 h1 h2 h3 st hcl
    subst h1; subst h2; subst h3
    exact Or.inr ⟨q, (T.setVm vm₁).calling g' mk As.toArray, t, U', L, E, ce, hT, X', hL, e1, e2, hq, hce, hcv, vx_cls hW₁ hcl, st⟩
end
end VXH
theorem vx_ofWH {l : Launch} {y : MethodName} {ws ws' : List Cond} {rm : Room} {Pc : Array Value → State → Prop} {Qc : Array Value → State → Outcome → State → Prop} {XC : String → State → State → Prop} {mc ms : Nat} {free : Addr → Prop} {cc : ByteArray} {maxL : Nat} {ret : Option FieldType} {hh : List (Nat × Nat × Nat × Nat)}
    (hy : plainName y.cls = true) (hw : ws = Cond.codeWith y cc maxL ret hh :: ws')
    (body : ∀ p e s m args below meth c s₁, BodyLoose p l y (headSpec ws rm) cc maxL ret e s m args below meth c s₁ → c.maxLocals = maxL → Pc args s →
      W p l e (headSpec ws rm).room s m args below meth c s.heap [] 0 0 (vx_MQ below Qc XC args s mc ms free) (entryFrame m args maxL)) : vx_Met l y ws rm Pc Qc XC mc ms free := by
  refine MetFree.of_bodyS (code := cc) (maxLocals := maxL) (ret := ret) hy ?_ ?_
  · intro args s m h hn
    obtain ⟨m9, meth, c, hn9, h1, h2, h3, h4, -, h5, h6, -⟩ := Cond.codeWith_spec (atoms_spec (ws := ws) h _ (by rw [hw]; exact List.mem_cons_self))
    cases hn.symm.trans hn9
    exact ⟨meth, c, h1, h2, h3, h4, h5, h6⟩
  · intro p e s m args below meth c s₁ B hml hP _
    have hh0 : s₁.heap = s.heap := by rw [B.state]; rfl
    obtain ⟨t, a1, o, b1, b2, b3⟩ := body p e s m args below meth c s₁ B hml hP s₁ hh0 (Stand.of_body B)
    exact ⟨t, o, a1, b1, b2, b3⟩
/-! ===== END ===== -/
end
section
/-! ===== BEGIN printed: names, fields, word lists, decode rows ===== -/
def RX0 : String := "Craterclock$Anchor"
def TX0 : u_T := fun k => match k with
  | 0 => ("Craterclock$Anchor", "years", "J", true)
  | _ => ("Craterclock$Anchor", "density", "J", true)
def tyX0 : Nat → FieldType := fun k => match k with
  | 0 => .long
  | _ => .long
abbrev wsX00 : List Cond := u_ws RX0 TX0 2
theorem nmX0 : ∀ a, a < 2 → ∀ b, b < 2 → a ≠ b → (TX0 a).2.1 ≠ (TX0 b).2.1 := by decide +kernel
theorem tyX0_ok : ∀ k, k < 2 → parseFieldDescriptor (TX0 k).2.2.1 = some (tyX0 k) := by decide +kernel
abbrev cX0_init : ByteArray := prog_2_method_1_code
def yX0_init : MethodName := ⟨RX0, "<init>", "(JJ)V"⟩
def RX1 : String := "Craterclock$Crater"
def TX1 : u_T := fun k => match k with
  | 0 => ("Craterclock$Crater", "x", "I", true)
  | 1 => ("Craterclock$Crater", "y", "I", true)
  | 2 => ("Craterclock$Crater", "size", "I", true)
  | 3 => ("Craterclock$Crater", "radius", "I", true)
  | 4 => ("Craterclock$Crater", "firstDepth", "I", true)
  | _ => ("Craterclock$Crater", "depth", "I", false)
def tyX1 : Nat → FieldType := fun k => match k with
  | 0 => .int
  | 1 => .int
  | 2 => .int
  | 3 => .int
  | 4 => .int
  | _ => .int
abbrev wsX10 : List Cond := u_ws RX1 TX1 6
theorem nmX1 : ∀ a, a < 6 → ∀ b, b < 6 → a ≠ b → (TX1 a).2.1 ≠ (TX1 b).2.1 := by decide +kernel
theorem tyX1_ok : ∀ k, k < 6 → parseFieldDescriptor (TX1 k).2.2.1 = some (tyX1 k) := by decide +kernel
abbrev cX1_init : ByteArray := prog_3_method_1_code
def yX1_init : MethodName := ⟨RX1, "<init>", "(IIII)V"⟩
abbrev cX1_radiusOn : ByteArray := prog_3_method_2_code
def yX1_radiusOn : MethodName := ⟨RX1, "radiusOn", "(II)I"⟩
abbrev cX1_depthOn : ByteArray := prog_3_method_3_code
def yX1_depthOn : MethodName := ⟨RX1, "depthOn", "(II)I"⟩
abbrev cX1_covers : ByteArray := prog_3_method_4_code
def yX1_covers : MethodName := ⟨RX1, "covers", "(II)Z"⟩
abbrev cX1_isWithin : ByteArray := prog_3_method_5_code
def yX1_isWithin : MethodName := ⟨RX1, "isWithin", "(III)Z"⟩
abbrev cX1_lossBy : ByteArray := prog_3_method_6_code
def yX1_lossBy : MethodName := ⟨RX1, "lossBy", "(LCraterclock$Crater;)I"⟩
abbrev cX1_lessen : ByteArray := prog_3_method_7_code
def yX1_lessen : MethodName := ⟨RX1, "lessen", "(I)Z"⟩
def RX2 : String := "Craterclock$Curve"
def TX2 : u_T := fun k => match k with
  | _ => ("Craterclock$Curve", "anchors", "Ljava/util/ArrayList;", true)
def tyX2 : Nat → FieldType := fun k => match k with
  | _ => .object "java/util/ArrayList"
abbrev wsX20 : List Cond := u_ws RX2 TX2 1
theorem nmX2 : ∀ a, a < 1 → ∀ b, b < 1 → a ≠ b → (TX2 a).2.1 ≠ (TX2 b).2.1 := by decide +kernel
theorem tyX2_ok : ∀ k, k < 1 → parseFieldDescriptor (TX2 k).2.2.1 = some (tyX2 k) := by decide +kernel
abbrev cX2_init : ByteArray := prog_4_method_1_code
def yX2_init : MethodName := ⟨RX2, "<init>", "()V"⟩
abbrev cX2_canTake : ByteArray := prog_4_method_2_code
def yX2_canTake : MethodName := ⟨RX2, "canTake", "(JJ)Z"⟩
abbrev cX2_take : ByteArray := prog_4_method_3_code
def yX2_take : MethodName := ⟨RX2, "take", "(JJ)I"⟩
abbrev cX2_lackFor : ByteArray := prog_4_method_4_code
def yX2_lackFor : MethodName := ⟨RX2, "lackFor", "(J)I"⟩
abbrev cX2_yearsOf : ByteArray := prog_4_method_5_code
def yX2_yearsOf : MethodName := ⟨RX2, "yearsOf", "(J)J"⟩
abbrev cX2_dividedDown : ByteArray := prog_4_method_6_code
def yX2_dividedDown : MethodName := ⟨RX2, "dividedDown", "(JJ)J"⟩
def RX3 : String := "Craterclock$Eye"
def TX3 : u_T := fun k => match k with
  | _ => ("Craterclock$Eye", "skill", "I", true)
def tyX3 : Nat → FieldType := fun k => match k with
  | _ => .int
abbrev wsX30 : List Cond := u_ws RX3 TX3 1
theorem nmX3 : ∀ a, a < 1 → ∀ b, b < 1 → a ≠ b → (TX3 a).2.1 ≠ (TX3 b).2.1 := by decide +kernel
theorem tyX3_ok : ∀ k, k < 1 → parseFieldDescriptor (TX3 k).2.2.1 = some (tyX3 k) := by decide +kernel
abbrev cX3_init : ByteArray := prog_5_method_1_code
def yX3_init : MethodName := ⟨RX3, "<init>", "(I)V"⟩
abbrev cX3_sees : ByteArray := prog_5_method_2_code
def yX3_sees : MethodName := ⟨RX3, "sees", "(LCraterclock$Crater;)Z"⟩
def RX4 : String := "Craterclock$Field"
def TX4 : u_T := fun k => match k with
  | 0 => ("Craterclock$Field", "x", "I", true)
  | 1 => ("Craterclock$Field", "y", "I", true)
  | 2 => ("Craterclock$Field", "toX", "I", true)
  | _ => ("Craterclock$Field", "toY", "I", true)
def tyX4 : Nat → FieldType := fun k => match k with
  | 0 => .int
  | 1 => .int
  | 2 => .int
  | _ => .int
abbrev wsX40 : List Cond := u_ws RX4 TX4 4
theorem nmX4 : ∀ a, a < 4 → ∀ b, b < 4 → a ≠ b → (TX4 a).2.1 ≠ (TX4 b).2.1 := by decide +kernel
theorem tyX4_ok : ∀ k, k < 4 → parseFieldDescriptor (TX4 k).2.2.1 = some (tyX4 k) := by decide +kernel
abbrev cX4_init : ByteArray := prog_6_method_1_code
def yX4_init : MethodName := ⟨RX4, "<init>", "(IIII)V"⟩
abbrev cX4_has : ByteArray := prog_6_method_2_code
def yX4_has : MethodName := ⟨RX4, "has", "(II)Z"⟩
abbrev cX4_cells : ByteArray := prog_6_method_3_code
def yX4_cells : MethodName := ⟨RX4, "cells", "()I"⟩
def RX5 : String := "Craterclock$Flood"
def TX5 : u_T := fun k => match k with
  | 0 => ("Craterclock$Lessening", "cratersThen", "I", true)
  | 1 => ("Craterclock$Flood", "field", "LCraterclock$Field;", true)
  | _ => ("Craterclock$Flood", "thick", "I", true)
def tyX5 : Nat → FieldType := fun k => match k with
  | 0 => .int
  | 1 => .object "Craterclock$Field"
  | _ => .int
abbrev wsX50 : List Cond := u_ws RX5 TX5 3
theorem nmX5 : ∀ a, a < 3 → ∀ b, b < 3 → a ≠ b → (TX5 a).2.1 ≠ (TX5 b).2.1 := by decide +kernel
theorem tyX5_ok : ∀ k, k < 3 → parseFieldDescriptor (TX5 k).2.2.1 = some (tyX5 k) := by decide +kernel
abbrev cX5_init : ByteArray := prog_7_method_1_code
def yX5_init : MethodName := ⟨RX5, "<init>", "(ILCraterclock$Field;I)V"⟩
abbrev cX5_lossOf : ByteArray := prog_7_method_2_code
def yX5_lossOf : MethodName := ⟨RX5, "lossOf", "(LCraterclock$Crater;)I"⟩
def RX6 : String := "Craterclock$Ground"
def TX6 : u_T := fun k => match k with
  | _ => ("Craterclock$Ground", "rows", "[I", true)
def tyX6 : Nat → FieldType := fun k => match k with
  | _ => .array .int
abbrev wsX60 : List Cond := u_ws RX6 TX6 1
theorem nmX6 : ∀ a, a < 1 → ∀ b, b < 1 → a ≠ b → (TX6 a).2.1 ≠ (TX6 b).2.1 := by decide +kernel
theorem tyX6_ok : ∀ k, k < 1 → parseFieldDescriptor (TX6 k).2.2.1 = some (tyX6 k) := by decide +kernel
abbrev cX6_init : ByteArray := prog_8_method_1_code
def yX6_init : MethodName := ⟨RX6, "<init>", "([I)V"⟩
abbrev cX6_copy : ByteArray := prog_8_method_2_code
def yX6_copy : MethodName := ⟨RX6, "copy", "()LCraterclock$Ground;"⟩
abbrev cX6_kindAt : ByteArray := prog_8_method_3_code
def yX6_kindAt : MethodName := ⟨RX6, "kindAt", "(II)I"⟩
abbrev cX6_setKind : ByteArray := prog_8_method_4_code
def yX6_setKind : MethodName := ⟨RX6, "setKind", "(III)V"⟩
def RX7 : String := "Craterclock$Lessening"
def TX7 : u_T := fun k => match k with
  | _ => ("", "", "", false)
def tyX7 : Nat → FieldType := fun k => match k with
  | _ => .int
abbrev wsX70 : List Cond := u_ws RX7 TX7 0
theorem nmX7 : ∀ a, a < 0 → ∀ b, b < 0 → a ≠ b → (TX7 a).2.1 ≠ (TX7 b).2.1 := by decide +kernel
theorem tyX7_ok : ∀ k, k < 0 → parseFieldDescriptor (TX7 k).2.2.1 = some (tyX7 k) := by decide +kernel
abbrev cX7_init : ByteArray := prog_9_method_1_code
def yX7_init : MethodName := ⟨RX7, "<init>", "(I)V"⟩
def RX8 : String := "Craterclock$Softening"
def TX8 : u_T := fun k => match k with
  | 0 => ("Craterclock$Lessening", "cratersThen", "I", true)
  | 1 => ("Craterclock$Softening", "cellsThen", "LCraterclock$Ground;", true)
  | _ => ("Craterclock$Softening", "steps", "I", true)
def tyX8 : Nat → FieldType := fun k => match k with
  | 0 => .int
  | 1 => .object "Craterclock$Ground"
  | _ => .int
abbrev wsX80 : List Cond := u_ws RX8 TX8 3
theorem nmX8 : ∀ a, a < 3 → ∀ b, b < 3 → a ≠ b → (TX8 a).2.1 ≠ (TX8 b).2.1 := by decide +kernel
theorem tyX8_ok : ∀ k, k < 3 → parseFieldDescriptor (TX8 k).2.2.1 = some (tyX8 k) := by decide +kernel
abbrev cX8_init : ByteArray := prog_10_method_1_code
def yX8_init : MethodName := ⟨RX8, "<init>", "(ILCraterclock$Ground;I)V"⟩
abbrev cX8_lossOf : ByteArray := prog_10_method_2_code
def yX8_lossOf : MethodName := ⟨RX8, "lossOf", "(LCraterclock$Crater;)I"⟩
def RX9 : String := "Craterclock"
def TX9 : u_T := fun k => match k with
  | 0 => ("Craterclock", "cells", "LCraterclock$Ground;", true)
  | 1 => ("Craterclock", "fallen", "Ljava/util/ArrayList;", true)
  | 2 => ("Craterclock", "lessenings", "Ljava/util/ArrayList;", true)
  | 3 => ("Craterclock", "eyes", "Ljava/util/ArrayList;", true)
  | 4 => ("Craterclock", "curve", "LCraterclock$Curve;", true)
  | _ => ("Craterclock", "drawn", "I", false)
def tyX9 : Nat → FieldType := fun k => match k with
  | 0 => .object "Craterclock$Ground"
  | 1 => .object "java/util/ArrayList"
  | 2 => .object "java/util/ArrayList"
  | 3 => .object "java/util/ArrayList"
  | 4 => .object "Craterclock$Curve"
  | _ => .int
abbrev wsX90 : List Cond := u_ws RX9 TX9 6
theorem nmX9 : ∀ a, a < 6 → ∀ b, b < 6 → a ≠ b → (TX9 a).2.1 ≠ (TX9 b).2.1 := by decide +kernel
theorem tyX9_ok : ∀ k, k < 6 → parseFieldDescriptor (TX9 k).2.2.1 = some (tyX9 k) := by decide +kernel
abbrev cX9_init : ByteArray := prog_1_method_1_code
def yX9_init : MethodName := ⟨RX9, "<init>", "()V"⟩
abbrev cX9_ground : ByteArray := prog_1_method_2_code
def yX9_ground : MethodName := ⟨RX9, "ground", "(III)I"⟩
abbrev cX9_stone : ByteArray := prog_1_method_3_code
def yX9_stone : MethodName := ⟨RX9, "stone", "(III)I"⟩
abbrev cX9_draw : ByteArray := prog_1_method_4_code
def yX9_draw : MethodName := ⟨RX9, "draw", "(I)I"⟩
abbrev cX9_rain : ByteArray := prog_1_method_5_code
def yX9_rain : MethodName := ⟨RX9, "rain", "(I)I"⟩
abbrev cX9_flood : ByteArray := prog_1_method_6_code
def yX9_flood : MethodName := ⟨RX9, "flood", "(IIIII)I"⟩
abbrev cX9_soften : ByteArray := prog_1_method_7_code
def yX9_soften : MethodName := ⟨RX9, "soften", "(I)I"⟩
abbrev cX9_eye : ByteArray := prog_1_method_8_code
def yX9_eye : MethodName := ⟨RX9, "eye", "(I)I"⟩
abbrev cX9_anchor : ByteArray := prog_1_method_9_code
def yX9_anchor : MethodName := ⟨RX9, "anchor", "(JJ)I"⟩
abbrev cX9_count : ByteArray := prog_1_method_10_code
def yX9_count : MethodName := ⟨RX9, "count", "(IIIIII)I"⟩
abbrev cX9_age : ByteArray := prog_1_method_11_code
def yX9_age : MethodName := ⟨RX9, "age", "(IIIII)J"⟩
abbrev cX9_whyNot : ByteArray := prog_1_method_12_code
def yX9_whyNot : MethodName := ⟨RX9, "whyNot", "(IIIII)I"⟩
abbrev cX9_craters : ByteArray := prog_1_method_13_code
def yX9_craters : MethodName := ⟨RX9, "craters", "()I"⟩
abbrev cX9_about : ByteArray := prog_1_method_14_code
def yX9_about : MethodName := ⟨RX9, "about", "(II)I"⟩
abbrev cX9_depthAnew : ByteArray := prog_1_method_15_code
def yX9_depthAnew : MethodName := ⟨RX9, "depthAnew", "(I)I"⟩
abbrev cX9_top : ByteArray := prog_1_method_16_code
def yX9_top : MethodName := ⟨RX9, "top", "(II)I"⟩
abbrev cX9_topAnew : ByteArray := prog_1_method_17_code
def yX9_topAnew : MethodName := ⟨RX9, "topAnew", "(II)I"⟩
abbrev cX9_dropStone : ByteArray := prog_1_method_18_code
def yX9_dropStone : MethodName := ⟨RX9, "dropStone", "(III)I"⟩
abbrev cX9_drawNext : ByteArray := prog_1_method_19_code
def yX9_drawNext : MethodName := ⟨RX9, "drawNext", "()I"⟩
abbrev cX9_sizeDrawn : ByteArray := prog_1_method_20_code
def yX9_sizeDrawn : MethodName := ⟨RX9, "sizeDrawn", "(I)I"⟩
abbrev cX9_lessenAll : ByteArray := prog_1_method_21_code
def yX9_lessenAll : MethodName := ⟨RX9, "lessenAll", "(LCraterclock$Lessening;)I"⟩
abbrev cX9_countLeft : ByteArray := prog_1_method_22_code
def yX9_countLeft : MethodName := ⟨RX9, "countLeft", "()I"⟩
abbrev cX9_depthOnceMore : ByteArray := prog_1_method_23_code
def yX9_depthOnceMore : MethodName := ⟨RX9, "depthOnceMore", "(I)I"⟩
abbrev cX9_countSeen : ByteArray := prog_1_method_24_code
def yX9_countSeen : MethodName := ⟨RX9, "countSeen", "(ILCraterclock$Field;I)I"⟩
abbrev cX9_densitySeen : ByteArray := prog_1_method_25_code
def yX9_densitySeen : MethodName := ⟨RX9, "densitySeen", "(ILCraterclock$Field;)J"⟩
abbrev cX9_requireCell : ByteArray := prog_1_method_26_code
def yX9_requireCell : MethodName := ⟨RX9, "requireCell", "(II)V"⟩
abbrev cX9_requireCrater : ByteArray := prog_1_method_27_code
def yX9_requireCrater : MethodName := ⟨RX9, "requireCrater", "(I)V"⟩
abbrev cX9_requireEyeAndCells : ByteArray := prog_1_method_28_code
def yX9_requireEyeAndCells : MethodName := ⟨RX9, "requireEyeAndCells", "(IIIII)V"⟩
abbrev cX9_requireRange : ByteArray := prog_1_method_29_code
def yX9_requireRange : MethodName := ⟨RX9, "requireRange", "(JJJ)V"⟩
abbrev cX9_requireOrder : ByteArray := prog_1_method_30_code
def yX9_requireOrder : MethodName := ⟨RX9, "requireOrder", "(IIII)V"⟩
abbrev cX9_requireRoomForCraters : ByteArray := prog_1_method_31_code
def yX9_requireRoomForCraters : MethodName := ⟨RX9, "requireRoomForCraters", "(I)V"⟩
abbrev cX9_requireRoomForLessening : ByteArray := prog_1_method_32_code
def yX9_requireRoomForLessening : MethodName := ⟨RX9, "requireRoomForLessening", "()V"⟩
def RX10 : String := "CraterclockModel"
def TX10 : u_T := fun k => match k with
  | 0 => ("CraterclockModel", "ground", "[I", true)
  | 1 => ("CraterclockModel", "craters", "I", false)
  | 2 => ("CraterclockModel", "atX", "[I", true)
  | 3 => ("CraterclockModel", "atY", "[I", true)
  | 4 => ("CraterclockModel", "radius", "[I", true)
  | 5 => ("CraterclockModel", "depth", "[I", true)
  | 6 => ("CraterclockModel", "drawn", "I", false)
  | 7 => ("CraterclockModel", "told", "I", false)
  | 8 => ("CraterclockModel", "eyes", "I", false)
  | 9 => ("CraterclockModel", "skill", "[I", true)
  | 10 => ("CraterclockModel", "anchors", "I", false)
  | 11 => ("CraterclockModel", "years", "[J", true)
  | 12 => ("CraterclockModel", "density", "[J", true)
  | _ => ("CraterclockModel", "thrown", "I", false)
def tyX10 : Nat → FieldType := fun k => match k with
  | 0 => .array .int
  | 1 => .int
  | 2 => .array .int
  | 3 => .array .int
  | 4 => .array .int
  | 5 => .array .int
  | 6 => .int
  | 7 => .int
  | 8 => .int
  | 9 => .array .int
  | 10 => .int
  | 11 => .array .long
  | 12 => .array .long
  | _ => .int
abbrev wsX100 : List Cond := u_ws RX10 TX10 14
theorem nmX10 : ∀ a, a < 14 → ∀ b, b < 14 → a ≠ b → (TX10 a).2.1 ≠ (TX10 b).2.1 := by decide +kernel
theorem tyX10_ok : ∀ k, k < 14 → parseFieldDescriptor (TX10 k).2.2.1 = some (tyX10 k) := by decide +kernel
abbrev cX10_init : ByteArray := prog_12_method_1_code
def yX10_init : MethodName := ⟨RX10, "<init>", "()V"⟩
abbrev cX10_thrown : ByteArray := prog_12_method_2_code
def yX10_thrown : MethodName := ⟨RX10, "thrown", "()I"⟩
abbrev cX10_can : ByteArray := prog_12_method_3_code
def yX10_can : MethodName := ⟨RX10, "can", "(I)Z"⟩
abbrev cX10_isIn : ByteArray := prog_12_method_4_code
def yX10_isIn : MethodName := ⟨RX10, "isIn", "(III)Z"⟩
abbrev cX10_isCell : ByteArray := prog_12_method_5_code
def yX10_isCell : MethodName := ⟨RX10, "isCell", "(II)Z"⟩
abbrev cX10_areCells : ByteArray := prog_12_method_6_code
def yX10_areCells : MethodName := ⟨RX10, "areCells", "(IIII)Z"⟩
abbrev cX10_isEye : ByteArray := prog_12_method_7_code
def yX10_isEye : MethodName := ⟨RX10, "isEye", "(I)Z"⟩
abbrev cX10_isCrater : ByteArray := prog_12_method_8_code
def yX10_isCrater : MethodName := ⟨RX10, "isCrater", "(I)Z"⟩
abbrev cX10_ground : ByteArray := prog_12_method_9_code
def yX10_ground : MethodName := ⟨RX10, "ground", "(III)I"⟩
abbrev cX10_groundOf : ByteArray := prog_12_method_10_code
def yX10_groundOf : MethodName := ⟨RX10, "groundOf", "(I)I"⟩
abbrev cX10_square : ByteArray := prog_12_method_11_code
def yX10_square : MethodName := ⟨RX10, "square", "(III)I"⟩
abbrev cX10_lessens : ByteArray := prog_12_method_12_code
def yX10_lessens : MethodName := ⟨RX10, "lessens", "(II)Z"⟩
abbrev cX10_falls : ByteArray := prog_12_method_13_code
def yX10_falls : MethodName := ⟨RX10, "falls", "(III)I"⟩
abbrev cX10_stone : ByteArray := prog_12_method_14_code
def yX10_stone : MethodName := ⟨RX10, "stone", "(III)I"⟩
abbrev cX10_draw : ByteArray := prog_12_method_15_code
def yX10_draw : MethodName := ⟨RX10, "draw", "(I)I"⟩
abbrev cX10_draws : ByteArray := prog_12_method_16_code
def yX10_draws : MethodName := ⟨RX10, "draws", "(I)I"⟩
abbrev cX10_sizeBy : ByteArray := prog_12_method_17_code
def yX10_sizeBy : MethodName := ⟨RX10, "sizeBy", "(I)I"⟩
abbrev cX10_left : ByteArray := prog_12_method_18_code
def yX10_left : MethodName := ⟨RX10, "left", "()I"⟩
abbrev cX10_rain : ByteArray := prog_12_method_19_code
def yX10_rain : MethodName := ⟨RX10, "rain", "(I)I"⟩
abbrev cX10_isWithin : ByteArray := prog_12_method_20_code
def yX10_isWithin : MethodName := ⟨RX10, "isWithin", "(IIIII)Z"⟩
abbrev cX10_flood : ByteArray := prog_12_method_21_code
def yX10_flood : MethodName := ⟨RX10, "flood", "(IIIII)I"⟩
abbrev cX10_soften : ByteArray := prog_12_method_22_code
def yX10_soften : MethodName := ⟨RX10, "soften", "(I)I"⟩
abbrev cX10_eye : ByteArray := prog_12_method_23_code
def yX10_eye : MethodName := ⟨RX10, "eye", "(I)I"⟩
abbrev cX10_anchor : ByteArray := prog_12_method_24_code
def yX10_anchor : MethodName := ⟨RX10, "anchor", "(JJ)I"⟩
abbrev cX10_counts : ByteArray := prog_12_method_25_code
def yX10_counts : MethodName := ⟨RX10, "counts", "(IIIIII)I"⟩
abbrev cX10_count : ByteArray := prog_12_method_26_code
def yX10_count : MethodName := ⟨RX10, "count", "(IIIIII)I"⟩
abbrev cX10_densityOf : ByteArray := prog_12_method_27_code
def yX10_densityOf : MethodName := ⟨RX10, "densityOf", "(IIIII)J"⟩
abbrev cX10_reason : ByteArray := prog_12_method_28_code
def yX10_reason : MethodName := ⟨RX10, "reason", "(IIIII)I"⟩
abbrev cX10_ageBy : ByteArray := prog_12_method_29_code
def yX10_ageBy : MethodName := ⟨RX10, "ageBy", "(J)J"⟩
abbrev cX10_age : ByteArray := prog_12_method_30_code
def yX10_age : MethodName := ⟨RX10, "age", "(IIIII)J"⟩
abbrev cX10_whyNot : ByteArray := prog_12_method_31_code
def yX10_whyNot : MethodName := ⟨RX10, "whyNot", "(IIIII)I"⟩
abbrev cX10_craters : ByteArray := prog_12_method_32_code
def yX10_craters : MethodName := ⟨RX10, "craters", "()I"⟩
abbrev cX10_about : ByteArray := prog_12_method_33_code
def yX10_about : MethodName := ⟨RX10, "about", "(II)I"⟩
abbrev cX10_depthAnew : ByteArray := prog_12_method_34_code
def yX10_depthAnew : MethodName := ⟨RX10, "depthAnew", "(I)I"⟩
abbrev cX10_topOf : ByteArray := prog_12_method_35_code
def yX10_topOf : MethodName := ⟨RX10, "topOf", "(II)I"⟩
abbrev cX10_top : ByteArray := prog_12_method_36_code
def yX10_top : MethodName := ⟨RX10, "top", "(II)I"⟩
abbrev cX10_topAnew : ByteArray := prog_12_method_37_code
def yX10_topAnew : MethodName := ⟨RX10, "topAnew", "(II)I"⟩
def RJx145de : String := "java/io/Serializable"
def TJx145de : u_T := fun k => match k with
  | _ => ("", "", "", false)
def tyJx145de : Nat → FieldType := fun k => match k with
  | _ => .int
abbrev wsJx145de0 : List Cond := u_ws RJx145de TJx145de 0
theorem nmJx145de : ∀ a, a < 0 → ∀ b, b < 0 → a ≠ b → (TJx145de a).2.1 ≠ (TJx145de b).2.1 := by decide +kernel
theorem tyJx145de_ok : ∀ k, k < 0 → parseFieldDescriptor (TJx145de k).2.2.1 = some (tyJx145de k) := by decide +kernel
def RJx8e188 : String := "java/lang/Cloneable"
def TJx8e188 : u_T := fun k => match k with
  | _ => ("", "", "", false)
def tyJx8e188 : Nat → FieldType := fun k => match k with
  | _ => .int
abbrev wsJx8e1880 : List Cond := u_ws RJx8e188 TJx8e188 0
theorem nmJx8e188 : ∀ a, a < 0 → ∀ b, b < 0 → a ≠ b → (TJx8e188 a).2.1 ≠ (TJx8e188 b).2.1 := by decide +kernel
theorem tyJx8e188_ok : ∀ k, k < 0 → parseFieldDescriptor (TJx8e188 k).2.2.1 = some (tyJx8e188 k) := by decide +kernel
def RJxab1ab : String := "java/lang/Iterable"
def TJxab1ab : u_T := fun k => match k with
  | _ => ("", "", "", false)
def tyJxab1ab : Nat → FieldType := fun k => match k with
  | _ => .int
abbrev wsJxab1ab0 : List Cond := u_ws RJxab1ab TJxab1ab 0
theorem nmJxab1ab : ∀ a, a < 0 → ∀ b, b < 0 → a ≠ b → (TJxab1ab a).2.1 ≠ (TJxab1ab b).2.1 := by decide +kernel
theorem tyJxab1ab_ok : ∀ k, k < 0 → parseFieldDescriptor (TJxab1ab k).2.2.1 = some (tyJxab1ab k) := by decide +kernel
def RJ9 : String := "java/lang/Math"
def TJ9 : u_T := fun k => match k with
  | _ => ("", "", "", false)
def tyJ9 : Nat → FieldType := fun k => match k with
  | _ => .int
abbrev wsJ90 : List Cond := u_ws RJ9 TJ9 0
theorem nmJ9 : ∀ a, a < 0 → ∀ b, b < 0 → a ≠ b → (TJ9 a).2.1 ≠ (TJ9 b).2.1 := by decide +kernel
theorem tyJ9_ok : ∀ k, k < 0 → parseFieldDescriptor (TJ9 k).2.2.1 = some (tyJ9 k) := by decide +kernel
abbrev cJ9_max_7cf53 : ByteArray := prog_20_method_65_code
def yJ9_max_7cf53 : MethodName := ⟨RJ9, "max", "(II)I"⟩
abbrev cJ9_min_7cf53 : ByteArray := prog_20_method_69_code
def yJ9_min_7cf53 : MethodName := ⟨RJ9, "min", "(II)I"⟩
def RJ0 : String := "java/lang/String"
def TJ0 : u_T := fun k => match k with
  | _ => ("", "", "", false)
def tyJ0 : Nat → FieldType := fun k => match k with
  | _ => .int
abbrev wsJ00 : List Cond := u_ws RJ0 TJ0 0
theorem nmJ0 : ∀ a, a < 0 → ∀ b, b < 0 → a ≠ b → (TJ0 a).2.1 ≠ (TJ0 b).2.1 := by decide +kernel
theorem tyJ0_ok : ∀ k, k < 0 → parseFieldDescriptor (TJ0 k).2.2.1 = some (tyJ0 k) := by decide +kernel
def RJ10 : String := "java/lang/System"
def TJ10 : u_T := fun k => match k with
  | _ => ("", "", "", false)
def tyJ10 : Nat → FieldType := fun k => match k with
  | _ => .int
abbrev wsJ100 : List Cond := u_ws RJ10 TJ10 0
theorem nmJ10 : ∀ a, a < 0 → ∀ b, b < 0 → a ≠ b → (TJ10 a).2.1 ≠ (TJ10 b).2.1 := by decide +kernel
theorem tyJ10_ok : ∀ k, k < 0 → parseFieldDescriptor (TJ10 k).2.2.1 = some (tyJ10 k) := by decide +kernel
def RJxa1e45 : String := "java/util/AbstractCollection"
def TJxa1e45 : u_T := fun k => match k with
  | _ => ("", "", "", false)
def tyJxa1e45 : Nat → FieldType := fun k => match k with
  | _ => .int
abbrev wsJxa1e450 : List Cond := u_ws RJxa1e45 TJxa1e45 0
theorem nmJxa1e45 : ∀ a, a < 0 → ∀ b, b < 0 → a ≠ b → (TJxa1e45 a).2.1 ≠ (TJxa1e45 b).2.1 := by decide +kernel
theorem tyJxa1e45_ok : ∀ k, k < 0 → parseFieldDescriptor (TJxa1e45 k).2.2.1 = some (tyJxa1e45 k) := by decide +kernel
abbrev cJxa1e45_init_da8c8 : ByteArray := prog_25_method_1_code
def yJxa1e45_init_da8c8 : MethodName := ⟨RJxa1e45, "<init>", "()V"⟩
def RJxc12de : String := "java/util/AbstractList"
def TJxc12de : u_T := fun k => match k with
  | _ => ("", "", "", false)
def tyJxc12de : Nat → FieldType := fun k => match k with
  | _ => .int
abbrev wsJxc12de0 : List Cond := u_ws RJxc12de TJxc12de 0
theorem nmJxc12de : ∀ a, a < 0 → ∀ b, b < 0 → a ≠ b → (TJxc12de a).2.1 ≠ (TJxc12de b).2.1 := by decide +kernel
theorem tyJxc12de_ok : ∀ k, k < 0 → parseFieldDescriptor (TJxc12de k).2.2.1 = some (tyJxc12de k) := by decide +kernel
abbrev cJxc12de_init_da8c8 : ByteArray := prog_26_method_1_code
def yJxc12de_init_da8c8 : MethodName := ⟨RJxc12de, "<init>", "()V"⟩
def RJx4a65c : String := "java/util/ArrayList"
def TJx4a65c : u_T := fun k => match k with
  | 0 => ("java/util/AbstractList", "modCount", "I", false)
  | 1 => ("java/util/ArrayList", "elementData", "[Ljava/lang/Object;", false)
  | _ => ("java/util/ArrayList", "size", "I", false)
def tyJx4a65c : Nat → FieldType := fun k => match k with
  | 0 => .int
  | 1 => .array (.object "java/lang/Object")
  | _ => .int
abbrev wsJx4a65c0 : List Cond := u_ws RJx4a65c TJx4a65c 3
theorem nmJx4a65c : ∀ a, a < 3 → ∀ b, b < 3 → a ≠ b → (TJx4a65c a).2.1 ≠ (TJx4a65c b).2.1 := by decide +kernel
theorem tyJx4a65c_ok : ∀ k, k < 3 → parseFieldDescriptor (TJx4a65c k).2.2.1 = some (tyJx4a65c k) := by decide +kernel
abbrev cJx4a65c_init_da8c8 : ByteArray := prog_27_method_2_code
def yJx4a65c_init_da8c8 : MethodName := ⟨RJx4a65c, "<init>", "()V"⟩
abbrev cJx4a65c_grow_92f84 : ByteArray := prog_27_method_6_code
def yJx4a65c_grow_92f84 : MethodName := ⟨RJx4a65c, "grow", "(I)[Ljava/lang/Object;"⟩
abbrev cJx4a65c_grow_d5877 : ByteArray := prog_27_method_7_code
def yJx4a65c_grow_d5877 : MethodName := ⟨RJx4a65c, "grow", "()[Ljava/lang/Object;"⟩
abbrev cJx4a65c_size_8abf5 : ByteArray := prog_27_method_8_code
def yJx4a65c_size_8abf5 : MethodName := ⟨RJx4a65c, "size", "()I"⟩
abbrev cJx4a65c_elementData_915e3 : ByteArray := prog_27_method_18_code
def yJx4a65c_elementData_915e3 : MethodName := ⟨RJx4a65c, "elementData", "(I)Ljava/lang/Object;"⟩
abbrev cJx4a65c_get_915e3 : ByteArray := prog_27_method_20_code
def yJx4a65c_get_915e3 : MethodName := ⟨RJx4a65c, "get", "(I)Ljava/lang/Object;"⟩
abbrev cJx4a65c_add_72be8 : ByteArray := prog_27_method_24_code
def yJx4a65c_add_72be8 : MethodName := ⟨RJx4a65c, "add", "(Ljava/lang/Object;[Ljava/lang/Object;I)V"⟩
abbrev cJx4a65c_add_9ea2d : ByteArray := prog_27_method_25_code
def yJx4a65c_add_9ea2d : MethodName := ⟨RJx4a65c, "add", "(Ljava/lang/Object;)Z"⟩
def RJ7 : String := "java/util/Arrays"
def TJ7 : u_T := fun k => match k with
  | _ => ("", "", "", false)
def tyJ7 : Nat → FieldType := fun k => match k with
  | _ => .int
abbrev wsJ70 : List Cond := u_ws RJ7 TJ7 0
theorem nmJ7 : ∀ a, a < 0 → ∀ b, b < 0 → a ≠ b → (TJ7 a).2.1 ≠ (TJ7 b).2.1 := by decide +kernel
theorem tyJ7_ok : ∀ k, k < 0 → parseFieldDescriptor (TJ7 k).2.2.1 = some (tyJ7 k) := by decide +kernel
abbrev cJ7_copyOf_1904c : ByteArray := prog_28_method_119_code
def yJ7_copyOf_1904c : MethodName := ⟨RJ7, "copyOf", "([Ljava/lang/Object;I)[Ljava/lang/Object;"⟩
abbrev cJ7_copyOf_6403c : ByteArray := prog_28_method_120_code
def yJ7_copyOf_6403c : MethodName := ⟨RJ7, "copyOf", "([Ljava/lang/Object;ILjava/lang/Class;)[Ljava/lang/Object;"⟩
def RJx5ef63 : String := "java/util/Collection"
def TJx5ef63 : u_T := fun k => match k with
  | _ => ("", "", "", false)
def tyJx5ef63 : Nat → FieldType := fun k => match k with
  | _ => .int
abbrev wsJx5ef630 : List Cond := u_ws RJx5ef63 TJx5ef63 0
theorem nmJx5ef63 : ∀ a, a < 0 → ∀ b, b < 0 → a ≠ b → (TJx5ef63 a).2.1 ≠ (TJx5ef63 b).2.1 := by decide +kernel
theorem tyJx5ef63_ok : ∀ k, k < 0 → parseFieldDescriptor (TJx5ef63 k).2.2.1 = some (tyJx5ef63 k) := by decide +kernel
def RJxbd725 : String := "java/util/List"
def TJxbd725 : u_T := fun k => match k with
  | _ => ("", "", "", false)
def tyJxbd725 : Nat → FieldType := fun k => match k with
  | _ => .int
abbrev wsJxbd7250 : List Cond := u_ws RJxbd725 TJxbd725 0
theorem nmJxbd725 : ∀ a, a < 0 → ∀ b, b < 0 → a ≠ b → (TJxbd725 a).2.1 ≠ (TJxbd725 b).2.1 := by decide +kernel
theorem tyJxbd725_ok : ∀ k, k < 0 → parseFieldDescriptor (TJxbd725 k).2.2.1 = some (tyJxbd725 k) := by decide +kernel
def RJ15 : String := "java/util/Objects"
def TJ15 : u_T := fun k => match k with
  | _ => ("", "", "", false)
def tyJ15 : Nat → FieldType := fun k => match k with
  | _ => .int
abbrev wsJ150 : List Cond := u_ws RJ15 TJ15 0
theorem nmJ15 : ∀ a, a < 0 → ∀ b, b < 0 → a ≠ b → (TJ15 a).2.1 ≠ (TJ15 b).2.1 := by decide +kernel
theorem tyJ15_ok : ∀ k, k < 0 → parseFieldDescriptor (TJ15 k).2.2.1 = some (tyJ15 k) := by decide +kernel
abbrev cJ15_checkIndex_7cf53 : ByteArray := prog_31_method_17_code
def yJ15_checkIndex_7cf53 : MethodName := ⟨RJ15, "checkIndex", "(II)I"⟩
def RJxf0a74 : String := "java/util/RandomAccess"
def TJxf0a74 : u_T := fun k => match k with
  | _ => ("", "", "", false)
def tyJxf0a74 : Nat → FieldType := fun k => match k with
  | _ => .int
abbrev wsJxf0a740 : List Cond := u_ws RJxf0a74 TJxf0a74 0
theorem nmJxf0a74 : ∀ a, a < 0 → ∀ b, b < 0 → a ≠ b → (TJxf0a74 a).2.1 ≠ (TJxf0a74 b).2.1 := by decide +kernel
theorem tyJxf0a74_ok : ∀ k, k < 0 → parseFieldDescriptor (TJxf0a74 k).2.2.1 = some (tyJxf0a74 k) := by decide +kernel
def RJxa66e6 : String := "java/util/SequencedCollection"
def TJxa66e6 : u_T := fun k => match k with
  | _ => ("", "", "", false)
def tyJxa66e6 : Nat → FieldType := fun k => match k with
  | _ => .int
abbrev wsJxa66e60 : List Cond := u_ws RJxa66e6 TJxa66e6 0
theorem nmJxa66e6 : ∀ a, a < 0 → ∀ b, b < 0 → a ≠ b → (TJxa66e6 a).2.1 ≠ (TJxa66e6 b).2.1 := by decide +kernel
theorem tyJxa66e6_ok : ∀ k, k < 0 → parseFieldDescriptor (TJxa66e6 k).2.2.1 = some (tyJxa66e6 k) := by decide +kernel
def RJ8 : String := "jdk/internal/util/ArraysSupport"
def TJ8 : u_T := fun k => match k with
  | _ => ("", "", "", false)
def tyJ8 : Nat → FieldType := fun k => match k with
  | _ => .int
abbrev wsJ80 : List Cond := u_ws RJ8 TJ8 0
theorem nmJ8 : ∀ a, a < 0 → ∀ b, b < 0 → a ≠ b → (TJ8 a).2.1 ≠ (TJ8 b).2.1 := by decide +kernel
theorem tyJ8_ok : ∀ k, k < 0 → parseFieldDescriptor (TJ8 k).2.2.1 = some (tyJ8 k) := by decide +kernel
abbrev cJ8_newLength_cabcc : ByteArray := prog_34_method_27_code
def yJ8_newLength_cabcc : MethodName := ⟨RJ8, "newLength", "(III)I"⟩
abbrev cJ8_hugeLength_7cf53 : ByteArray := prog_34_method_28_code
def yJ8_hugeLength_7cf53 : MethodName := ⟨RJ8, "hugeLength", "(II)I"⟩
def RJ3 : String := "jdk/internal/util/Preconditions"
def TJ3 : u_T := fun k => match k with
  | _ => ("", "", "", false)
def tyJ3 : Nat → FieldType := fun k => match k with
  | _ => .int
abbrev wsJ30 : List Cond := u_ws RJ3 TJ3 0
theorem nmJ3 : ∀ a, a < 0 → ∀ b, b < 0 → a ≠ b → (TJ3 a).2.1 ≠ (TJ3 b).2.1 := by decide +kernel
theorem tyJ3_ok : ∀ k, k < 0 → parseFieldDescriptor (TJ3 k).2.2.1 = some (tyJ3 k) := by decide +kernel
abbrev cJ3_checkIndex_8e157 : ByteArray := prog_35_method_11_code
def yJ3_checkIndex_8e157 : MethodName := ⟨RJ3, "checkIndex", "(IILjava/util/function/BiFunction;)I"⟩
def RL : String := "CraterclockLaw"
abbrev cL_ground : ByteArray := method_3_code
def yL_ground : MethodName := ⟨RL, "ground", "(LCraterclock;III[J)I"⟩
abbrev cL_stone : ByteArray := method_4_code
def yL_stone : MethodName := ⟨RL, "stone", "(LCraterclock;III[J)I"⟩
abbrev cL_draw : ByteArray := method_5_code
def yL_draw : MethodName := ⟨RL, "draw", "(LCraterclock;I[J)I"⟩
abbrev cL_rain : ByteArray := method_6_code
def yL_rain : MethodName := ⟨RL, "rain", "(LCraterclock;I[J)I"⟩
abbrev cL_flood : ByteArray := method_7_code
def yL_flood : MethodName := ⟨RL, "flood", "(LCraterclock;IIIII[J)I"⟩
abbrev cL_soften : ByteArray := method_8_code
def yL_soften : MethodName := ⟨RL, "soften", "(LCraterclock;I[J)I"⟩
abbrev cL_eye : ByteArray := method_9_code
def yL_eye : MethodName := ⟨RL, "eye", "(LCraterclock;I[J)I"⟩
abbrev cL_anchor : ByteArray := method_10_code
def yL_anchor : MethodName := ⟨RL, "anchor", "(LCraterclock;JJ[J)I"⟩
abbrev cL_count : ByteArray := method_11_code
def yL_count : MethodName := ⟨RL, "count", "(LCraterclock;IIIIII[J)I"⟩
abbrev cL_age : ByteArray := method_12_code
def yL_age : MethodName := ⟨RL, "age", "(LCraterclock;IIIII[J)I"⟩
abbrev cL_whyNot : ByteArray := method_13_code
def yL_whyNot : MethodName := ⟨RL, "whyNot", "(LCraterclock;IIIII[J)I"⟩
abbrev cL_about : ByteArray := method_14_code
def yL_about : MethodName := ⟨RL, "about", "(LCraterclock;II[J)I"⟩
abbrev cL_depthAnew : ByteArray := method_15_code
def yL_depthAnew : MethodName := ⟨RL, "depthAnew", "(LCraterclock;I[J)I"⟩
abbrev cL_top : ByteArray := method_16_code
def yL_top : MethodName := ⟨RL, "top", "(LCraterclock;II[J)I"⟩
abbrev cL_topAnew : ByteArray := method_17_code
def yL_topAnew : MethodName := ⟨RL, "topAnew", "(LCraterclock;II[J)I"⟩
abbrev cL_law : ByteArray := code
def yL_law : MethodName := ⟨RL, "law", "([I)Z"⟩
def wsX0_init : List Cond := .code yX0_init cX0_init 5 none :: ([.methodLink RX0 1 objectInit, .instanceMethod objectInit, .code objectInit ⟨#[0xb1]⟩ 1 none, .fieldLink RX0 7 "Craterclock$Anchor" "years" "J", .fieldLink RX0 13 "Craterclock$Anchor" "density" "J"] ++ wsX00)
def wsX1_radiusOn : List Cond := .code yX1_radiusOn cX1_radiusOn 2 (some .int) :: ([.methodLink RX1 37 Lib.Math.max.name, .static Lib.Math.max.name, .initialized "java/lang/Math", .code Lib.Math.max.name Lib.Math.max.code 2 (some .int)])
def wsX1_depthOn : List Cond := .code yX1_depthOn cX1_depthOn 2 (some .int) :: ([])
def wsX1_init : List Cond := .code yX1_init cX1_init 5 none :: ([.methodLink RX1 3 objectInit, .instanceMethod objectInit, .code objectInit ⟨#[0xb1]⟩ 1 none, .fieldLink RX1 9 "Craterclock$Crater" "x" "I", .fieldLink RX1 15 "Craterclock$Crater" "y" "I", .fieldLink RX1 18 "Craterclock$Crater" "size" "I", .fieldLink RX1 25 "Craterclock$Crater" "radius" "I", .fieldLink RX1 31 "Craterclock$Crater" "firstDepth" "I", .fieldLink RX1 34 "Craterclock$Crater" "depth" "I", .methodLink RX1 21 yX1_radiusOn, .static yX1_radiusOn, .initialized RX1, .code yX1_radiusOn cX1_radiusOn 2 (some .int), .methodLink RX1 37 Lib.Math.max.name, .static Lib.Math.max.name, .initialized "java/lang/Math", .code Lib.Math.max.name Lib.Math.max.code 2 (some .int), .methodLink RX1 28 yX1_depthOn, .static yX1_depthOn, .code yX1_depthOn cX1_depthOn 2 (some .int)] ++ wsX10)
def wsX1_isWithin : List Cond := .code yX1_isWithin cX1_isWithin 6 (some .boolean) :: ([.fieldLink RX1 9 "Craterclock$Crater" "x" "I", .fieldLink RX1 15 "Craterclock$Crater" "y" "I"] ++ wsX10)
def wsX1_covers : List Cond := .code yX1_covers cX1_covers 3 (some .boolean) :: ([.fieldLink RX1 25 "Craterclock$Crater" "radius" "I", .methodLink RX1 42 yX1_isWithin, .instanceMethod yX1_isWithin, .selects RX1 yX1_isWithin yX1_isWithin, .initialized RX1, .code yX1_isWithin cX1_isWithin 6 (some .boolean), .fieldLink RX1 9 "Craterclock$Crater" "x" "I", .fieldLink RX1 15 "Craterclock$Crater" "y" "I"] ++ wsX10)
def wsX1_lossBy : List Cond := .code yX1_lossBy cX1_lossBy 2 (some .int) :: ([.fieldLink RX1 25 "Craterclock$Crater" "radius" "I", .fieldLink RX1 9 "Craterclock$Crater" "x" "I", .fieldLink RX1 15 "Craterclock$Crater" "y" "I", .fieldLink RX1 31 "Craterclock$Crater" "firstDepth" "I", .fieldLink RX1 18 "Craterclock$Crater" "size" "I", .methodLink RX1 42 yX1_isWithin, .instanceMethod yX1_isWithin, .selects RX1 yX1_isWithin yX1_isWithin, .initialized RX1, .code yX1_isWithin cX1_isWithin 6 (some .boolean)] ++ wsX10)
def wsX1_lessen : List Cond := .code yX1_lessen cX1_lessen 2 (some .boolean) :: ([.fieldLink RX1 34 "Craterclock$Crater" "depth" "I", .methodLink RX1 37 Lib.Math.max.name, .static Lib.Math.max.name, .initialized "java/lang/Math", .code Lib.Math.max.name Lib.Math.max.code 2 (some .int)] ++ wsX10)
def wsJxa1e45_init_da8c8 : List Cond := .code yJxa1e45_init_da8c8 cJxa1e45_init_da8c8 1 none :: ([.methodLink RJxa1e45 1 objectInit, .instanceMethod objectInit, .code objectInit ⟨#[0xb1]⟩ 1 none])
def wsJxc12de_init_da8c8 : List Cond := .code yJxc12de_init_da8c8 cJxc12de_init_da8c8 1 none :: ([.fieldLink RJxc12de 7 "java/util/AbstractList" "modCount" "I", .methodLink RJxc12de 1 yJxa1e45_init_da8c8, .instanceMethod yJxa1e45_init_da8c8, .initialized RJxa1e45, .code yJxa1e45_init_da8c8 cJxa1e45_init_da8c8 1 none, .methodLink RJxa1e45 1 objectInit, .instanceMethod objectInit, .code objectInit ⟨#[0xb1]⟩ 1 none] ++ wsJx4a65c0)
def wsJx4a65c_init_da8c8 : List Cond := .code yJx4a65c_init_da8c8 cJx4a65c_init_da8c8 1 none :: ([.fieldLink RJx4a65c 39 "java/util/ArrayList" "DEFAULTCAPACITY_EMPTY_ELEMENTDATA" "[Ljava/lang/Object;", .fieldLink RJx4a65c 9 "java/util/ArrayList" "elementData" "[Ljava/lang/Object;", .methodLink RJx4a65c 1 yJxc12de_init_da8c8, .instanceMethod yJxc12de_init_da8c8, .initialized RJxc12de, .code yJxc12de_init_da8c8 cJxc12de_init_da8c8 1 none, .fieldLink RJxc12de 7 "java/util/AbstractList" "modCount" "I", .methodLink RJxc12de 1 yJxa1e45_init_da8c8, .instanceMethod yJxa1e45_init_da8c8, .initialized RJxa1e45, .code yJxa1e45_init_da8c8 cJxa1e45_init_da8c8 1 none, .methodLink RJxa1e45 1 objectInit, .instanceMethod objectInit, .code objectInit ⟨#[0xb1]⟩ 1 none] ++ wsJx4a65c0)
def wsX2_init : List Cond := .code yX2_init cX2_init 1 none :: ([.methodLink RX2 3 objectInit, .instanceMethod objectInit, .code objectInit ⟨#[0xb1]⟩ 1 none, .classLink RX2 9 RJx4a65c, .instantiable RJx4a65c 3, .initialized RJx4a65c, .fieldLink RX2 12 "Craterclock$Curve" "anchors" "Ljava/util/ArrayList;", .methodLink RX2 11 yJx4a65c_init_da8c8, .instanceMethod yJx4a65c_init_da8c8, .code yJx4a65c_init_da8c8 cJx4a65c_init_da8c8 1 none, .fieldLink RJx4a65c 39 "java/util/ArrayList" "DEFAULTCAPACITY_EMPTY_ELEMENTDATA" "[Ljava/lang/Object;", .fieldLink RJx4a65c 9 "java/util/ArrayList" "elementData" "[Ljava/lang/Object;", .methodLink RJx4a65c 1 yJxc12de_init_da8c8, .instanceMethod yJxc12de_init_da8c8, .initialized RJxc12de, .code yJxc12de_init_da8c8 cJxc12de_init_da8c8 1 none, .fieldLink RJxc12de 7 "java/util/AbstractList" "modCount" "I", .methodLink RJxc12de 1 yJxa1e45_init_da8c8, .instanceMethod yJxa1e45_init_da8c8, .initialized RJxa1e45, .code yJxa1e45_init_da8c8 cJxa1e45_init_da8c8 1 none, .methodLink RJxa1e45 1 objectInit] ++ wsJx4a65c0 ++ wsX20)
def wsJx4a65c_size_8abf5 : List Cond := .code yJx4a65c_size_8abf5 cJx4a65c_size_8abf5 1 (some .int) :: ([.fieldLink RJx4a65c 48 "java/util/ArrayList" "size" "I"] ++ wsJx4a65c0)
def wsJ3_checkIndex_8e157 : List Cond := .code yJ3_checkIndex_8e157 cJ3_checkIndex_8e157 3 (some .int) :: ([])
def wsJ15_checkIndex_7cf53 : List Cond := .code yJ15_checkIndex_7cf53 cJ15_checkIndex_7cf53 2 (some .int) :: ([.methodLink RJ15 105 yJ3_checkIndex_8e157, .static yJ3_checkIndex_8e157, .initialized RJ3, .code yJ3_checkIndex_8e157 cJ3_checkIndex_8e157 3 (some .int)])
def wsJx4a65c_elementData_915e3 : List Cond := .code yJx4a65c_elementData_915e3 cJx4a65c_elementData_915e3 2 (some (.object "java/lang/Object")) :: ([.fieldLink RJx4a65c 9 "java/util/ArrayList" "elementData" "[Ljava/lang/Object;"] ++ wsJx4a65c0)
def wsJx4a65c_get_915e3 : List Cond := .code yJx4a65c_get_915e3 cJx4a65c_get_915e3 2 (some (.object "java/lang/Object")) :: ([.fieldLink RJx4a65c 48 "java/util/ArrayList" "size" "I", .methodLink RJx4a65c 118 yJ15_checkIndex_7cf53, .static yJ15_checkIndex_7cf53, .initialized RJ15, .code yJ15_checkIndex_7cf53 cJ15_checkIndex_7cf53 2 (some .int), .methodLink RJ15 105 yJ3_checkIndex_8e157, .static yJ3_checkIndex_8e157, .initialized RJ3, .code yJ3_checkIndex_8e157 cJ3_checkIndex_8e157 3 (some .int), .methodLink RJx4a65c 123 yJx4a65c_elementData_915e3, .instanceMethod yJx4a65c_elementData_915e3, .selects RJx4a65c yJx4a65c_elementData_915e3 yJx4a65c_elementData_915e3, .initialized RJx4a65c, .code yJx4a65c_elementData_915e3 cJx4a65c_elementData_915e3 2 (some (.object "java/lang/Object")), .fieldLink RJx4a65c 9 "java/util/ArrayList" "elementData" "[Ljava/lang/Object;"] ++ wsJx4a65c0)
def wsX2_canTake_r1 : List Cond := [Cond.fieldLink RX2 12 "Craterclock$Curve" "anchors" "Ljava/util/ArrayList;", Cond.classLink RX2 26 "Craterclock$Anchor", Cond.fieldLink RX2 28 "Craterclock$Anchor" "years" "J", Cond.fieldLink RX2 32 "Craterclock$Anchor" "density" "J", Cond.methodLink RX2 18 yJx4a65c_size_8abf5, Cond.instanceMethod yJx4a65c_size_8abf5, Cond.selects RJx4a65c yJx4a65c_size_8abf5 yJx4a65c_size_8abf5, Cond.initialized RJx4a65c, Cond.code yJx4a65c_size_8abf5 cJx4a65c_size_8abf5 1 (some .int), Cond.fieldLink RJx4a65c 48 "java/util/ArrayList" "size" "I", Cond.methodLink RX2 22 yJx4a65c_get_915e3, Cond.instanceMethod yJx4a65c_get_915e3, Cond.selects RJx4a65c yJx4a65c_get_915e3 yJx4a65c_get_915e3, Cond.code yJx4a65c_get_915e3 cJx4a65c_get_915e3 2 (some (.object "java/lang/Object")), Cond.methodLink RJx4a65c 118 yJ15_checkIndex_7cf53, Cond.static yJ15_checkIndex_7cf53, Cond.initialized RJ15, Cond.code yJ15_checkIndex_7cf53 cJ15_checkIndex_7cf53 2 (some .int), Cond.methodLink RJ15 105 yJ3_checkIndex_8e157, Cond.static yJ3_checkIndex_8e157, Cond.initialized RJ3, Cond.code yJ3_checkIndex_8e157 cJ3_checkIndex_8e157 3 (some .int), Cond.methodLink RJx4a65c 123 yJx4a65c_elementData_915e3, Cond.instanceMethod yJx4a65c_elementData_915e3]
def wsX2_canTake_r2 : List Cond := [Cond.selects RJx4a65c yJx4a65c_elementData_915e3 yJx4a65c_elementData_915e3, Cond.code yJx4a65c_elementData_915e3 cJx4a65c_elementData_915e3 2 (some (.object "java/lang/Object")), Cond.fieldLink RJx4a65c 9 "java/util/ArrayList" "elementData" "[Ljava/lang/Object;"]
def wsX2_canTake : List Cond := .code yX2_canTake cX2_canTake 7 (some .boolean) :: ((wsX2_canTake_r1 ++ wsX2_canTake_r2) ++ wsX20 ++ wsX00 ++ wsJx4a65c0)
def wsJ8_hugeLength_7cf53 : List Cond := .code yJ8_hugeLength_7cf53 cJ8_hugeLength_7cf53 3 (some .int) :: ([.constant RJ8 200 (2147483639)])
def wsJ8_newLength_cabcc : List Cond := .code yJ8_newLength_cabcc cJ8_newLength_cabcc 4 (some .int) :: ([.methodLink RJ8 194 Lib.Math.max.name, .static Lib.Math.max.name, .initialized "java/lang/Math", .code Lib.Math.max.name Lib.Math.max.code 2 (some .int), .constant RJ8 200 (2147483639), .methodLink RJ8 201 yJ8_hugeLength_7cf53, .static yJ8_hugeLength_7cf53, .initialized RJ8, .code yJ8_hugeLength_7cf53 cJ8_hugeLength_7cf53 3 (some .int)])
def wsJ7_copyOf_6403c : List Cond := .code yJ7_copyOf_6403c cJ7_copyOf_6403c 4 (some (.array (.object "java/lang/Object"))) :: ([.classLink RJ7 110 "[Ljava/lang/Object;", .classLink RJ7 2 "java/lang/Object", .methodLink RJ7 304 Lib.Math.min.name, .static Lib.Math.min.name, .initialized "java/lang/Math", .code Lib.Math.min.name Lib.Math.min.code 2 (some .int), .methodLink RJ7 150 arraycopyName, .native arraycopyName, .static arraycopyName, .initialized "java/lang/System"])
def wsJ7_copyOf_1904c : List Cond := .code yJ7_copyOf_1904c cJ7_copyOf_1904c 2 (some (.array (.object "java/lang/Object"))) :: ([.methodLink RJ7 86 ⟨"java/lang/Object", "getClass", "()Ljava/lang/Class;"⟩, .selects "[Ljava/lang/Object;" ⟨"java/lang/Object", "getClass", "()Ljava/lang/Class;"⟩ ⟨"java/lang/Object", "getClass", "()Ljava/lang/Class;"⟩, .instanceMethod ⟨"java/lang/Object", "getClass", "()Ljava/lang/Class;"⟩, .native ⟨"java/lang/Object", "getClass", "()Ljava/lang/Class;"⟩, .methodLink RJ7 300 yJ7_copyOf_6403c, .static yJ7_copyOf_6403c, .initialized RJ7, .code yJ7_copyOf_6403c cJ7_copyOf_6403c 4 (some (.array (.object "java/lang/Object"))), .classLink RJ7 110 "[Ljava/lang/Object;", .classLink RJ7 2 "java/lang/Object", .methodLink RJ7 304 Lib.Math.min.name, .static Lib.Math.min.name, .initialized "java/lang/Math", .code Lib.Math.min.name Lib.Math.min.code 2 (some .int), .methodLink RJ7 150 arraycopyName, .native arraycopyName, .static arraycopyName, .initialized "java/lang/System"])
def wsJx4a65c_grow_92f84_r1 : List Cond := [Cond.fieldLink RJx4a65c 9 "java/util/ArrayList" "elementData" "[Ljava/lang/Object;", Cond.fieldLink RJx4a65c 39 "java/util/ArrayList" "DEFAULTCAPACITY_EMPTY_ELEMENTDATA" "[Ljava/lang/Object;", Cond.methodLink RJx4a65c 79 Lib.Math.max.name, Cond.static Lib.Math.max.name, Cond.initialized "java/lang/Math", Cond.code Lib.Math.max.name Lib.Math.max.code 2 (some .int), Cond.classLink RJx4a65c 7 "java/lang/Object", Cond.methodLink RJx4a65c 73 yJ8_newLength_cabcc, Cond.static yJ8_newLength_cabcc, Cond.initialized RJ8, Cond.code yJ8_newLength_cabcc cJ8_newLength_cabcc 4 (some .int), Cond.methodLink RJ8 194 Lib.Math.max.name, Cond.constant RJ8 200 (2147483639), Cond.methodLink RJ8 201 yJ8_hugeLength_7cf53, Cond.static yJ8_hugeLength_7cf53, Cond.code yJ8_hugeLength_7cf53 cJ8_hugeLength_7cf53 3 (some .int), Cond.methodLink RJx4a65c 66 yJ7_copyOf_1904c, Cond.static yJ7_copyOf_1904c, Cond.initialized RJ7, Cond.code yJ7_copyOf_1904c cJ7_copyOf_1904c 2 (some (.array (.object "java/lang/Object"))), Cond.methodLink RJ7 86 ⟨"java/lang/Object", "getClass", "()Ljava/lang/Class;"⟩, Cond.selects "[Ljava/lang/Object;" ⟨"java/lang/Object", "getClass", "()Ljava/lang/Class;"⟩ ⟨"java/lang/Object", "getClass", "()Ljava/lang/Class;"⟩, Cond.instanceMethod ⟨"java/lang/Object", "getClass", "()Ljava/lang/Class;"⟩, Cond.native ⟨"java/lang/Object", "getClass", "()Ljava/lang/Class;"⟩]
def wsJx4a65c_grow_92f84_r2 : List Cond := [Cond.methodLink RJ7 300 yJ7_copyOf_6403c, Cond.static yJ7_copyOf_6403c, Cond.code yJ7_copyOf_6403c cJ7_copyOf_6403c 4 (some (.array (.object "java/lang/Object"))), Cond.classLink RJ7 110 "[Ljava/lang/Object;", Cond.classLink RJ7 2 "java/lang/Object", Cond.methodLink RJ7 304 Lib.Math.min.name, Cond.static Lib.Math.min.name, Cond.code Lib.Math.min.name Lib.Math.min.code 2 (some .int), Cond.methodLink RJ7 150 arraycopyName, Cond.native arraycopyName, Cond.static arraycopyName, Cond.initialized "java/lang/System"]
def wsJx4a65c_grow_92f84 : List Cond := .code yJx4a65c_grow_92f84 cJx4a65c_grow_92f84 4 (some (.array (.object "java/lang/Object"))) :: ((wsJx4a65c_grow_92f84_r1 ++ wsJx4a65c_grow_92f84_r2) ++ wsJx4a65c0)
def wsJx4a65c_grow_d5877_r1 : List Cond := [Cond.fieldLink RJx4a65c 48 "java/util/ArrayList" "size" "I", Cond.methodLink RJx4a65c 69 yJx4a65c_grow_92f84, Cond.instanceMethod yJx4a65c_grow_92f84, Cond.selects RJx4a65c yJx4a65c_grow_92f84 yJx4a65c_grow_92f84, Cond.initialized RJx4a65c, Cond.code yJx4a65c_grow_92f84 cJx4a65c_grow_92f84 4 (some (.array (.object "java/lang/Object"))), Cond.fieldLink RJx4a65c 9 "java/util/ArrayList" "elementData" "[Ljava/lang/Object;", Cond.fieldLink RJx4a65c 39 "java/util/ArrayList" "DEFAULTCAPACITY_EMPTY_ELEMENTDATA" "[Ljava/lang/Object;", Cond.methodLink RJx4a65c 79 Lib.Math.max.name, Cond.static Lib.Math.max.name, Cond.initialized "java/lang/Math", Cond.code Lib.Math.max.name Lib.Math.max.code 2 (some .int), Cond.classLink RJx4a65c 7 "java/lang/Object", Cond.methodLink RJx4a65c 73 yJ8_newLength_cabcc, Cond.static yJ8_newLength_cabcc, Cond.initialized RJ8, Cond.code yJ8_newLength_cabcc cJ8_newLength_cabcc 4 (some .int), Cond.methodLink RJ8 194 Lib.Math.max.name, Cond.constant RJ8 200 (2147483639), Cond.methodLink RJ8 201 yJ8_hugeLength_7cf53, Cond.static yJ8_hugeLength_7cf53, Cond.code yJ8_hugeLength_7cf53 cJ8_hugeLength_7cf53 3 (some .int), Cond.methodLink RJx4a65c 66 yJ7_copyOf_1904c, Cond.static yJ7_copyOf_1904c]
def wsJx4a65c_grow_d5877_r2 : List Cond := [Cond.initialized RJ7, Cond.code yJ7_copyOf_1904c cJ7_copyOf_1904c 2 (some (.array (.object "java/lang/Object"))), Cond.methodLink RJ7 86 ⟨"java/lang/Object", "getClass", "()Ljava/lang/Class;"⟩, Cond.selects "[Ljava/lang/Object;" ⟨"java/lang/Object", "getClass", "()Ljava/lang/Class;"⟩ ⟨"java/lang/Object", "getClass", "()Ljava/lang/Class;"⟩, Cond.instanceMethod ⟨"java/lang/Object", "getClass", "()Ljava/lang/Class;"⟩, Cond.native ⟨"java/lang/Object", "getClass", "()Ljava/lang/Class;"⟩, Cond.methodLink RJ7 300 yJ7_copyOf_6403c, Cond.static yJ7_copyOf_6403c, Cond.code yJ7_copyOf_6403c cJ7_copyOf_6403c 4 (some (.array (.object "java/lang/Object"))), Cond.classLink RJ7 110 "[Ljava/lang/Object;", Cond.classLink RJ7 2 "java/lang/Object", Cond.methodLink RJ7 304 Lib.Math.min.name, Cond.static Lib.Math.min.name, Cond.code Lib.Math.min.name Lib.Math.min.code 2 (some .int), Cond.methodLink RJ7 150 arraycopyName, Cond.native arraycopyName, Cond.static arraycopyName, Cond.initialized "java/lang/System"]
def wsJx4a65c_grow_d5877 : List Cond := .code yJx4a65c_grow_d5877 cJx4a65c_grow_d5877 1 (some (.array (.object "java/lang/Object"))) :: ((wsJx4a65c_grow_d5877_r1 ++ wsJx4a65c_grow_d5877_r2) ++ wsJx4a65c0)
def wsJx4a65c_add_72be8_r1 : List Cond := [Cond.fieldLink RJx4a65c 48 "java/util/ArrayList" "size" "I", Cond.methodLink RJx4a65c 129 yJx4a65c_grow_d5877, Cond.instanceMethod yJx4a65c_grow_d5877, Cond.selects RJx4a65c yJx4a65c_grow_d5877 yJx4a65c_grow_d5877, Cond.initialized RJx4a65c, Cond.code yJx4a65c_grow_d5877 cJx4a65c_grow_d5877 1 (some (.array (.object "java/lang/Object"))), Cond.methodLink RJx4a65c 69 yJx4a65c_grow_92f84, Cond.instanceMethod yJx4a65c_grow_92f84, Cond.selects RJx4a65c yJx4a65c_grow_92f84 yJx4a65c_grow_92f84, Cond.code yJx4a65c_grow_92f84 cJx4a65c_grow_92f84 4 (some (.array (.object "java/lang/Object"))), Cond.fieldLink RJx4a65c 9 "java/util/ArrayList" "elementData" "[Ljava/lang/Object;", Cond.fieldLink RJx4a65c 39 "java/util/ArrayList" "DEFAULTCAPACITY_EMPTY_ELEMENTDATA" "[Ljava/lang/Object;", Cond.methodLink RJx4a65c 79 Lib.Math.max.name, Cond.static Lib.Math.max.name, Cond.initialized "java/lang/Math", Cond.code Lib.Math.max.name Lib.Math.max.code 2 (some .int), Cond.classLink RJx4a65c 7 "java/lang/Object", Cond.methodLink RJx4a65c 73 yJ8_newLength_cabcc, Cond.static yJ8_newLength_cabcc, Cond.initialized RJ8, Cond.code yJ8_newLength_cabcc cJ8_newLength_cabcc 4 (some .int), Cond.methodLink RJ8 194 Lib.Math.max.name, Cond.constant RJ8 200 (2147483639), Cond.methodLink RJ8 201 yJ8_hugeLength_7cf53]
def wsJx4a65c_add_72be8_r2 : List Cond := [Cond.static yJ8_hugeLength_7cf53, Cond.code yJ8_hugeLength_7cf53 cJ8_hugeLength_7cf53 3 (some .int), Cond.methodLink RJx4a65c 66 yJ7_copyOf_1904c, Cond.static yJ7_copyOf_1904c, Cond.initialized RJ7, Cond.code yJ7_copyOf_1904c cJ7_copyOf_1904c 2 (some (.array (.object "java/lang/Object"))), Cond.methodLink RJ7 86 ⟨"java/lang/Object", "getClass", "()Ljava/lang/Class;"⟩, Cond.selects "[Ljava/lang/Object;" ⟨"java/lang/Object", "getClass", "()Ljava/lang/Class;"⟩ ⟨"java/lang/Object", "getClass", "()Ljava/lang/Class;"⟩, Cond.instanceMethod ⟨"java/lang/Object", "getClass", "()Ljava/lang/Class;"⟩, Cond.native ⟨"java/lang/Object", "getClass", "()Ljava/lang/Class;"⟩, Cond.methodLink RJ7 300 yJ7_copyOf_6403c, Cond.static yJ7_copyOf_6403c, Cond.code yJ7_copyOf_6403c cJ7_copyOf_6403c 4 (some (.array (.object "java/lang/Object"))), Cond.classLink RJ7 110 "[Ljava/lang/Object;", Cond.classLink RJ7 2 "java/lang/Object", Cond.methodLink RJ7 304 Lib.Math.min.name, Cond.static Lib.Math.min.name, Cond.code Lib.Math.min.name Lib.Math.min.code 2 (some .int), Cond.methodLink RJ7 150 arraycopyName, Cond.native arraycopyName, Cond.static arraycopyName, Cond.initialized "java/lang/System"]
def wsJx4a65c_add_72be8 : List Cond := .code yJx4a65c_add_72be8 cJx4a65c_add_72be8 4 none :: ((wsJx4a65c_add_72be8_r1 ++ wsJx4a65c_add_72be8_r2) ++ wsJx4a65c0)
def wsJx4a65c_add_9ea2d_r1 : List Cond := [Cond.fieldLink RJx4a65c 63 "java/util/ArrayList" "modCount" "I", Cond.sameField "java/util/ArrayList" "java/util/AbstractList" "modCount" "I", Cond.fieldLink RJx4a65c 9 "java/util/ArrayList" "elementData" "[Ljava/lang/Object;", Cond.fieldLink RJx4a65c 48 "java/util/ArrayList" "size" "I", Cond.methodLink RJx4a65c 131 yJx4a65c_add_72be8, Cond.instanceMethod yJx4a65c_add_72be8, Cond.selects RJx4a65c yJx4a65c_add_72be8 yJx4a65c_add_72be8, Cond.initialized RJx4a65c, Cond.code yJx4a65c_add_72be8 cJx4a65c_add_72be8 4 none, Cond.methodLink RJx4a65c 129 yJx4a65c_grow_d5877, Cond.instanceMethod yJx4a65c_grow_d5877, Cond.selects RJx4a65c yJx4a65c_grow_d5877 yJx4a65c_grow_d5877, Cond.code yJx4a65c_grow_d5877 cJx4a65c_grow_d5877 1 (some (.array (.object "java/lang/Object"))), Cond.methodLink RJx4a65c 69 yJx4a65c_grow_92f84, Cond.instanceMethod yJx4a65c_grow_92f84, Cond.selects RJx4a65c yJx4a65c_grow_92f84 yJx4a65c_grow_92f84, Cond.code yJx4a65c_grow_92f84 cJx4a65c_grow_92f84 4 (some (.array (.object "java/lang/Object"))), Cond.fieldLink RJx4a65c 39 "java/util/ArrayList" "DEFAULTCAPACITY_EMPTY_ELEMENTDATA" "[Ljava/lang/Object;", Cond.methodLink RJx4a65c 79 Lib.Math.max.name, Cond.static Lib.Math.max.name, Cond.initialized "java/lang/Math", Cond.code Lib.Math.max.name Lib.Math.max.code 2 (some .int), Cond.classLink RJx4a65c 7 "java/lang/Object", Cond.methodLink RJx4a65c 73 yJ8_newLength_cabcc]
def wsJx4a65c_add_9ea2d_r2 : List Cond := [Cond.static yJ8_newLength_cabcc, Cond.initialized RJ8, Cond.code yJ8_newLength_cabcc cJ8_newLength_cabcc 4 (some .int), Cond.methodLink RJ8 194 Lib.Math.max.name, Cond.constant RJ8 200 (2147483639), Cond.methodLink RJ8 201 yJ8_hugeLength_7cf53, Cond.static yJ8_hugeLength_7cf53, Cond.code yJ8_hugeLength_7cf53 cJ8_hugeLength_7cf53 3 (some .int), Cond.methodLink RJx4a65c 66 yJ7_copyOf_1904c, Cond.static yJ7_copyOf_1904c, Cond.initialized RJ7, Cond.code yJ7_copyOf_1904c cJ7_copyOf_1904c 2 (some (.array (.object "java/lang/Object"))), Cond.methodLink RJ7 86 ⟨"java/lang/Object", "getClass", "()Ljava/lang/Class;"⟩, Cond.selects "[Ljava/lang/Object;" ⟨"java/lang/Object", "getClass", "()Ljava/lang/Class;"⟩ ⟨"java/lang/Object", "getClass", "()Ljava/lang/Class;"⟩, Cond.instanceMethod ⟨"java/lang/Object", "getClass", "()Ljava/lang/Class;"⟩, Cond.native ⟨"java/lang/Object", "getClass", "()Ljava/lang/Class;"⟩, Cond.methodLink RJ7 300 yJ7_copyOf_6403c, Cond.static yJ7_copyOf_6403c, Cond.code yJ7_copyOf_6403c cJ7_copyOf_6403c 4 (some (.array (.object "java/lang/Object"))), Cond.classLink RJ7 110 "[Ljava/lang/Object;", Cond.classLink RJ7 2 "java/lang/Object", Cond.methodLink RJ7 304 Lib.Math.min.name, Cond.static Lib.Math.min.name, Cond.code Lib.Math.min.name Lib.Math.min.code 2 (some .int)]
def wsJx4a65c_add_9ea2d_r3 : List Cond := [Cond.methodLink RJ7 150 arraycopyName, Cond.native arraycopyName, Cond.static arraycopyName, Cond.initialized "java/lang/System"]
def wsJx4a65c_add_9ea2d : List Cond := .code yJx4a65c_add_9ea2d cJx4a65c_add_9ea2d 2 (some .boolean) :: ((wsJx4a65c_add_9ea2d_r1 ++ (wsJx4a65c_add_9ea2d_r2 ++ wsJx4a65c_add_9ea2d_r3)) ++ wsJx4a65c0)
def wsX2_take_r1 : List Cond := [Cond.fieldLink RX2 12 "Craterclock$Curve" "anchors" "Ljava/util/ArrayList;", Cond.classLink RX2 26 RX0, Cond.instantiable RX0 2, Cond.initialized RX0, Cond.methodLink RX2 35 yX0_init, Cond.instanceMethod yX0_init, Cond.code yX0_init cX0_init 5 none, Cond.methodLink RX0 1 objectInit, Cond.instanceMethod objectInit, Cond.code objectInit ⟨#[0xb1]⟩ 1 none, Cond.fieldLink RX0 7 "Craterclock$Anchor" "years" "J", Cond.fieldLink RX0 13 "Craterclock$Anchor" "density" "J", Cond.methodLink RX2 38 yJx4a65c_add_9ea2d, Cond.instanceMethod yJx4a65c_add_9ea2d, Cond.selects RJx4a65c yJx4a65c_add_9ea2d yJx4a65c_add_9ea2d, Cond.initialized RJx4a65c, Cond.code yJx4a65c_add_9ea2d cJx4a65c_add_9ea2d 2 (some .boolean), Cond.fieldLink RJx4a65c 63 "java/util/ArrayList" "modCount" "I", Cond.sameField "java/util/ArrayList" "java/util/AbstractList" "modCount" "I", Cond.fieldLink RJx4a65c 9 "java/util/ArrayList" "elementData" "[Ljava/lang/Object;", Cond.fieldLink RJx4a65c 48 "java/util/ArrayList" "size" "I", Cond.methodLink RJx4a65c 131 yJx4a65c_add_72be8, Cond.instanceMethod yJx4a65c_add_72be8, Cond.selects RJx4a65c yJx4a65c_add_72be8 yJx4a65c_add_72be8]
def wsX2_take_r2 : List Cond := [Cond.code yJx4a65c_add_72be8 cJx4a65c_add_72be8 4 none, Cond.methodLink RJx4a65c 129 yJx4a65c_grow_d5877, Cond.instanceMethod yJx4a65c_grow_d5877, Cond.selects RJx4a65c yJx4a65c_grow_d5877 yJx4a65c_grow_d5877, Cond.code yJx4a65c_grow_d5877 cJx4a65c_grow_d5877 1 (some (.array (.object "java/lang/Object"))), Cond.methodLink RJx4a65c 69 yJx4a65c_grow_92f84, Cond.instanceMethod yJx4a65c_grow_92f84, Cond.selects RJx4a65c yJx4a65c_grow_92f84 yJx4a65c_grow_92f84, Cond.code yJx4a65c_grow_92f84 cJx4a65c_grow_92f84 4 (some (.array (.object "java/lang/Object"))), Cond.fieldLink RJx4a65c 39 "java/util/ArrayList" "DEFAULTCAPACITY_EMPTY_ELEMENTDATA" "[Ljava/lang/Object;", Cond.methodLink RJx4a65c 79 Lib.Math.max.name, Cond.static Lib.Math.max.name, Cond.initialized "java/lang/Math", Cond.code Lib.Math.max.name Lib.Math.max.code 2 (some .int), Cond.classLink RJx4a65c 7 "java/lang/Object", Cond.methodLink RJx4a65c 73 yJ8_newLength_cabcc, Cond.static yJ8_newLength_cabcc, Cond.initialized RJ8, Cond.code yJ8_newLength_cabcc cJ8_newLength_cabcc 4 (some .int), Cond.methodLink RJ8 194 Lib.Math.max.name, Cond.constant RJ8 200 (2147483639), Cond.methodLink RJ8 201 yJ8_hugeLength_7cf53, Cond.static yJ8_hugeLength_7cf53, Cond.code yJ8_hugeLength_7cf53 cJ8_hugeLength_7cf53 3 (some .int)]
def wsX2_take_r3 : List Cond := [Cond.methodLink RJx4a65c 66 yJ7_copyOf_1904c, Cond.static yJ7_copyOf_1904c, Cond.initialized RJ7, Cond.code yJ7_copyOf_1904c cJ7_copyOf_1904c 2 (some (.array (.object "java/lang/Object"))), Cond.methodLink RJ7 86 ⟨"java/lang/Object", "getClass", "()Ljava/lang/Class;"⟩, Cond.selects "[Ljava/lang/Object;" ⟨"java/lang/Object", "getClass", "()Ljava/lang/Class;"⟩ ⟨"java/lang/Object", "getClass", "()Ljava/lang/Class;"⟩, Cond.instanceMethod ⟨"java/lang/Object", "getClass", "()Ljava/lang/Class;"⟩, Cond.native ⟨"java/lang/Object", "getClass", "()Ljava/lang/Class;"⟩, Cond.methodLink RJ7 300 yJ7_copyOf_6403c, Cond.static yJ7_copyOf_6403c, Cond.code yJ7_copyOf_6403c cJ7_copyOf_6403c 4 (some (.array (.object "java/lang/Object"))), Cond.classLink RJ7 110 "[Ljava/lang/Object;", Cond.classLink RJ7 2 "java/lang/Object", Cond.methodLink RJ7 304 Lib.Math.min.name, Cond.static Lib.Math.min.name, Cond.code Lib.Math.min.name Lib.Math.min.code 2 (some .int), Cond.methodLink RJ7 150 arraycopyName, Cond.native arraycopyName, Cond.static arraycopyName, Cond.initialized "java/lang/System", Cond.methodLink RX2 18 yJx4a65c_size_8abf5, Cond.instanceMethod yJx4a65c_size_8abf5, Cond.selects RJx4a65c yJx4a65c_size_8abf5 yJx4a65c_size_8abf5, Cond.code yJx4a65c_size_8abf5 cJx4a65c_size_8abf5 1 (some .int)]
def wsX2_take : List Cond := .code yX2_take cX2_take 5 (some .int) :: ((wsX2_take_r1 ++ (wsX2_take_r2 ++ wsX2_take_r3)) ++ wsX20 ++ wsX00 ++ wsJx4a65c0)
def wsX2_lackFor_r1 : List Cond := [Cond.fieldLink RX2 12 "Craterclock$Curve" "anchors" "Ljava/util/ArrayList;", Cond.classLink RX2 26 "Craterclock$Anchor", Cond.fieldLink RX2 32 "Craterclock$Anchor" "density" "J", Cond.methodLink RX2 18 yJx4a65c_size_8abf5, Cond.instanceMethod yJx4a65c_size_8abf5, Cond.selects RJx4a65c yJx4a65c_size_8abf5 yJx4a65c_size_8abf5, Cond.initialized RJx4a65c, Cond.code yJx4a65c_size_8abf5 cJx4a65c_size_8abf5 1 (some .int), Cond.fieldLink RJx4a65c 48 "java/util/ArrayList" "size" "I", Cond.methodLink RX2 22 yJx4a65c_get_915e3, Cond.instanceMethod yJx4a65c_get_915e3, Cond.selects RJx4a65c yJx4a65c_get_915e3 yJx4a65c_get_915e3, Cond.code yJx4a65c_get_915e3 cJx4a65c_get_915e3 2 (some (.object "java/lang/Object")), Cond.methodLink RJx4a65c 118 yJ15_checkIndex_7cf53, Cond.static yJ15_checkIndex_7cf53, Cond.initialized RJ15, Cond.code yJ15_checkIndex_7cf53 cJ15_checkIndex_7cf53 2 (some .int), Cond.methodLink RJ15 105 yJ3_checkIndex_8e157, Cond.static yJ3_checkIndex_8e157, Cond.initialized RJ3, Cond.code yJ3_checkIndex_8e157 cJ3_checkIndex_8e157 3 (some .int), Cond.methodLink RJx4a65c 123 yJx4a65c_elementData_915e3, Cond.instanceMethod yJx4a65c_elementData_915e3, Cond.selects RJx4a65c yJx4a65c_elementData_915e3 yJx4a65c_elementData_915e3]
def wsX2_lackFor_r2 : List Cond := [Cond.code yJx4a65c_elementData_915e3 cJx4a65c_elementData_915e3 2 (some (.object "java/lang/Object")), Cond.fieldLink RJx4a65c 9 "java/util/ArrayList" "elementData" "[Ljava/lang/Object;"]
def wsX2_lackFor : List Cond := .code yX2_lackFor cX2_lackFor 4 (some .int) :: ((wsX2_lackFor_r1 ++ wsX2_lackFor_r2) ++ wsX20 ++ wsX00 ++ wsJx4a65c0)
def wsX2_dividedDown : List Cond := .code yX2_dividedDown cX2_dividedDown 4 (some .long) :: ([])
def wsX2_yearsOf_r1 : List Cond := [Cond.fieldLink RX2 12 "Craterclock$Curve" "anchors" "Ljava/util/ArrayList;", Cond.classLink RX2 26 "Craterclock$Anchor", Cond.fieldLink RX2 32 "Craterclock$Anchor" "density" "J", Cond.fieldLink RX2 28 "Craterclock$Anchor" "years" "J", Cond.methodLink RX2 18 yJx4a65c_size_8abf5, Cond.instanceMethod yJx4a65c_size_8abf5, Cond.selects RJx4a65c yJx4a65c_size_8abf5 yJx4a65c_size_8abf5, Cond.initialized RJx4a65c, Cond.code yJx4a65c_size_8abf5 cJx4a65c_size_8abf5 1 (some .int), Cond.fieldLink RJx4a65c 48 "java/util/ArrayList" "size" "I", Cond.methodLink RX2 22 yJx4a65c_get_915e3, Cond.instanceMethod yJx4a65c_get_915e3, Cond.selects RJx4a65c yJx4a65c_get_915e3 yJx4a65c_get_915e3, Cond.code yJx4a65c_get_915e3 cJx4a65c_get_915e3 2 (some (.object "java/lang/Object")), Cond.methodLink RJx4a65c 118 yJ15_checkIndex_7cf53, Cond.static yJ15_checkIndex_7cf53, Cond.initialized RJ15, Cond.code yJ15_checkIndex_7cf53 cJ15_checkIndex_7cf53 2 (some .int), Cond.methodLink RJ15 105 yJ3_checkIndex_8e157, Cond.static yJ3_checkIndex_8e157, Cond.initialized RJ3, Cond.code yJ3_checkIndex_8e157 cJ3_checkIndex_8e157 3 (some .int), Cond.methodLink RJx4a65c 123 yJx4a65c_elementData_915e3, Cond.instanceMethod yJx4a65c_elementData_915e3]
def wsX2_yearsOf_r2 : List Cond := [Cond.selects RJx4a65c yJx4a65c_elementData_915e3 yJx4a65c_elementData_915e3, Cond.code yJx4a65c_elementData_915e3 cJx4a65c_elementData_915e3 2 (some (.object "java/lang/Object")), Cond.fieldLink RJx4a65c 9 "java/util/ArrayList" "elementData" "[Ljava/lang/Object;", Cond.methodLink RX2 42 yX2_dividedDown, Cond.static yX2_dividedDown, Cond.initialized RX2, Cond.code yX2_dividedDown cX2_dividedDown 4 (some .long)]
def wsX2_yearsOf : List Cond := .code yX2_yearsOf cX2_yearsOf 11 (some .long) :: ((wsX2_yearsOf_r1 ++ wsX2_yearsOf_r2) ++ wsX20 ++ wsX00 ++ wsJx4a65c0)
def wsX3_init : List Cond := .code yX3_init cX3_init 2 none :: ([.methodLink RX3 1 objectInit, .instanceMethod objectInit, .code objectInit ⟨#[0xb1]⟩ 1 none, .fieldLink RX3 7 "Craterclock$Eye" "skill" "I"] ++ wsX30)
def wsX3_sees : List Cond := .code yX3_sees cX3_sees 2 (some .boolean) :: ([.fieldLink RX3 13 "Craterclock$Crater" "depth" "I", .fieldLink RX3 7 "Craterclock$Eye" "skill" "I"] ++ wsX10 ++ wsX30)
def wsX4_init : List Cond := .code yX4_init cX4_init 5 none :: ([.methodLink RX4 1 objectInit, .instanceMethod objectInit, .code objectInit ⟨#[0xb1]⟩ 1 none, .fieldLink RX4 7 "Craterclock$Field" "x" "I", .fieldLink RX4 13 "Craterclock$Field" "y" "I", .fieldLink RX4 16 "Craterclock$Field" "toX" "I", .fieldLink RX4 19 "Craterclock$Field" "toY" "I"] ++ wsX40)
def wsX4_has : List Cond := .code yX4_has cX4_has 3 (some .boolean) :: ([.fieldLink RX4 7 "Craterclock$Field" "x" "I", .fieldLink RX4 16 "Craterclock$Field" "toX" "I", .fieldLink RX4 13 "Craterclock$Field" "y" "I", .fieldLink RX4 19 "Craterclock$Field" "toY" "I"] ++ wsX40)
def wsX4_cells : List Cond := .code yX4_cells cX4_cells 1 (some .int) :: ([.fieldLink RX4 16 "Craterclock$Field" "toX" "I", .fieldLink RX4 7 "Craterclock$Field" "x" "I", .fieldLink RX4 19 "Craterclock$Field" "toY" "I", .fieldLink RX4 13 "Craterclock$Field" "y" "I"] ++ wsX40)
def wsX7_init : List Cond := .code yX7_init cX7_init 2 none :: ([.methodLink RX7 1 objectInit, .instanceMethod objectInit, .code objectInit ⟨#[0xb1]⟩ 1 none, .fieldLink RX7 7 "Craterclock$Lessening" "cratersThen" "I"] ++ wsX50 ++ wsX80)
def wsX5_init : List Cond := .code yX5_init cX5_init 4 none :: ([.fieldLink RX5 7 "Craterclock$Flood" "field" "LCraterclock$Field;", .fieldLink RX5 13 "Craterclock$Flood" "thick" "I", .methodLink RX5 1 yX7_init, .instanceMethod yX7_init, .initialized RX7, .code yX7_init cX7_init 2 none, .methodLink RX7 1 objectInit, .instanceMethod objectInit, .code objectInit ⟨#[0xb1]⟩ 1 none, .fieldLink RX7 7 "Craterclock$Lessening" "cratersThen" "I"] ++ wsX50 ++ wsX80)
def wsX5_lossOf : List Cond := .code yX5_lossOf cX5_lossOf 2 (some .int) :: ([.fieldLink RX5 7 "Craterclock$Flood" "field" "LCraterclock$Field;", .fieldLink RX5 17 "Craterclock$Crater" "x" "I", .fieldLink RX5 22 "Craterclock$Crater" "y" "I", .fieldLink RX5 13 "Craterclock$Flood" "thick" "I", .methodLink RX5 25 yX4_has, .instanceMethod yX4_has, .selects RX4 yX4_has yX4_has, .initialized RX4, .code yX4_has cX4_has 3 (some .boolean), .fieldLink RX4 7 "Craterclock$Field" "x" "I", .fieldLink RX4 16 "Craterclock$Field" "toX" "I", .fieldLink RX4 13 "Craterclock$Field" "y" "I", .fieldLink RX4 19 "Craterclock$Field" "toY" "I"] ++ wsX50 ++ wsX10 ++ wsX40)
def wsX6_init : List Cond := .code yX6_init cX6_init 2 none :: ([.methodLink RX6 3 objectInit, .instanceMethod objectInit, .code objectInit ⟨#[0xb1]⟩ 1 none, .fieldLink RX6 9 "Craterclock$Ground" "rows" "[I"] ++ wsX60)
def wsX6_copy : List Cond := .code yX6_copy cX6_copy 1 (some (.object "Craterclock$Ground")) :: ([.classLink RX6 10 RX6, .instantiable RX6 1, .initialized RX6, .fieldLink RX6 9 "Craterclock$Ground" "rows" "[I", .methodLink RX6 15 ⟨"[I", "clone", "()Ljava/lang/Object;"⟩, .sameMethod "[I" "java/lang/Object" "clone" "()Ljava/lang/Object;", .native ⟨"java/lang/Object", "clone", "()Ljava/lang/Object;"⟩, .instanceMethod ⟨"java/lang/Object", "clone", "()Ljava/lang/Object;"⟩, .selects "[I" ⟨"[I", "clone", "()Ljava/lang/Object;"⟩ ⟨"java/lang/Object", "clone", "()Ljava/lang/Object;"⟩, .classLink RX6 16 "[I", .methodLink RX6 20 yX6_init, .instanceMethod yX6_init, .code yX6_init cX6_init 2 none, .methodLink RX6 3 objectInit, .instanceMethod objectInit, .code objectInit ⟨#[0xb1]⟩ 1 none] ++ wsX60)
def wsX6_kindAt : List Cond := .code yX6_kindAt cX6_kindAt 3 (some .int) :: ([.fieldLink RX6 9 "Craterclock$Ground" "rows" "[I"] ++ wsX60)
def wsX6_setKind : List Cond := .code yX6_setKind cX6_setKind 4 none :: ([.fieldLink RX6 9 "Craterclock$Ground" "rows" "[I"] ++ wsX60)
def wsX8_init : List Cond := .code yX8_init cX8_init 4 none :: ([.fieldLink RX8 9 "Craterclock$Softening" "cellsThen" "LCraterclock$Ground;", .fieldLink RX8 15 "Craterclock$Softening" "steps" "I", .methodLink RX8 3 yX7_init, .instanceMethod yX7_init, .initialized RX7, .code yX7_init cX7_init 2 none, .methodLink RX7 1 objectInit, .instanceMethod objectInit, .code objectInit ⟨#[0xb1]⟩ 1 none, .fieldLink RX7 7 "Craterclock$Lessening" "cratersThen" "I"] ++ wsX80 ++ wsX50)
def wsX8_lossOf : List Cond := .code yX8_lossOf cX8_lossOf 2 (some .int) :: ([.fieldLink RX8 9 "Craterclock$Softening" "cellsThen" "LCraterclock$Ground;", .fieldLink RX8 19 "Craterclock$Crater" "x" "I", .fieldLink RX8 24 "Craterclock$Crater" "y" "I", .fieldLink RX8 15 "Craterclock$Softening" "steps" "I", .methodLink RX8 27 yX6_kindAt, .instanceMethod yX6_kindAt, .selects RX6 yX6_kindAt yX6_kindAt, .initialized RX6, .code yX6_kindAt cX6_kindAt 3 (some .int), .fieldLink RX6 9 "Craterclock$Ground" "rows" "[I"] ++ wsX80 ++ wsX10 ++ wsX60)
def wsX9_init_r1 : List Cond := [Cond.methodLink RX9 1 objectInit, Cond.instanceMethod objectInit, Cond.code objectInit ⟨#[0xb1]⟩ 1 none, Cond.classLink RX9 7 RX6, Cond.instantiable RX6 1, Cond.initialized RX6, Cond.arrayClass .int, Cond.fieldLink RX9 14 "Craterclock" "cells" "LCraterclock$Ground;", Cond.classLink RX9 18 RJx4a65c, Cond.instantiable RJx4a65c 3, Cond.initialized RJx4a65c, Cond.fieldLink RX9 21 "Craterclock" "fallen" "Ljava/util/ArrayList;", Cond.fieldLink RX9 25 "Craterclock" "lessenings" "Ljava/util/ArrayList;", Cond.fieldLink RX9 28 "Craterclock" "eyes" "Ljava/util/ArrayList;", Cond.classLink RX9 31 RX2, Cond.instantiable RX2 1, Cond.initialized RX2, Cond.fieldLink RX9 34 "Craterclock" "curve" "LCraterclock$Curve;", Cond.fieldLink RX9 38 "Craterclock" "drawn" "I", Cond.methodLink RX9 11 yX6_init, Cond.instanceMethod yX6_init, Cond.code yX6_init cX6_init 2 none, Cond.methodLink RX6 3 objectInit, Cond.fieldLink RX6 9 "Craterclock$Ground" "rows" "[I"]
def wsX9_init_r2 : List Cond := [Cond.methodLink RX9 20 yJx4a65c_init_da8c8, Cond.instanceMethod yJx4a65c_init_da8c8, Cond.code yJx4a65c_init_da8c8 cJx4a65c_init_da8c8 1 none, Cond.fieldLink RJx4a65c 39 "java/util/ArrayList" "DEFAULTCAPACITY_EMPTY_ELEMENTDATA" "[Ljava/lang/Object;", Cond.fieldLink RJx4a65c 9 "java/util/ArrayList" "elementData" "[Ljava/lang/Object;", Cond.methodLink RJx4a65c 1 yJxc12de_init_da8c8, Cond.instanceMethod yJxc12de_init_da8c8, Cond.initialized RJxc12de, Cond.code yJxc12de_init_da8c8 cJxc12de_init_da8c8 1 none, Cond.fieldLink RJxc12de 7 "java/util/AbstractList" "modCount" "I", Cond.methodLink RJxc12de 1 yJxa1e45_init_da8c8, Cond.instanceMethod yJxa1e45_init_da8c8, Cond.initialized RJxa1e45, Cond.code yJxa1e45_init_da8c8 cJxa1e45_init_da8c8 1 none, Cond.methodLink RJxa1e45 1 objectInit, Cond.methodLink RX9 33 yX2_init, Cond.instanceMethod yX2_init, Cond.code yX2_init cX2_init 1 none, Cond.methodLink RX2 3 objectInit, Cond.classLink RX2 9 RJx4a65c, Cond.fieldLink RX2 12 "Craterclock$Curve" "anchors" "Ljava/util/ArrayList;", Cond.methodLink RX2 11 yJx4a65c_init_da8c8]
def wsX9_init : List Cond := .code yX9_init cX9_init 1 none :: ((wsX9_init_r1 ++ wsX9_init_r2) ++ wsX60 ++ wsX90 ++ wsJx4a65c0 ++ wsX20)
def wsX9_requireCell : List Cond := .code yX9_requireCell cX9_requireCell 2 none :: ([.classLink RX9 245 "java/lang/IndexOutOfBoundsException", .initialized "java/lang/IndexOutOfBoundsException"] ++ (vx_atS RX9 249 "java/lang/IndexOutOfBoundsException" ["java/lang/RuntimeException", "java/lang/Exception"]).filter goodWord)
def wsX9_requireRange : List Cond := .code yX9_requireRange cX9_requireRange 6 none :: ([.classLink RX9 254 "java/lang/IllegalArgumentException", .initialized "java/lang/IllegalArgumentException"] ++ (vx_atS RX9 258 "java/lang/IllegalArgumentException" ["java/lang/RuntimeException", "java/lang/Exception"]).filter goodWord)
def wsX9_ground : List Cond := .code yX9_ground cX9_ground 5 (some .int) :: ([.constantLong RX9 46 (2), .fieldLink RX9 14 "Craterclock" "cells" "LCraterclock$Ground;", .methodLink RX9 42 yX9_requireCell, .static yX9_requireCell, .initialized RX9, .code yX9_requireCell cX9_requireCell 2 none, .classLink RX9 245 "java/lang/IndexOutOfBoundsException", .initialized "java/lang/IndexOutOfBoundsException", .methodLink RX9 48 yX9_requireRange, .static yX9_requireRange, .code yX9_requireRange cX9_requireRange 6 none, .classLink RX9 254 "java/lang/IllegalArgumentException", .initialized "java/lang/IllegalArgumentException", .methodLink RX9 52 yX6_kindAt, .instanceMethod yX6_kindAt, .selects RX6 yX6_kindAt yX6_kindAt, .initialized RX6, .code yX6_kindAt cX6_kindAt 3 (some .int), .fieldLink RX6 9 "Craterclock$Ground" "rows" "[I", .methodLink RX9 56 yX6_setKind, .instanceMethod yX6_setKind, .selects RX6 yX6_setKind yX6_setKind, .code yX6_setKind cX6_setKind 4 none] ++ wsX90 ++ wsX60 ++ (vx_atS RX9 249 "java/lang/IndexOutOfBoundsException" ["java/lang/RuntimeException", "java/lang/Exception"]).filter goodWord ++ (vx_atS RX9 258 "java/lang/IllegalArgumentException" ["java/lang/RuntimeException", "java/lang/Exception"]).filter goodWord)
def wsX9_requireRoomForCraters : List Cond := .code yX9_requireRoomForCraters cX9_requireRoomForCraters 2 none :: ([.classLink RX9 121 "java/lang/IllegalStateException", .initialized "java/lang/IllegalStateException", .fieldLink RX9 21 "Craterclock" "fallen" "Ljava/util/ArrayList;", .methodLink RX9 96 yJx4a65c_size_8abf5, .instanceMethod yJx4a65c_size_8abf5, .selects RJx4a65c yJx4a65c_size_8abf5 yJx4a65c_size_8abf5, .initialized RJx4a65c, .code yJx4a65c_size_8abf5 cJx4a65c_size_8abf5 1 (some .int), .fieldLink RJx4a65c 48 "java/util/ArrayList" "size" "I"] ++ wsX90 ++ wsJx4a65c0 ++ (vx_atS RX9 125 "java/lang/IllegalStateException" ["java/lang/RuntimeException", "java/lang/Exception"]).filter goodWord)
def wsX9_dropStone_r1 : List Cond := [Cond.classLink RX9 183 RX1, Cond.instantiable RX1 6, Cond.initialized RX1, Cond.fieldLink RX9 14 "Craterclock" "cells" "LCraterclock$Ground;", Cond.fieldLink RX9 21 "Craterclock" "fallen" "Ljava/util/ArrayList;", Cond.classLink RX9 183 "Craterclock$Crater", Cond.methodLink RX9 52 yX6_kindAt, Cond.instanceMethod yX6_kindAt, Cond.selects RX6 yX6_kindAt yX6_kindAt, Cond.initialized RX6, Cond.code yX6_kindAt cX6_kindAt 3 (some .int), Cond.fieldLink RX6 9 "Craterclock$Ground" "rows" "[I", Cond.methodLink RX9 204 yX1_init, Cond.instanceMethod yX1_init, Cond.code yX1_init cX1_init 5 none, Cond.methodLink RX1 3 objectInit, Cond.instanceMethod objectInit, Cond.code objectInit ⟨#[0xb1]⟩ 1 none, Cond.fieldLink RX1 9 "Craterclock$Crater" "x" "I", Cond.fieldLink RX1 15 "Craterclock$Crater" "y" "I", Cond.fieldLink RX1 18 "Craterclock$Crater" "size" "I", Cond.fieldLink RX1 25 "Craterclock$Crater" "radius" "I", Cond.fieldLink RX1 31 "Craterclock$Crater" "firstDepth" "I", Cond.fieldLink RX1 34 "Craterclock$Crater" "depth" "I"]
def wsX9_dropStone_r2 : List Cond := [Cond.methodLink RX1 21 yX1_radiusOn, Cond.static yX1_radiusOn, Cond.code yX1_radiusOn cX1_radiusOn 2 (some .int), Cond.methodLink RX1 37 Lib.Math.max.name, Cond.static Lib.Math.max.name, Cond.initialized "java/lang/Math", Cond.code Lib.Math.max.name Lib.Math.max.code 2 (some .int), Cond.methodLink RX1 28 yX1_depthOn, Cond.static yX1_depthOn, Cond.code yX1_depthOn cX1_depthOn 2 (some .int), Cond.methodLink RX9 96 yJx4a65c_size_8abf5, Cond.instanceMethod yJx4a65c_size_8abf5, Cond.selects RJx4a65c yJx4a65c_size_8abf5 yJx4a65c_size_8abf5, Cond.initialized RJx4a65c, Cond.code yJx4a65c_size_8abf5 cJx4a65c_size_8abf5 1 (some .int), Cond.fieldLink RJx4a65c 48 "java/util/ArrayList" "size" "I", Cond.methodLink RX9 179 yJx4a65c_get_915e3, Cond.instanceMethod yJx4a65c_get_915e3, Cond.selects RJx4a65c yJx4a65c_get_915e3 yJx4a65c_get_915e3, Cond.code yJx4a65c_get_915e3 cJx4a65c_get_915e3 2 (some (.object "java/lang/Object")), Cond.methodLink RJx4a65c 118 yJ15_checkIndex_7cf53, Cond.static yJ15_checkIndex_7cf53, Cond.initialized RJ15, Cond.code yJ15_checkIndex_7cf53 cJ15_checkIndex_7cf53 2 (some .int)]
def wsX9_dropStone_r3 : List Cond := [Cond.methodLink RJ15 105 yJ3_checkIndex_8e157, Cond.static yJ3_checkIndex_8e157, Cond.initialized RJ3, Cond.code yJ3_checkIndex_8e157 cJ3_checkIndex_8e157 3 (some .int), Cond.methodLink RJx4a65c 123 yJx4a65c_elementData_915e3, Cond.instanceMethod yJx4a65c_elementData_915e3, Cond.selects RJx4a65c yJx4a65c_elementData_915e3 yJx4a65c_elementData_915e3, Cond.code yJx4a65c_elementData_915e3 cJx4a65c_elementData_915e3 2 (some (.object "java/lang/Object")), Cond.fieldLink RJx4a65c 9 "java/util/ArrayList" "elementData" "[Ljava/lang/Object;", Cond.methodLink RX9 205 yX1_lossBy, Cond.instanceMethod yX1_lossBy, Cond.selects RX1 yX1_lossBy yX1_lossBy, Cond.code yX1_lossBy cX1_lossBy 2 (some .int), Cond.methodLink RX1 42 yX1_isWithin, Cond.instanceMethod yX1_isWithin, Cond.selects RX1 yX1_isWithin yX1_isWithin, Cond.code yX1_isWithin cX1_isWithin 6 (some .boolean), Cond.methodLink RX9 209 yX1_lessen, Cond.instanceMethod yX1_lessen, Cond.selects RX1 yX1_lessen yX1_lessen, Cond.code yX1_lessen cX1_lessen 2 (some .boolean), Cond.methodLink RX9 132 yJx4a65c_add_9ea2d, Cond.instanceMethod yJx4a65c_add_9ea2d, Cond.selects RJx4a65c yJx4a65c_add_9ea2d yJx4a65c_add_9ea2d]
def wsX9_dropStone_r4 : List Cond := [Cond.code yJx4a65c_add_9ea2d cJx4a65c_add_9ea2d 2 (some .boolean), Cond.fieldLink RJx4a65c 63 "java/util/ArrayList" "modCount" "I", Cond.sameField "java/util/ArrayList" "java/util/AbstractList" "modCount" "I", Cond.methodLink RJx4a65c 131 yJx4a65c_add_72be8, Cond.instanceMethod yJx4a65c_add_72be8, Cond.selects RJx4a65c yJx4a65c_add_72be8 yJx4a65c_add_72be8, Cond.code yJx4a65c_add_72be8 cJx4a65c_add_72be8 4 none, Cond.methodLink RJx4a65c 129 yJx4a65c_grow_d5877, Cond.instanceMethod yJx4a65c_grow_d5877, Cond.selects RJx4a65c yJx4a65c_grow_d5877 yJx4a65c_grow_d5877, Cond.code yJx4a65c_grow_d5877 cJx4a65c_grow_d5877 1 (some (.array (.object "java/lang/Object"))), Cond.methodLink RJx4a65c 69 yJx4a65c_grow_92f84, Cond.instanceMethod yJx4a65c_grow_92f84, Cond.selects RJx4a65c yJx4a65c_grow_92f84 yJx4a65c_grow_92f84, Cond.code yJx4a65c_grow_92f84 cJx4a65c_grow_92f84 4 (some (.array (.object "java/lang/Object"))), Cond.fieldLink RJx4a65c 39 "java/util/ArrayList" "DEFAULTCAPACITY_EMPTY_ELEMENTDATA" "[Ljava/lang/Object;", Cond.methodLink RJx4a65c 79 Lib.Math.max.name, Cond.classLink RJx4a65c 7 "java/lang/Object", Cond.methodLink RJx4a65c 73 yJ8_newLength_cabcc, Cond.static yJ8_newLength_cabcc, Cond.initialized RJ8, Cond.code yJ8_newLength_cabcc cJ8_newLength_cabcc 4 (some .int), Cond.methodLink RJ8 194 Lib.Math.max.name, Cond.constant RJ8 200 (2147483639)]
def wsX9_dropStone_r5 : List Cond := [Cond.methodLink RJ8 201 yJ8_hugeLength_7cf53, Cond.static yJ8_hugeLength_7cf53, Cond.code yJ8_hugeLength_7cf53 cJ8_hugeLength_7cf53 3 (some .int), Cond.methodLink RJx4a65c 66 yJ7_copyOf_1904c, Cond.static yJ7_copyOf_1904c, Cond.initialized RJ7, Cond.code yJ7_copyOf_1904c cJ7_copyOf_1904c 2 (some (.array (.object "java/lang/Object"))), Cond.methodLink RJ7 86 ⟨"java/lang/Object", "getClass", "()Ljava/lang/Class;"⟩, Cond.selects "[Ljava/lang/Object;" ⟨"java/lang/Object", "getClass", "()Ljava/lang/Class;"⟩ ⟨"java/lang/Object", "getClass", "()Ljava/lang/Class;"⟩, Cond.instanceMethod ⟨"java/lang/Object", "getClass", "()Ljava/lang/Class;"⟩, Cond.native ⟨"java/lang/Object", "getClass", "()Ljava/lang/Class;"⟩, Cond.methodLink RJ7 300 yJ7_copyOf_6403c, Cond.static yJ7_copyOf_6403c, Cond.code yJ7_copyOf_6403c cJ7_copyOf_6403c 4 (some (.array (.object "java/lang/Object"))), Cond.classLink RJ7 110 "[Ljava/lang/Object;", Cond.classLink RJ7 2 "java/lang/Object", Cond.methodLink RJ7 304 Lib.Math.min.name, Cond.static Lib.Math.min.name, Cond.code Lib.Math.min.name Lib.Math.min.code 2 (some .int), Cond.methodLink RJ7 150 arraycopyName, Cond.native arraycopyName, Cond.static arraycopyName, Cond.initialized "java/lang/System"]
def wsX9_dropStone : List Cond := .code yX9_dropStone cX9_dropStone 8 (some .int) :: ((wsX9_dropStone_r1 ++ (wsX9_dropStone_r2 ++ (wsX9_dropStone_r3 ++ (wsX9_dropStone_r4 ++ wsX9_dropStone_r5)))) ++ wsX10 ++ wsX90 ++ wsX60 ++ wsJx4a65c0)
def wsX9_stone_r1 : List Cond := [Cond.constantLong RX9 60 (6), Cond.methodLink RX9 42 yX9_requireCell, Cond.static yX9_requireCell, Cond.initialized RX9, Cond.code yX9_requireCell cX9_requireCell 2 none, Cond.classLink RX9 245 "java/lang/IndexOutOfBoundsException", Cond.initialized "java/lang/IndexOutOfBoundsException", Cond.methodLink RX9 48 yX9_requireRange, Cond.static yX9_requireRange, Cond.code yX9_requireRange cX9_requireRange 6 none, Cond.classLink RX9 254 "java/lang/IllegalArgumentException", Cond.initialized "java/lang/IllegalArgumentException", Cond.methodLink RX9 62 yX9_requireRoomForCraters, Cond.instanceMethod yX9_requireRoomForCraters, Cond.selects RX9 yX9_requireRoomForCraters yX9_requireRoomForCraters, Cond.code yX9_requireRoomForCraters cX9_requireRoomForCraters 2 none, Cond.classLink RX9 121 "java/lang/IllegalStateException", Cond.initialized "java/lang/IllegalStateException", Cond.fieldLink RX9 21 "Craterclock" "fallen" "Ljava/util/ArrayList;", Cond.methodLink RX9 96 yJx4a65c_size_8abf5, Cond.instanceMethod yJx4a65c_size_8abf5, Cond.selects RJx4a65c yJx4a65c_size_8abf5 yJx4a65c_size_8abf5, Cond.initialized RJx4a65c, Cond.code yJx4a65c_size_8abf5 cJx4a65c_size_8abf5 1 (some .int)]
def wsX9_stone_r2 : List Cond := [Cond.fieldLink RJx4a65c 48 "java/util/ArrayList" "size" "I", Cond.methodLink RX9 66 yX9_dropStone, Cond.instanceMethod yX9_dropStone, Cond.selects RX9 yX9_dropStone yX9_dropStone, Cond.code yX9_dropStone cX9_dropStone 8 (some .int), Cond.classLink RX9 183 RX1, Cond.instantiable RX1 6, Cond.initialized RX1, Cond.fieldLink RX9 14 "Craterclock" "cells" "LCraterclock$Ground;", Cond.classLink RX9 183 "Craterclock$Crater", Cond.methodLink RX9 52 yX6_kindAt, Cond.instanceMethod yX6_kindAt, Cond.selects RX6 yX6_kindAt yX6_kindAt, Cond.initialized RX6, Cond.code yX6_kindAt cX6_kindAt 3 (some .int), Cond.fieldLink RX6 9 "Craterclock$Ground" "rows" "[I", Cond.methodLink RX9 204 yX1_init, Cond.instanceMethod yX1_init, Cond.code yX1_init cX1_init 5 none, Cond.methodLink RX1 3 objectInit, Cond.instanceMethod objectInit, Cond.code objectInit ⟨#[0xb1]⟩ 1 none, Cond.fieldLink RX1 9 "Craterclock$Crater" "x" "I", Cond.fieldLink RX1 15 "Craterclock$Crater" "y" "I"]
def wsX9_stone_r3 : List Cond := [Cond.fieldLink RX1 18 "Craterclock$Crater" "size" "I", Cond.fieldLink RX1 25 "Craterclock$Crater" "radius" "I", Cond.fieldLink RX1 31 "Craterclock$Crater" "firstDepth" "I", Cond.fieldLink RX1 34 "Craterclock$Crater" "depth" "I", Cond.methodLink RX1 21 yX1_radiusOn, Cond.static yX1_radiusOn, Cond.code yX1_radiusOn cX1_radiusOn 2 (some .int), Cond.methodLink RX1 37 Lib.Math.max.name, Cond.static Lib.Math.max.name, Cond.initialized "java/lang/Math", Cond.code Lib.Math.max.name Lib.Math.max.code 2 (some .int), Cond.methodLink RX1 28 yX1_depthOn, Cond.static yX1_depthOn, Cond.code yX1_depthOn cX1_depthOn 2 (some .int), Cond.methodLink RX9 179 yJx4a65c_get_915e3, Cond.instanceMethod yJx4a65c_get_915e3, Cond.selects RJx4a65c yJx4a65c_get_915e3 yJx4a65c_get_915e3, Cond.code yJx4a65c_get_915e3 cJx4a65c_get_915e3 2 (some (.object "java/lang/Object")), Cond.methodLink RJx4a65c 118 yJ15_checkIndex_7cf53, Cond.static yJ15_checkIndex_7cf53, Cond.initialized RJ15, Cond.code yJ15_checkIndex_7cf53 cJ15_checkIndex_7cf53 2 (some .int), Cond.methodLink RJ15 105 yJ3_checkIndex_8e157, Cond.static yJ3_checkIndex_8e157]
def wsX9_stone_r4 : List Cond := [Cond.initialized RJ3, Cond.code yJ3_checkIndex_8e157 cJ3_checkIndex_8e157 3 (some .int), Cond.methodLink RJx4a65c 123 yJx4a65c_elementData_915e3, Cond.instanceMethod yJx4a65c_elementData_915e3, Cond.selects RJx4a65c yJx4a65c_elementData_915e3 yJx4a65c_elementData_915e3, Cond.code yJx4a65c_elementData_915e3 cJx4a65c_elementData_915e3 2 (some (.object "java/lang/Object")), Cond.fieldLink RJx4a65c 9 "java/util/ArrayList" "elementData" "[Ljava/lang/Object;", Cond.methodLink RX9 205 yX1_lossBy, Cond.instanceMethod yX1_lossBy, Cond.selects RX1 yX1_lossBy yX1_lossBy, Cond.code yX1_lossBy cX1_lossBy 2 (some .int), Cond.methodLink RX1 42 yX1_isWithin, Cond.instanceMethod yX1_isWithin, Cond.selects RX1 yX1_isWithin yX1_isWithin, Cond.code yX1_isWithin cX1_isWithin 6 (some .boolean), Cond.methodLink RX9 209 yX1_lessen, Cond.instanceMethod yX1_lessen, Cond.selects RX1 yX1_lessen yX1_lessen, Cond.code yX1_lessen cX1_lessen 2 (some .boolean), Cond.methodLink RX9 132 yJx4a65c_add_9ea2d, Cond.instanceMethod yJx4a65c_add_9ea2d, Cond.selects RJx4a65c yJx4a65c_add_9ea2d yJx4a65c_add_9ea2d, Cond.code yJx4a65c_add_9ea2d cJx4a65c_add_9ea2d 2 (some .boolean), Cond.fieldLink RJx4a65c 63 "java/util/ArrayList" "modCount" "I"]
def wsX9_stone_r5 : List Cond := [Cond.sameField "java/util/ArrayList" "java/util/AbstractList" "modCount" "I", Cond.methodLink RJx4a65c 131 yJx4a65c_add_72be8, Cond.instanceMethod yJx4a65c_add_72be8, Cond.selects RJx4a65c yJx4a65c_add_72be8 yJx4a65c_add_72be8, Cond.code yJx4a65c_add_72be8 cJx4a65c_add_72be8 4 none, Cond.methodLink RJx4a65c 129 yJx4a65c_grow_d5877, Cond.instanceMethod yJx4a65c_grow_d5877, Cond.selects RJx4a65c yJx4a65c_grow_d5877 yJx4a65c_grow_d5877, Cond.code yJx4a65c_grow_d5877 cJx4a65c_grow_d5877 1 (some (.array (.object "java/lang/Object"))), Cond.methodLink RJx4a65c 69 yJx4a65c_grow_92f84, Cond.instanceMethod yJx4a65c_grow_92f84, Cond.selects RJx4a65c yJx4a65c_grow_92f84 yJx4a65c_grow_92f84, Cond.code yJx4a65c_grow_92f84 cJx4a65c_grow_92f84 4 (some (.array (.object "java/lang/Object"))), Cond.fieldLink RJx4a65c 39 "java/util/ArrayList" "DEFAULTCAPACITY_EMPTY_ELEMENTDATA" "[Ljava/lang/Object;", Cond.methodLink RJx4a65c 79 Lib.Math.max.name, Cond.classLink RJx4a65c 7 "java/lang/Object", Cond.methodLink RJx4a65c 73 yJ8_newLength_cabcc, Cond.static yJ8_newLength_cabcc, Cond.initialized RJ8, Cond.code yJ8_newLength_cabcc cJ8_newLength_cabcc 4 (some .int), Cond.methodLink RJ8 194 Lib.Math.max.name, Cond.constant RJ8 200 (2147483639), Cond.methodLink RJ8 201 yJ8_hugeLength_7cf53, Cond.static yJ8_hugeLength_7cf53]
def wsX9_stone_r6 : List Cond := [Cond.code yJ8_hugeLength_7cf53 cJ8_hugeLength_7cf53 3 (some .int), Cond.methodLink RJx4a65c 66 yJ7_copyOf_1904c, Cond.static yJ7_copyOf_1904c, Cond.initialized RJ7, Cond.code yJ7_copyOf_1904c cJ7_copyOf_1904c 2 (some (.array (.object "java/lang/Object"))), Cond.methodLink RJ7 86 ⟨"java/lang/Object", "getClass", "()Ljava/lang/Class;"⟩, Cond.selects "[Ljava/lang/Object;" ⟨"java/lang/Object", "getClass", "()Ljava/lang/Class;"⟩ ⟨"java/lang/Object", "getClass", "()Ljava/lang/Class;"⟩, Cond.instanceMethod ⟨"java/lang/Object", "getClass", "()Ljava/lang/Class;"⟩, Cond.native ⟨"java/lang/Object", "getClass", "()Ljava/lang/Class;"⟩, Cond.methodLink RJ7 300 yJ7_copyOf_6403c, Cond.static yJ7_copyOf_6403c, Cond.code yJ7_copyOf_6403c cJ7_copyOf_6403c 4 (some (.array (.object "java/lang/Object"))), Cond.classLink RJ7 110 "[Ljava/lang/Object;", Cond.classLink RJ7 2 "java/lang/Object", Cond.methodLink RJ7 304 Lib.Math.min.name, Cond.static Lib.Math.min.name, Cond.code Lib.Math.min.name Lib.Math.min.code 2 (some .int), Cond.methodLink RJ7 150 arraycopyName, Cond.native arraycopyName, Cond.static arraycopyName, Cond.initialized "java/lang/System"]
def wsX9_stone : List Cond := .code yX9_stone cX9_stone 4 (some .int) :: ((wsX9_stone_r1 ++ (wsX9_stone_r2 ++ (wsX9_stone_r3 ++ (wsX9_stone_r4 ++ (wsX9_stone_r5 ++ wsX9_stone_r6))))) ++ wsX90 ++ wsJx4a65c0 ++ wsX10 ++ wsX60 ++ (vx_atS RX9 249 "java/lang/IndexOutOfBoundsException" ["java/lang/RuntimeException", "java/lang/Exception"]).filter goodWord ++ (vx_atS RX9 258 "java/lang/IllegalArgumentException" ["java/lang/RuntimeException", "java/lang/Exception"]).filter goodWord ++ (vx_atS RX9 125 "java/lang/IllegalStateException" ["java/lang/RuntimeException", "java/lang/Exception"]).filter goodWord)
def wsX9_draw : List Cond := .code yX9_draw cX9_draw 3 (some .int) :: ([.constantLong RX9 70 (65536), .fieldLink RX9 38 "Craterclock" "drawn" "I", .methodLink RX9 48 yX9_requireRange, .static yX9_requireRange, .initialized RX9, .code yX9_requireRange cX9_requireRange 6 none, .classLink RX9 254 "java/lang/IllegalArgumentException", .initialized "java/lang/IllegalArgumentException"] ++ wsX90 ++ (vx_atS RX9 258 "java/lang/IllegalArgumentException" ["java/lang/RuntimeException", "java/lang/Exception"]).filter goodWord)
def wsX9_drawNext : List Cond := .code yX9_drawNext cX9_drawNext 1 (some .int) :: ([.fieldLink RX9 38 "Craterclock" "drawn" "I", .constant RX9 213 (65537)] ++ wsX90)
def wsX9_sizeDrawn : List Cond := .code yX9_sizeDrawn cX9_sizeDrawn 1 (some .int) :: ([])
def wsX9_countLeft_r1 : List Cond := [Cond.fieldLink RX9 21 "Craterclock" "fallen" "Ljava/util/ArrayList;", Cond.classLink RX9 183 "Craterclock$Crater", Cond.fieldLink RX9 194 "Craterclock$Crater" "depth" "I", Cond.methodLink RX9 96 yJx4a65c_size_8abf5, Cond.instanceMethod yJx4a65c_size_8abf5, Cond.selects RJx4a65c yJx4a65c_size_8abf5 yJx4a65c_size_8abf5, Cond.initialized RJx4a65c, Cond.code yJx4a65c_size_8abf5 cJx4a65c_size_8abf5 1 (some .int), Cond.fieldLink RJx4a65c 48 "java/util/ArrayList" "size" "I", Cond.methodLink RX9 179 yJx4a65c_get_915e3, Cond.instanceMethod yJx4a65c_get_915e3, Cond.selects RJx4a65c yJx4a65c_get_915e3 yJx4a65c_get_915e3, Cond.code yJx4a65c_get_915e3 cJx4a65c_get_915e3 2 (some (.object "java/lang/Object")), Cond.methodLink RJx4a65c 118 yJ15_checkIndex_7cf53, Cond.static yJ15_checkIndex_7cf53, Cond.initialized RJ15, Cond.code yJ15_checkIndex_7cf53 cJ15_checkIndex_7cf53 2 (some .int), Cond.methodLink RJ15 105 yJ3_checkIndex_8e157, Cond.static yJ3_checkIndex_8e157, Cond.initialized RJ3, Cond.code yJ3_checkIndex_8e157 cJ3_checkIndex_8e157 3 (some .int), Cond.methodLink RJx4a65c 123 yJx4a65c_elementData_915e3, Cond.instanceMethod yJx4a65c_elementData_915e3, Cond.selects RJx4a65c yJx4a65c_elementData_915e3 yJx4a65c_elementData_915e3]
def wsX9_countLeft_r2 : List Cond := [Cond.code yJx4a65c_elementData_915e3 cJx4a65c_elementData_915e3 2 (some (.object "java/lang/Object")), Cond.fieldLink RJx4a65c 9 "java/util/ArrayList" "elementData" "[Ljava/lang/Object;"]
def wsX9_countLeft : List Cond := .code yX9_countLeft cX9_countLeft 3 (some .int) :: ((wsX9_countLeft_r1 ++ wsX9_countLeft_r2) ++ wsX90 ++ wsX10 ++ wsJx4a65c0)
def wsX9_rain_r1 : List Cond := [Cond.constantLong RX9 72 (30), Cond.methodLink RX9 48 yX9_requireRange, Cond.static yX9_requireRange, Cond.initialized RX9, Cond.code yX9_requireRange cX9_requireRange 6 none, Cond.classLink RX9 254 "java/lang/IllegalArgumentException", Cond.initialized "java/lang/IllegalArgumentException", Cond.methodLink RX9 62 yX9_requireRoomForCraters, Cond.instanceMethod yX9_requireRoomForCraters, Cond.selects RX9 yX9_requireRoomForCraters yX9_requireRoomForCraters, Cond.code yX9_requireRoomForCraters cX9_requireRoomForCraters 2 none, Cond.classLink RX9 121 "java/lang/IllegalStateException", Cond.initialized "java/lang/IllegalStateException", Cond.fieldLink RX9 21 "Craterclock" "fallen" "Ljava/util/ArrayList;", Cond.methodLink RX9 96 yJx4a65c_size_8abf5, Cond.instanceMethod yJx4a65c_size_8abf5, Cond.selects RJx4a65c yJx4a65c_size_8abf5 yJx4a65c_size_8abf5, Cond.initialized RJx4a65c, Cond.code yJx4a65c_size_8abf5 cJx4a65c_size_8abf5 1 (some .int), Cond.fieldLink RJx4a65c 48 "java/util/ArrayList" "size" "I", Cond.methodLink RX9 74 yX9_drawNext, Cond.instanceMethod yX9_drawNext, Cond.selects RX9 yX9_drawNext yX9_drawNext, Cond.code yX9_drawNext cX9_drawNext 1 (some .int)]
def wsX9_rain_r2 : List Cond := [Cond.fieldLink RX9 38 "Craterclock" "drawn" "I", Cond.constant RX9 213 (65537), Cond.methodLink RX9 78 yX9_sizeDrawn, Cond.static yX9_sizeDrawn, Cond.code yX9_sizeDrawn cX9_sizeDrawn 1 (some .int), Cond.methodLink RX9 66 yX9_dropStone, Cond.instanceMethod yX9_dropStone, Cond.selects RX9 yX9_dropStone yX9_dropStone, Cond.code yX9_dropStone cX9_dropStone 8 (some .int), Cond.classLink RX9 183 RX1, Cond.instantiable RX1 6, Cond.initialized RX1, Cond.fieldLink RX9 14 "Craterclock" "cells" "LCraterclock$Ground;", Cond.classLink RX9 183 "Craterclock$Crater", Cond.methodLink RX9 52 yX6_kindAt, Cond.instanceMethod yX6_kindAt, Cond.selects RX6 yX6_kindAt yX6_kindAt, Cond.initialized RX6, Cond.code yX6_kindAt cX6_kindAt 3 (some .int), Cond.fieldLink RX6 9 "Craterclock$Ground" "rows" "[I", Cond.methodLink RX9 204 yX1_init, Cond.instanceMethod yX1_init, Cond.code yX1_init cX1_init 5 none, Cond.methodLink RX1 3 objectInit]
def wsX9_rain_r3 : List Cond := [Cond.instanceMethod objectInit, Cond.code objectInit ⟨#[0xb1]⟩ 1 none, Cond.fieldLink RX1 9 "Craterclock$Crater" "x" "I", Cond.fieldLink RX1 15 "Craterclock$Crater" "y" "I", Cond.fieldLink RX1 18 "Craterclock$Crater" "size" "I", Cond.fieldLink RX1 25 "Craterclock$Crater" "radius" "I", Cond.fieldLink RX1 31 "Craterclock$Crater" "firstDepth" "I", Cond.fieldLink RX1 34 "Craterclock$Crater" "depth" "I", Cond.methodLink RX1 21 yX1_radiusOn, Cond.static yX1_radiusOn, Cond.code yX1_radiusOn cX1_radiusOn 2 (some .int), Cond.methodLink RX1 37 Lib.Math.max.name, Cond.static Lib.Math.max.name, Cond.initialized "java/lang/Math", Cond.code Lib.Math.max.name Lib.Math.max.code 2 (some .int), Cond.methodLink RX1 28 yX1_depthOn, Cond.static yX1_depthOn, Cond.code yX1_depthOn cX1_depthOn 2 (some .int), Cond.methodLink RX9 179 yJx4a65c_get_915e3, Cond.instanceMethod yJx4a65c_get_915e3, Cond.selects RJx4a65c yJx4a65c_get_915e3 yJx4a65c_get_915e3, Cond.code yJx4a65c_get_915e3 cJx4a65c_get_915e3 2 (some (.object "java/lang/Object")), Cond.methodLink RJx4a65c 118 yJ15_checkIndex_7cf53, Cond.static yJ15_checkIndex_7cf53]
def wsX9_rain_r4 : List Cond := [Cond.initialized RJ15, Cond.code yJ15_checkIndex_7cf53 cJ15_checkIndex_7cf53 2 (some .int), Cond.methodLink RJ15 105 yJ3_checkIndex_8e157, Cond.static yJ3_checkIndex_8e157, Cond.initialized RJ3, Cond.code yJ3_checkIndex_8e157 cJ3_checkIndex_8e157 3 (some .int), Cond.methodLink RJx4a65c 123 yJx4a65c_elementData_915e3, Cond.instanceMethod yJx4a65c_elementData_915e3, Cond.selects RJx4a65c yJx4a65c_elementData_915e3 yJx4a65c_elementData_915e3, Cond.code yJx4a65c_elementData_915e3 cJx4a65c_elementData_915e3 2 (some (.object "java/lang/Object")), Cond.fieldLink RJx4a65c 9 "java/util/ArrayList" "elementData" "[Ljava/lang/Object;", Cond.methodLink RX9 205 yX1_lossBy, Cond.instanceMethod yX1_lossBy, Cond.selects RX1 yX1_lossBy yX1_lossBy, Cond.code yX1_lossBy cX1_lossBy 2 (some .int), Cond.methodLink RX1 42 yX1_isWithin, Cond.instanceMethod yX1_isWithin, Cond.selects RX1 yX1_isWithin yX1_isWithin, Cond.code yX1_isWithin cX1_isWithin 6 (some .boolean), Cond.methodLink RX9 209 yX1_lessen, Cond.instanceMethod yX1_lessen, Cond.selects RX1 yX1_lessen yX1_lessen, Cond.code yX1_lessen cX1_lessen 2 (some .boolean), Cond.methodLink RX9 132 yJx4a65c_add_9ea2d]
def wsX9_rain_r5 : List Cond := [Cond.instanceMethod yJx4a65c_add_9ea2d, Cond.selects RJx4a65c yJx4a65c_add_9ea2d yJx4a65c_add_9ea2d, Cond.code yJx4a65c_add_9ea2d cJx4a65c_add_9ea2d 2 (some .boolean), Cond.fieldLink RJx4a65c 63 "java/util/ArrayList" "modCount" "I", Cond.sameField "java/util/ArrayList" "java/util/AbstractList" "modCount" "I", Cond.methodLink RJx4a65c 131 yJx4a65c_add_72be8, Cond.instanceMethod yJx4a65c_add_72be8, Cond.selects RJx4a65c yJx4a65c_add_72be8 yJx4a65c_add_72be8, Cond.code yJx4a65c_add_72be8 cJx4a65c_add_72be8 4 none, Cond.methodLink RJx4a65c 129 yJx4a65c_grow_d5877, Cond.instanceMethod yJx4a65c_grow_d5877, Cond.selects RJx4a65c yJx4a65c_grow_d5877 yJx4a65c_grow_d5877, Cond.code yJx4a65c_grow_d5877 cJx4a65c_grow_d5877 1 (some (.array (.object "java/lang/Object"))), Cond.methodLink RJx4a65c 69 yJx4a65c_grow_92f84, Cond.instanceMethod yJx4a65c_grow_92f84, Cond.selects RJx4a65c yJx4a65c_grow_92f84 yJx4a65c_grow_92f84, Cond.code yJx4a65c_grow_92f84 cJx4a65c_grow_92f84 4 (some (.array (.object "java/lang/Object"))), Cond.fieldLink RJx4a65c 39 "java/util/ArrayList" "DEFAULTCAPACITY_EMPTY_ELEMENTDATA" "[Ljava/lang/Object;", Cond.methodLink RJx4a65c 79 Lib.Math.max.name, Cond.classLink RJx4a65c 7 "java/lang/Object", Cond.methodLink RJx4a65c 73 yJ8_newLength_cabcc, Cond.static yJ8_newLength_cabcc, Cond.initialized RJ8, Cond.code yJ8_newLength_cabcc cJ8_newLength_cabcc 4 (some .int)]
def wsX9_rain_r6 : List Cond := [Cond.methodLink RJ8 194 Lib.Math.max.name, Cond.constant RJ8 200 (2147483639), Cond.methodLink RJ8 201 yJ8_hugeLength_7cf53, Cond.static yJ8_hugeLength_7cf53, Cond.code yJ8_hugeLength_7cf53 cJ8_hugeLength_7cf53 3 (some .int), Cond.methodLink RJx4a65c 66 yJ7_copyOf_1904c, Cond.static yJ7_copyOf_1904c, Cond.initialized RJ7, Cond.code yJ7_copyOf_1904c cJ7_copyOf_1904c 2 (some (.array (.object "java/lang/Object"))), Cond.methodLink RJ7 86 ⟨"java/lang/Object", "getClass", "()Ljava/lang/Class;"⟩, Cond.selects "[Ljava/lang/Object;" ⟨"java/lang/Object", "getClass", "()Ljava/lang/Class;"⟩ ⟨"java/lang/Object", "getClass", "()Ljava/lang/Class;"⟩, Cond.instanceMethod ⟨"java/lang/Object", "getClass", "()Ljava/lang/Class;"⟩, Cond.native ⟨"java/lang/Object", "getClass", "()Ljava/lang/Class;"⟩, Cond.methodLink RJ7 300 yJ7_copyOf_6403c, Cond.static yJ7_copyOf_6403c, Cond.code yJ7_copyOf_6403c cJ7_copyOf_6403c 4 (some (.array (.object "java/lang/Object"))), Cond.classLink RJ7 110 "[Ljava/lang/Object;", Cond.classLink RJ7 2 "java/lang/Object", Cond.methodLink RJ7 304 Lib.Math.min.name, Cond.static Lib.Math.min.name, Cond.code Lib.Math.min.name Lib.Math.min.code 2 (some .int), Cond.methodLink RJ7 150 arraycopyName, Cond.native arraycopyName, Cond.static arraycopyName]
def wsX9_rain_r7 : List Cond := [Cond.initialized "java/lang/System", Cond.methodLink RX9 82 yX9_countLeft, Cond.instanceMethod yX9_countLeft, Cond.selects RX9 yX9_countLeft yX9_countLeft, Cond.code yX9_countLeft cX9_countLeft 3 (some .int), Cond.fieldLink RX9 194 "Craterclock$Crater" "depth" "I"]
def wsX9_rain : List Cond := .code yX9_rain cX9_rain 6 (some .int) :: ((wsX9_rain_r1 ++ (wsX9_rain_r2 ++ (wsX9_rain_r3 ++ (wsX9_rain_r4 ++ (wsX9_rain_r5 ++ (wsX9_rain_r6 ++ wsX9_rain_r7)))))) ++ wsX90 ++ wsJx4a65c0 ++ wsX10 ++ wsX60 ++ (vx_atS RX9 258 "java/lang/IllegalArgumentException" ["java/lang/RuntimeException", "java/lang/Exception"]).filter goodWord ++ (vx_atS RX9 125 "java/lang/IllegalStateException" ["java/lang/RuntimeException", "java/lang/Exception"]).filter goodWord)
def wsX9_requireOrder : List Cond := .code yX9_requireOrder cX9_requireOrder 4 none :: ([.classLink RX9 254 "java/lang/IllegalArgumentException", .initialized "java/lang/IllegalArgumentException"] ++ (vx_atS RX9 258 "java/lang/IllegalArgumentException" ["java/lang/RuntimeException", "java/lang/Exception"]).filter goodWord)
def wsX9_requireRoomForLessening : List Cond := .code yX9_requireRoomForLessening cX9_requireRoomForLessening 1 none :: ([.classLink RX9 121 "java/lang/IllegalStateException", .initialized "java/lang/IllegalStateException", .fieldLink RX9 25 "Craterclock" "lessenings" "Ljava/util/ArrayList;", .methodLink RX9 96 yJx4a65c_size_8abf5, .instanceMethod yJx4a65c_size_8abf5, .selects RJx4a65c yJx4a65c_size_8abf5 yJx4a65c_size_8abf5, .initialized RJx4a65c, .code yJx4a65c_size_8abf5 cJx4a65c_size_8abf5 1 (some .int), .fieldLink RJx4a65c 48 "java/util/ArrayList" "size" "I"] ++ wsX90 ++ wsJx4a65c0 ++ (vx_atS RX9 125 "java/lang/IllegalStateException" ["java/lang/RuntimeException", "java/lang/Exception"]).filter goodWord)
def wsX9_lessenAll_r1 : List Cond := [Cond.fieldLink RX9 25 "Craterclock" "lessenings" "Ljava/util/ArrayList;", Cond.fieldLink RX9 21 "Craterclock" "fallen" "Ljava/util/ArrayList;", Cond.classLink RX9 183 "Craterclock$Crater", Cond.methodLink RX9 132 yJx4a65c_add_9ea2d, Cond.instanceMethod yJx4a65c_add_9ea2d, Cond.selects RJx4a65c yJx4a65c_add_9ea2d yJx4a65c_add_9ea2d, Cond.initialized RJx4a65c, Cond.code yJx4a65c_add_9ea2d cJx4a65c_add_9ea2d 2 (some .boolean), Cond.fieldLink RJx4a65c 63 "java/util/ArrayList" "modCount" "I", Cond.sameField "java/util/ArrayList" "java/util/AbstractList" "modCount" "I", Cond.fieldLink RJx4a65c 9 "java/util/ArrayList" "elementData" "[Ljava/lang/Object;", Cond.fieldLink RJx4a65c 48 "java/util/ArrayList" "size" "I", Cond.methodLink RJx4a65c 131 yJx4a65c_add_72be8, Cond.instanceMethod yJx4a65c_add_72be8, Cond.selects RJx4a65c yJx4a65c_add_72be8 yJx4a65c_add_72be8, Cond.code yJx4a65c_add_72be8 cJx4a65c_add_72be8 4 none, Cond.methodLink RJx4a65c 129 yJx4a65c_grow_d5877, Cond.instanceMethod yJx4a65c_grow_d5877, Cond.selects RJx4a65c yJx4a65c_grow_d5877 yJx4a65c_grow_d5877, Cond.code yJx4a65c_grow_d5877 cJx4a65c_grow_d5877 1 (some (.array (.object "java/lang/Object"))), Cond.methodLink RJx4a65c 69 yJx4a65c_grow_92f84, Cond.instanceMethod yJx4a65c_grow_92f84, Cond.selects RJx4a65c yJx4a65c_grow_92f84 yJx4a65c_grow_92f84, Cond.code yJx4a65c_grow_92f84 cJx4a65c_grow_92f84 4 (some (.array (.object "java/lang/Object")))]
def wsX9_lessenAll_r2 : List Cond := [Cond.fieldLink RJx4a65c 39 "java/util/ArrayList" "DEFAULTCAPACITY_EMPTY_ELEMENTDATA" "[Ljava/lang/Object;", Cond.methodLink RJx4a65c 79 Lib.Math.max.name, Cond.static Lib.Math.max.name, Cond.initialized "java/lang/Math", Cond.code Lib.Math.max.name Lib.Math.max.code 2 (some .int), Cond.classLink RJx4a65c 7 "java/lang/Object", Cond.methodLink RJx4a65c 73 yJ8_newLength_cabcc, Cond.static yJ8_newLength_cabcc, Cond.initialized RJ8, Cond.code yJ8_newLength_cabcc cJ8_newLength_cabcc 4 (some .int), Cond.methodLink RJ8 194 Lib.Math.max.name, Cond.constant RJ8 200 (2147483639), Cond.methodLink RJ8 201 yJ8_hugeLength_7cf53, Cond.static yJ8_hugeLength_7cf53, Cond.code yJ8_hugeLength_7cf53 cJ8_hugeLength_7cf53 3 (some .int), Cond.methodLink RJx4a65c 66 yJ7_copyOf_1904c, Cond.static yJ7_copyOf_1904c, Cond.initialized RJ7, Cond.code yJ7_copyOf_1904c cJ7_copyOf_1904c 2 (some (.array (.object "java/lang/Object"))), Cond.methodLink RJ7 86 ⟨"java/lang/Object", "getClass", "()Ljava/lang/Class;"⟩, Cond.selects "[Ljava/lang/Object;" ⟨"java/lang/Object", "getClass", "()Ljava/lang/Class;"⟩ ⟨"java/lang/Object", "getClass", "()Ljava/lang/Class;"⟩, Cond.instanceMethod ⟨"java/lang/Object", "getClass", "()Ljava/lang/Class;"⟩, Cond.native ⟨"java/lang/Object", "getClass", "()Ljava/lang/Class;"⟩, Cond.methodLink RJ7 300 yJ7_copyOf_6403c]
def wsX9_lessenAll_r3 : List Cond := [Cond.static yJ7_copyOf_6403c, Cond.code yJ7_copyOf_6403c cJ7_copyOf_6403c 4 (some (.array (.object "java/lang/Object"))), Cond.classLink RJ7 110 "[Ljava/lang/Object;", Cond.classLink RJ7 2 "java/lang/Object", Cond.methodLink RJ7 304 Lib.Math.min.name, Cond.static Lib.Math.min.name, Cond.code Lib.Math.min.name Lib.Math.min.code 2 (some .int), Cond.methodLink RJ7 150 arraycopyName, Cond.native arraycopyName, Cond.static arraycopyName, Cond.initialized "java/lang/System", Cond.methodLink RX9 96 yJx4a65c_size_8abf5, Cond.instanceMethod yJx4a65c_size_8abf5, Cond.selects RJx4a65c yJx4a65c_size_8abf5 yJx4a65c_size_8abf5, Cond.code yJx4a65c_size_8abf5 cJx4a65c_size_8abf5 1 (some .int), Cond.methodLink RX9 179 yJx4a65c_get_915e3, Cond.instanceMethod yJx4a65c_get_915e3, Cond.selects RJx4a65c yJx4a65c_get_915e3 yJx4a65c_get_915e3, Cond.code yJx4a65c_get_915e3 cJx4a65c_get_915e3 2 (some (.object "java/lang/Object")), Cond.methodLink RJx4a65c 118 yJ15_checkIndex_7cf53, Cond.static yJ15_checkIndex_7cf53, Cond.initialized RJ15, Cond.code yJ15_checkIndex_7cf53 cJ15_checkIndex_7cf53 2 (some .int), Cond.methodLink RJ15 105 yJ3_checkIndex_8e157]
def wsX9_lessenAll_r4 : List Cond := [Cond.static yJ3_checkIndex_8e157, Cond.initialized RJ3, Cond.code yJ3_checkIndex_8e157 cJ3_checkIndex_8e157 3 (some .int), Cond.methodLink RJx4a65c 123 yJx4a65c_elementData_915e3, Cond.instanceMethod yJx4a65c_elementData_915e3, Cond.selects RJx4a65c yJx4a65c_elementData_915e3 yJx4a65c_elementData_915e3, Cond.code yJx4a65c_elementData_915e3 cJx4a65c_elementData_915e3 2 (some (.object "java/lang/Object")), Cond.methodLink RX9 214 ⟨"Craterclock$Lessening", "lossOf", "(LCraterclock$Crater;)I"⟩, Cond.sameMethod "Craterclock$Lessening" "Craterclock$Lessening" "lossOf" "(LCraterclock$Crater;)I", Cond.selects RX5 ⟨"Craterclock$Lessening", "lossOf", "(LCraterclock$Crater;)I"⟩ yX5_lossOf, Cond.instanceMethod yX5_lossOf, Cond.initialized RX5, Cond.code yX5_lossOf cX5_lossOf 2 (some .int), Cond.fieldLink RX5 7 "Craterclock$Flood" "field" "LCraterclock$Field;", Cond.fieldLink RX5 17 "Craterclock$Crater" "x" "I", Cond.fieldLink RX5 22 "Craterclock$Crater" "y" "I", Cond.fieldLink RX5 13 "Craterclock$Flood" "thick" "I", Cond.methodLink RX5 25 yX4_has, Cond.instanceMethod yX4_has, Cond.selects RX4 yX4_has yX4_has, Cond.initialized RX4, Cond.code yX4_has cX4_has 3 (some .boolean), Cond.fieldLink RX4 7 "Craterclock$Field" "x" "I", Cond.fieldLink RX4 16 "Craterclock$Field" "toX" "I"]
def wsX9_lessenAll_r5 : List Cond := [Cond.fieldLink RX4 13 "Craterclock$Field" "y" "I", Cond.fieldLink RX4 19 "Craterclock$Field" "toY" "I", Cond.selects RX8 ⟨"Craterclock$Lessening", "lossOf", "(LCraterclock$Crater;)I"⟩ yX8_lossOf, Cond.instanceMethod yX8_lossOf, Cond.initialized RX8, Cond.code yX8_lossOf cX8_lossOf 2 (some .int), Cond.fieldLink RX8 9 "Craterclock$Softening" "cellsThen" "LCraterclock$Ground;", Cond.fieldLink RX8 19 "Craterclock$Crater" "x" "I", Cond.fieldLink RX8 24 "Craterclock$Crater" "y" "I", Cond.fieldLink RX8 15 "Craterclock$Softening" "steps" "I", Cond.methodLink RX8 27 yX6_kindAt, Cond.instanceMethod yX6_kindAt, Cond.selects RX6 yX6_kindAt yX6_kindAt, Cond.initialized RX6, Cond.code yX6_kindAt cX6_kindAt 3 (some .int), Cond.fieldLink RX6 9 "Craterclock$Ground" "rows" "[I", Cond.methodLink RX9 209 yX1_lessen, Cond.instanceMethod yX1_lessen, Cond.selects RX1 yX1_lessen yX1_lessen, Cond.initialized RX1, Cond.code yX1_lessen cX1_lessen 2 (some .boolean), Cond.fieldLink RX1 34 "Craterclock$Crater" "depth" "I", Cond.methodLink RX1 37 Lib.Math.max.name]
def wsX9_lessenAll : List Cond := .code yX9_lessenAll cX9_lessenAll 5 (some .int) :: ((wsX9_lessenAll_r1 ++ (wsX9_lessenAll_r2 ++ (wsX9_lessenAll_r3 ++ (wsX9_lessenAll_r4 ++ wsX9_lessenAll_r5)))) ++ wsX90 ++ wsJx4a65c0 ++ wsX50 ++ wsX10 ++ wsX40 ++ wsX80 ++ wsX60)
def wsX9_flood_r1 : List Cond := [Cond.constantLong RX9 85 (40), Cond.classLink RX9 94 RX5, Cond.instantiable RX5 3, Cond.initialized RX5, Cond.fieldLink RX9 21 "Craterclock" "fallen" "Ljava/util/ArrayList;", Cond.classLink RX9 99 RX4, Cond.instantiable RX4 4, Cond.initialized RX4, Cond.methodLink RX9 42 yX9_requireCell, Cond.static yX9_requireCell, Cond.initialized RX9, Cond.code yX9_requireCell cX9_requireCell 2 none, Cond.classLink RX9 245 "java/lang/IndexOutOfBoundsException", Cond.initialized "java/lang/IndexOutOfBoundsException", Cond.methodLink RX9 48 yX9_requireRange, Cond.static yX9_requireRange, Cond.code yX9_requireRange cX9_requireRange 6 none, Cond.classLink RX9 254 "java/lang/IllegalArgumentException", Cond.initialized "java/lang/IllegalArgumentException", Cond.methodLink RX9 87 yX9_requireOrder, Cond.static yX9_requireOrder, Cond.code yX9_requireOrder cX9_requireOrder 4 none, Cond.methodLink RX9 91 yX9_requireRoomForLessening, Cond.instanceMethod yX9_requireRoomForLessening]
def wsX9_flood_r2 : List Cond := [Cond.selects RX9 yX9_requireRoomForLessening yX9_requireRoomForLessening, Cond.code yX9_requireRoomForLessening cX9_requireRoomForLessening 1 none, Cond.classLink RX9 121 "java/lang/IllegalStateException", Cond.initialized "java/lang/IllegalStateException", Cond.fieldLink RX9 25 "Craterclock" "lessenings" "Ljava/util/ArrayList;", Cond.methodLink RX9 96 yJx4a65c_size_8abf5, Cond.instanceMethod yJx4a65c_size_8abf5, Cond.selects RJx4a65c yJx4a65c_size_8abf5 yJx4a65c_size_8abf5, Cond.initialized RJx4a65c, Cond.code yJx4a65c_size_8abf5 cJx4a65c_size_8abf5 1 (some .int), Cond.fieldLink RJx4a65c 48 "java/util/ArrayList" "size" "I", Cond.methodLink RX9 101 yX4_init, Cond.instanceMethod yX4_init, Cond.code yX4_init cX4_init 5 none, Cond.methodLink RX4 1 objectInit, Cond.instanceMethod objectInit, Cond.code objectInit ⟨#[0xb1]⟩ 1 none, Cond.fieldLink RX4 7 "Craterclock$Field" "x" "I", Cond.fieldLink RX4 13 "Craterclock$Field" "y" "I", Cond.fieldLink RX4 16 "Craterclock$Field" "toX" "I", Cond.fieldLink RX4 19 "Craterclock$Field" "toY" "I", Cond.methodLink RX9 103 yX5_init, Cond.instanceMethod yX5_init, Cond.code yX5_init cX5_init 4 none]
def wsX9_flood_r3 : List Cond := [Cond.fieldLink RX5 7 "Craterclock$Flood" "field" "LCraterclock$Field;", Cond.fieldLink RX5 13 "Craterclock$Flood" "thick" "I", Cond.methodLink RX5 1 yX7_init, Cond.instanceMethod yX7_init, Cond.initialized RX7, Cond.code yX7_init cX7_init 2 none, Cond.methodLink RX7 1 objectInit, Cond.fieldLink RX7 7 "Craterclock$Lessening" "cratersThen" "I", Cond.methodLink RX9 106 yX9_lessenAll, Cond.instanceMethod yX9_lessenAll, Cond.selects RX9 yX9_lessenAll yX9_lessenAll, Cond.code yX9_lessenAll cX9_lessenAll 5 (some .int), Cond.classLink RX9 183 "Craterclock$Crater", Cond.methodLink RX9 132 yJx4a65c_add_9ea2d, Cond.instanceMethod yJx4a65c_add_9ea2d, Cond.selects RJx4a65c yJx4a65c_add_9ea2d yJx4a65c_add_9ea2d, Cond.code yJx4a65c_add_9ea2d cJx4a65c_add_9ea2d 2 (some .boolean), Cond.fieldLink RJx4a65c 63 "java/util/ArrayList" "modCount" "I", Cond.sameField "java/util/ArrayList" "java/util/AbstractList" "modCount" "I", Cond.fieldLink RJx4a65c 9 "java/util/ArrayList" "elementData" "[Ljava/lang/Object;", Cond.methodLink RJx4a65c 131 yJx4a65c_add_72be8, Cond.instanceMethod yJx4a65c_add_72be8, Cond.selects RJx4a65c yJx4a65c_add_72be8 yJx4a65c_add_72be8, Cond.code yJx4a65c_add_72be8 cJx4a65c_add_72be8 4 none]
def wsX9_flood_r4 : List Cond := [Cond.methodLink RJx4a65c 129 yJx4a65c_grow_d5877, Cond.instanceMethod yJx4a65c_grow_d5877, Cond.selects RJx4a65c yJx4a65c_grow_d5877 yJx4a65c_grow_d5877, Cond.code yJx4a65c_grow_d5877 cJx4a65c_grow_d5877 1 (some (.array (.object "java/lang/Object"))), Cond.methodLink RJx4a65c 69 yJx4a65c_grow_92f84, Cond.instanceMethod yJx4a65c_grow_92f84, Cond.selects RJx4a65c yJx4a65c_grow_92f84 yJx4a65c_grow_92f84, Cond.code yJx4a65c_grow_92f84 cJx4a65c_grow_92f84 4 (some (.array (.object "java/lang/Object"))), Cond.fieldLink RJx4a65c 39 "java/util/ArrayList" "DEFAULTCAPACITY_EMPTY_ELEMENTDATA" "[Ljava/lang/Object;", Cond.methodLink RJx4a65c 79 Lib.Math.max.name, Cond.static Lib.Math.max.name, Cond.initialized "java/lang/Math", Cond.code Lib.Math.max.name Lib.Math.max.code 2 (some .int), Cond.classLink RJx4a65c 7 "java/lang/Object", Cond.methodLink RJx4a65c 73 yJ8_newLength_cabcc, Cond.static yJ8_newLength_cabcc, Cond.initialized RJ8, Cond.code yJ8_newLength_cabcc cJ8_newLength_cabcc 4 (some .int), Cond.methodLink RJ8 194 Lib.Math.max.name, Cond.constant RJ8 200 (2147483639), Cond.methodLink RJ8 201 yJ8_hugeLength_7cf53, Cond.static yJ8_hugeLength_7cf53, Cond.code yJ8_hugeLength_7cf53 cJ8_hugeLength_7cf53 3 (some .int), Cond.methodLink RJx4a65c 66 yJ7_copyOf_1904c]
def wsX9_flood_r5 : List Cond := [Cond.static yJ7_copyOf_1904c, Cond.initialized RJ7, Cond.code yJ7_copyOf_1904c cJ7_copyOf_1904c 2 (some (.array (.object "java/lang/Object"))), Cond.methodLink RJ7 86 ⟨"java/lang/Object", "getClass", "()Ljava/lang/Class;"⟩, Cond.selects "[Ljava/lang/Object;" ⟨"java/lang/Object", "getClass", "()Ljava/lang/Class;"⟩ ⟨"java/lang/Object", "getClass", "()Ljava/lang/Class;"⟩, Cond.instanceMethod ⟨"java/lang/Object", "getClass", "()Ljava/lang/Class;"⟩, Cond.native ⟨"java/lang/Object", "getClass", "()Ljava/lang/Class;"⟩, Cond.methodLink RJ7 300 yJ7_copyOf_6403c, Cond.static yJ7_copyOf_6403c, Cond.code yJ7_copyOf_6403c cJ7_copyOf_6403c 4 (some (.array (.object "java/lang/Object"))), Cond.classLink RJ7 110 "[Ljava/lang/Object;", Cond.classLink RJ7 2 "java/lang/Object", Cond.methodLink RJ7 304 Lib.Math.min.name, Cond.static Lib.Math.min.name, Cond.code Lib.Math.min.name Lib.Math.min.code 2 (some .int), Cond.methodLink RJ7 150 arraycopyName, Cond.native arraycopyName, Cond.static arraycopyName, Cond.initialized "java/lang/System", Cond.methodLink RX9 179 yJx4a65c_get_915e3, Cond.instanceMethod yJx4a65c_get_915e3, Cond.selects RJx4a65c yJx4a65c_get_915e3 yJx4a65c_get_915e3, Cond.code yJx4a65c_get_915e3 cJx4a65c_get_915e3 2 (some (.object "java/lang/Object")), Cond.methodLink RJx4a65c 118 yJ15_checkIndex_7cf53]
def wsX9_flood_r6 : List Cond := [Cond.static yJ15_checkIndex_7cf53, Cond.initialized RJ15, Cond.code yJ15_checkIndex_7cf53 cJ15_checkIndex_7cf53 2 (some .int), Cond.methodLink RJ15 105 yJ3_checkIndex_8e157, Cond.static yJ3_checkIndex_8e157, Cond.initialized RJ3, Cond.code yJ3_checkIndex_8e157 cJ3_checkIndex_8e157 3 (some .int), Cond.methodLink RJx4a65c 123 yJx4a65c_elementData_915e3, Cond.instanceMethod yJx4a65c_elementData_915e3, Cond.selects RJx4a65c yJx4a65c_elementData_915e3 yJx4a65c_elementData_915e3, Cond.code yJx4a65c_elementData_915e3 cJx4a65c_elementData_915e3 2 (some (.object "java/lang/Object")), Cond.methodLink RX9 214 ⟨"Craterclock$Lessening", "lossOf", "(LCraterclock$Crater;)I"⟩, Cond.sameMethod "Craterclock$Lessening" "Craterclock$Lessening" "lossOf" "(LCraterclock$Crater;)I", Cond.selects RX5 ⟨"Craterclock$Lessening", "lossOf", "(LCraterclock$Crater;)I"⟩ yX5_lossOf, Cond.instanceMethod yX5_lossOf, Cond.code yX5_lossOf cX5_lossOf 2 (some .int), Cond.fieldLink RX5 17 "Craterclock$Crater" "x" "I", Cond.fieldLink RX5 22 "Craterclock$Crater" "y" "I", Cond.methodLink RX5 25 yX4_has, Cond.instanceMethod yX4_has, Cond.selects RX4 yX4_has yX4_has, Cond.code yX4_has cX4_has 3 (some .boolean), Cond.selects RX8 ⟨"Craterclock$Lessening", "lossOf", "(LCraterclock$Crater;)I"⟩ yX8_lossOf, Cond.instanceMethod yX8_lossOf]
def wsX9_flood_r7 : List Cond := [Cond.initialized RX8, Cond.code yX8_lossOf cX8_lossOf 2 (some .int), Cond.fieldLink RX8 9 "Craterclock$Softening" "cellsThen" "LCraterclock$Ground;", Cond.fieldLink RX8 19 "Craterclock$Crater" "x" "I", Cond.fieldLink RX8 24 "Craterclock$Crater" "y" "I", Cond.fieldLink RX8 15 "Craterclock$Softening" "steps" "I", Cond.methodLink RX8 27 yX6_kindAt, Cond.instanceMethod yX6_kindAt, Cond.selects RX6 yX6_kindAt yX6_kindAt, Cond.initialized RX6, Cond.code yX6_kindAt cX6_kindAt 3 (some .int), Cond.fieldLink RX6 9 "Craterclock$Ground" "rows" "[I", Cond.methodLink RX9 209 yX1_lessen, Cond.instanceMethod yX1_lessen, Cond.selects RX1 yX1_lessen yX1_lessen, Cond.initialized RX1, Cond.code yX1_lessen cX1_lessen 2 (some .boolean), Cond.fieldLink RX1 34 "Craterclock$Crater" "depth" "I", Cond.methodLink RX1 37 Lib.Math.max.name]
def wsX9_flood : List Cond := .code yX9_flood cX9_flood 6 (some .int) :: ((wsX9_flood_r1 ++ (wsX9_flood_r2 ++ (wsX9_flood_r3 ++ (wsX9_flood_r4 ++ (wsX9_flood_r5 ++ (wsX9_flood_r6 ++ wsX9_flood_r7)))))) ++ wsX50 ++ wsX90 ++ wsX40 ++ wsJx4a65c0 ++ wsX80 ++ wsX10 ++ wsX60 ++ (vx_atS RX9 249 "java/lang/IndexOutOfBoundsException" ["java/lang/RuntimeException", "java/lang/Exception"]).filter goodWord ++ (vx_atS RX9 258 "java/lang/IllegalArgumentException" ["java/lang/RuntimeException", "java/lang/Exception"]).filter goodWord ++ (vx_atS RX9 125 "java/lang/IllegalStateException" ["java/lang/RuntimeException", "java/lang/Exception"]).filter goodWord)
def wsX9_soften_r1 : List Cond := [Cond.constantLong RX9 85 (40), Cond.classLink RX9 110 RX8, Cond.instantiable RX8 3, Cond.initialized RX8, Cond.fieldLink RX9 21 "Craterclock" "fallen" "Ljava/util/ArrayList;", Cond.fieldLink RX9 14 "Craterclock" "cells" "LCraterclock$Ground;", Cond.methodLink RX9 48 yX9_requireRange, Cond.static yX9_requireRange, Cond.initialized RX9, Cond.code yX9_requireRange cX9_requireRange 6 none, Cond.classLink RX9 254 "java/lang/IllegalArgumentException", Cond.initialized "java/lang/IllegalArgumentException", Cond.methodLink RX9 91 yX9_requireRoomForLessening, Cond.instanceMethod yX9_requireRoomForLessening, Cond.selects RX9 yX9_requireRoomForLessening yX9_requireRoomForLessening, Cond.code yX9_requireRoomForLessening cX9_requireRoomForLessening 1 none, Cond.classLink RX9 121 "java/lang/IllegalStateException", Cond.initialized "java/lang/IllegalStateException", Cond.fieldLink RX9 25 "Craterclock" "lessenings" "Ljava/util/ArrayList;", Cond.methodLink RX9 96 yJx4a65c_size_8abf5, Cond.instanceMethod yJx4a65c_size_8abf5, Cond.selects RJx4a65c yJx4a65c_size_8abf5 yJx4a65c_size_8abf5, Cond.initialized RJx4a65c, Cond.code yJx4a65c_size_8abf5 cJx4a65c_size_8abf5 1 (some .int)]
def wsX9_soften_r2 : List Cond := [Cond.fieldLink RJx4a65c 48 "java/util/ArrayList" "size" "I", Cond.methodLink RX9 112 yX6_copy, Cond.instanceMethod yX6_copy, Cond.selects RX6 yX6_copy yX6_copy, Cond.initialized RX6, Cond.code yX6_copy cX6_copy 1 (some (.object "Craterclock$Ground")), Cond.classLink RX6 10 RX6, Cond.instantiable RX6 1, Cond.fieldLink RX6 9 "Craterclock$Ground" "rows" "[I", Cond.methodLink RX6 15 ⟨"[I", "clone", "()Ljava/lang/Object;"⟩, Cond.sameMethod "[I" "java/lang/Object" "clone" "()Ljava/lang/Object;", Cond.native ⟨"java/lang/Object", "clone", "()Ljava/lang/Object;"⟩, Cond.instanceMethod ⟨"java/lang/Object", "clone", "()Ljava/lang/Object;"⟩, Cond.selects "[I" ⟨"[I", "clone", "()Ljava/lang/Object;"⟩ ⟨"java/lang/Object", "clone", "()Ljava/lang/Object;"⟩, Cond.classLink RX6 16 "[I", Cond.methodLink RX6 20 yX6_init, Cond.instanceMethod yX6_init, Cond.code yX6_init cX6_init 2 none, Cond.methodLink RX6 3 objectInit, Cond.instanceMethod objectInit, Cond.code objectInit ⟨#[0xb1]⟩ 1 none, Cond.methodLink RX9 116 yX8_init, Cond.instanceMethod yX8_init, Cond.code yX8_init cX8_init 4 none]
def wsX9_soften_r3 : List Cond := [Cond.fieldLink RX8 9 "Craterclock$Softening" "cellsThen" "LCraterclock$Ground;", Cond.fieldLink RX8 15 "Craterclock$Softening" "steps" "I", Cond.methodLink RX8 3 yX7_init, Cond.instanceMethod yX7_init, Cond.initialized RX7, Cond.code yX7_init cX7_init 2 none, Cond.methodLink RX7 1 objectInit, Cond.fieldLink RX7 7 "Craterclock$Lessening" "cratersThen" "I", Cond.methodLink RX9 106 yX9_lessenAll, Cond.instanceMethod yX9_lessenAll, Cond.selects RX9 yX9_lessenAll yX9_lessenAll, Cond.code yX9_lessenAll cX9_lessenAll 5 (some .int), Cond.classLink RX9 183 "Craterclock$Crater", Cond.methodLink RX9 132 yJx4a65c_add_9ea2d, Cond.instanceMethod yJx4a65c_add_9ea2d, Cond.selects RJx4a65c yJx4a65c_add_9ea2d yJx4a65c_add_9ea2d, Cond.code yJx4a65c_add_9ea2d cJx4a65c_add_9ea2d 2 (some .boolean), Cond.fieldLink RJx4a65c 63 "java/util/ArrayList" "modCount" "I", Cond.sameField "java/util/ArrayList" "java/util/AbstractList" "modCount" "I", Cond.fieldLink RJx4a65c 9 "java/util/ArrayList" "elementData" "[Ljava/lang/Object;", Cond.methodLink RJx4a65c 131 yJx4a65c_add_72be8, Cond.instanceMethod yJx4a65c_add_72be8, Cond.selects RJx4a65c yJx4a65c_add_72be8 yJx4a65c_add_72be8, Cond.code yJx4a65c_add_72be8 cJx4a65c_add_72be8 4 none]
def wsX9_soften_r4 : List Cond := [Cond.methodLink RJx4a65c 129 yJx4a65c_grow_d5877, Cond.instanceMethod yJx4a65c_grow_d5877, Cond.selects RJx4a65c yJx4a65c_grow_d5877 yJx4a65c_grow_d5877, Cond.code yJx4a65c_grow_d5877 cJx4a65c_grow_d5877 1 (some (.array (.object "java/lang/Object"))), Cond.methodLink RJx4a65c 69 yJx4a65c_grow_92f84, Cond.instanceMethod yJx4a65c_grow_92f84, Cond.selects RJx4a65c yJx4a65c_grow_92f84 yJx4a65c_grow_92f84, Cond.code yJx4a65c_grow_92f84 cJx4a65c_grow_92f84 4 (some (.array (.object "java/lang/Object"))), Cond.fieldLink RJx4a65c 39 "java/util/ArrayList" "DEFAULTCAPACITY_EMPTY_ELEMENTDATA" "[Ljava/lang/Object;", Cond.methodLink RJx4a65c 79 Lib.Math.max.name, Cond.static Lib.Math.max.name, Cond.initialized "java/lang/Math", Cond.code Lib.Math.max.name Lib.Math.max.code 2 (some .int), Cond.classLink RJx4a65c 7 "java/lang/Object", Cond.methodLink RJx4a65c 73 yJ8_newLength_cabcc, Cond.static yJ8_newLength_cabcc, Cond.initialized RJ8, Cond.code yJ8_newLength_cabcc cJ8_newLength_cabcc 4 (some .int), Cond.methodLink RJ8 194 Lib.Math.max.name, Cond.constant RJ8 200 (2147483639), Cond.methodLink RJ8 201 yJ8_hugeLength_7cf53, Cond.static yJ8_hugeLength_7cf53, Cond.code yJ8_hugeLength_7cf53 cJ8_hugeLength_7cf53 3 (some .int), Cond.methodLink RJx4a65c 66 yJ7_copyOf_1904c]
def wsX9_soften_r5 : List Cond := [Cond.static yJ7_copyOf_1904c, Cond.initialized RJ7, Cond.code yJ7_copyOf_1904c cJ7_copyOf_1904c 2 (some (.array (.object "java/lang/Object"))), Cond.methodLink RJ7 86 ⟨"java/lang/Object", "getClass", "()Ljava/lang/Class;"⟩, Cond.selects "[Ljava/lang/Object;" ⟨"java/lang/Object", "getClass", "()Ljava/lang/Class;"⟩ ⟨"java/lang/Object", "getClass", "()Ljava/lang/Class;"⟩, Cond.instanceMethod ⟨"java/lang/Object", "getClass", "()Ljava/lang/Class;"⟩, Cond.native ⟨"java/lang/Object", "getClass", "()Ljava/lang/Class;"⟩, Cond.methodLink RJ7 300 yJ7_copyOf_6403c, Cond.static yJ7_copyOf_6403c, Cond.code yJ7_copyOf_6403c cJ7_copyOf_6403c 4 (some (.array (.object "java/lang/Object"))), Cond.classLink RJ7 110 "[Ljava/lang/Object;", Cond.classLink RJ7 2 "java/lang/Object", Cond.methodLink RJ7 304 Lib.Math.min.name, Cond.static Lib.Math.min.name, Cond.code Lib.Math.min.name Lib.Math.min.code 2 (some .int), Cond.methodLink RJ7 150 arraycopyName, Cond.native arraycopyName, Cond.static arraycopyName, Cond.initialized "java/lang/System", Cond.methodLink RX9 179 yJx4a65c_get_915e3, Cond.instanceMethod yJx4a65c_get_915e3, Cond.selects RJx4a65c yJx4a65c_get_915e3 yJx4a65c_get_915e3, Cond.code yJx4a65c_get_915e3 cJx4a65c_get_915e3 2 (some (.object "java/lang/Object")), Cond.methodLink RJx4a65c 118 yJ15_checkIndex_7cf53]
def wsX9_soften_r6 : List Cond := [Cond.static yJ15_checkIndex_7cf53, Cond.initialized RJ15, Cond.code yJ15_checkIndex_7cf53 cJ15_checkIndex_7cf53 2 (some .int), Cond.methodLink RJ15 105 yJ3_checkIndex_8e157, Cond.static yJ3_checkIndex_8e157, Cond.initialized RJ3, Cond.code yJ3_checkIndex_8e157 cJ3_checkIndex_8e157 3 (some .int), Cond.methodLink RJx4a65c 123 yJx4a65c_elementData_915e3, Cond.instanceMethod yJx4a65c_elementData_915e3, Cond.selects RJx4a65c yJx4a65c_elementData_915e3 yJx4a65c_elementData_915e3, Cond.code yJx4a65c_elementData_915e3 cJx4a65c_elementData_915e3 2 (some (.object "java/lang/Object")), Cond.methodLink RX9 214 ⟨"Craterclock$Lessening", "lossOf", "(LCraterclock$Crater;)I"⟩, Cond.sameMethod "Craterclock$Lessening" "Craterclock$Lessening" "lossOf" "(LCraterclock$Crater;)I", Cond.selects RX5 ⟨"Craterclock$Lessening", "lossOf", "(LCraterclock$Crater;)I"⟩ yX5_lossOf, Cond.instanceMethod yX5_lossOf, Cond.initialized RX5, Cond.code yX5_lossOf cX5_lossOf 2 (some .int), Cond.fieldLink RX5 7 "Craterclock$Flood" "field" "LCraterclock$Field;", Cond.fieldLink RX5 17 "Craterclock$Crater" "x" "I", Cond.fieldLink RX5 22 "Craterclock$Crater" "y" "I", Cond.fieldLink RX5 13 "Craterclock$Flood" "thick" "I", Cond.methodLink RX5 25 yX4_has, Cond.instanceMethod yX4_has, Cond.selects RX4 yX4_has yX4_has]
def wsX9_soften_r7 : List Cond := [Cond.initialized RX4, Cond.code yX4_has cX4_has 3 (some .boolean), Cond.fieldLink RX4 7 "Craterclock$Field" "x" "I", Cond.fieldLink RX4 16 "Craterclock$Field" "toX" "I", Cond.fieldLink RX4 13 "Craterclock$Field" "y" "I", Cond.fieldLink RX4 19 "Craterclock$Field" "toY" "I", Cond.selects RX8 ⟨"Craterclock$Lessening", "lossOf", "(LCraterclock$Crater;)I"⟩ yX8_lossOf, Cond.instanceMethod yX8_lossOf, Cond.code yX8_lossOf cX8_lossOf 2 (some .int), Cond.fieldLink RX8 19 "Craterclock$Crater" "x" "I", Cond.fieldLink RX8 24 "Craterclock$Crater" "y" "I", Cond.methodLink RX8 27 yX6_kindAt, Cond.instanceMethod yX6_kindAt, Cond.selects RX6 yX6_kindAt yX6_kindAt, Cond.code yX6_kindAt cX6_kindAt 3 (some .int), Cond.methodLink RX9 209 yX1_lessen, Cond.instanceMethod yX1_lessen, Cond.selects RX1 yX1_lessen yX1_lessen, Cond.initialized RX1, Cond.code yX1_lessen cX1_lessen 2 (some .boolean), Cond.fieldLink RX1 34 "Craterclock$Crater" "depth" "I", Cond.methodLink RX1 37 Lib.Math.max.name]
def wsX9_soften : List Cond := .code yX9_soften cX9_soften 2 (some .int) :: ((wsX9_soften_r1 ++ (wsX9_soften_r2 ++ (wsX9_soften_r3 ++ (wsX9_soften_r4 ++ (wsX9_soften_r5 ++ (wsX9_soften_r6 ++ wsX9_soften_r7)))))) ++ wsX80 ++ wsX90 ++ wsJx4a65c0 ++ wsX60 ++ wsX50 ++ wsX10 ++ wsX40 ++ (vx_atS RX9 258 "java/lang/IllegalArgumentException" ["java/lang/RuntimeException", "java/lang/Exception"]).filter goodWord ++ (vx_atS RX9 125 "java/lang/IllegalStateException" ["java/lang/RuntimeException", "java/lang/Exception"]).filter goodWord)
def wsX9_eye_r1 : List Cond := [Cond.classLink RX9 121 "java/lang/IllegalStateException", Cond.initialized "java/lang/IllegalStateException", Cond.constantLong RX9 119 (9), Cond.fieldLink RX9 28 "Craterclock" "eyes" "Ljava/util/ArrayList;", Cond.classLink RX9 128 RX3, Cond.instantiable RX3 1, Cond.initialized RX3, Cond.methodLink RX9 48 yX9_requireRange, Cond.static yX9_requireRange, Cond.initialized RX9, Cond.code yX9_requireRange cX9_requireRange 6 none, Cond.classLink RX9 254 "java/lang/IllegalArgumentException", Cond.initialized "java/lang/IllegalArgumentException", Cond.methodLink RX9 96 yJx4a65c_size_8abf5, Cond.instanceMethod yJx4a65c_size_8abf5, Cond.selects RJx4a65c yJx4a65c_size_8abf5 yJx4a65c_size_8abf5, Cond.initialized RJx4a65c, Cond.code yJx4a65c_size_8abf5 cJx4a65c_size_8abf5 1 (some .int), Cond.fieldLink RJx4a65c 48 "java/util/ArrayList" "size" "I", Cond.methodLink RX9 130 yX3_init, Cond.instanceMethod yX3_init, Cond.code yX3_init cX3_init 2 none, Cond.methodLink RX3 1 objectInit, Cond.instanceMethod objectInit]
def wsX9_eye_r2 : List Cond := [Cond.code objectInit ⟨#[0xb1]⟩ 1 none, Cond.fieldLink RX3 7 "Craterclock$Eye" "skill" "I", Cond.methodLink RX9 132 yJx4a65c_add_9ea2d, Cond.instanceMethod yJx4a65c_add_9ea2d, Cond.selects RJx4a65c yJx4a65c_add_9ea2d yJx4a65c_add_9ea2d, Cond.code yJx4a65c_add_9ea2d cJx4a65c_add_9ea2d 2 (some .boolean), Cond.fieldLink RJx4a65c 63 "java/util/ArrayList" "modCount" "I", Cond.sameField "java/util/ArrayList" "java/util/AbstractList" "modCount" "I", Cond.fieldLink RJx4a65c 9 "java/util/ArrayList" "elementData" "[Ljava/lang/Object;", Cond.methodLink RJx4a65c 131 yJx4a65c_add_72be8, Cond.instanceMethod yJx4a65c_add_72be8, Cond.selects RJx4a65c yJx4a65c_add_72be8 yJx4a65c_add_72be8, Cond.code yJx4a65c_add_72be8 cJx4a65c_add_72be8 4 none, Cond.methodLink RJx4a65c 129 yJx4a65c_grow_d5877, Cond.instanceMethod yJx4a65c_grow_d5877, Cond.selects RJx4a65c yJx4a65c_grow_d5877 yJx4a65c_grow_d5877, Cond.code yJx4a65c_grow_d5877 cJx4a65c_grow_d5877 1 (some (.array (.object "java/lang/Object"))), Cond.methodLink RJx4a65c 69 yJx4a65c_grow_92f84, Cond.instanceMethod yJx4a65c_grow_92f84, Cond.selects RJx4a65c yJx4a65c_grow_92f84 yJx4a65c_grow_92f84, Cond.code yJx4a65c_grow_92f84 cJx4a65c_grow_92f84 4 (some (.array (.object "java/lang/Object"))), Cond.fieldLink RJx4a65c 39 "java/util/ArrayList" "DEFAULTCAPACITY_EMPTY_ELEMENTDATA" "[Ljava/lang/Object;", Cond.methodLink RJx4a65c 79 Lib.Math.max.name, Cond.static Lib.Math.max.name]
def wsX9_eye_r3 : List Cond := [Cond.initialized "java/lang/Math", Cond.code Lib.Math.max.name Lib.Math.max.code 2 (some .int), Cond.classLink RJx4a65c 7 "java/lang/Object", Cond.methodLink RJx4a65c 73 yJ8_newLength_cabcc, Cond.static yJ8_newLength_cabcc, Cond.initialized RJ8, Cond.code yJ8_newLength_cabcc cJ8_newLength_cabcc 4 (some .int), Cond.methodLink RJ8 194 Lib.Math.max.name, Cond.constant RJ8 200 (2147483639), Cond.methodLink RJ8 201 yJ8_hugeLength_7cf53, Cond.static yJ8_hugeLength_7cf53, Cond.code yJ8_hugeLength_7cf53 cJ8_hugeLength_7cf53 3 (some .int), Cond.methodLink RJx4a65c 66 yJ7_copyOf_1904c, Cond.static yJ7_copyOf_1904c, Cond.initialized RJ7, Cond.code yJ7_copyOf_1904c cJ7_copyOf_1904c 2 (some (.array (.object "java/lang/Object"))), Cond.methodLink RJ7 86 ⟨"java/lang/Object", "getClass", "()Ljava/lang/Class;"⟩, Cond.selects "[Ljava/lang/Object;" ⟨"java/lang/Object", "getClass", "()Ljava/lang/Class;"⟩ ⟨"java/lang/Object", "getClass", "()Ljava/lang/Class;"⟩, Cond.instanceMethod ⟨"java/lang/Object", "getClass", "()Ljava/lang/Class;"⟩, Cond.native ⟨"java/lang/Object", "getClass", "()Ljava/lang/Class;"⟩, Cond.methodLink RJ7 300 yJ7_copyOf_6403c, Cond.static yJ7_copyOf_6403c, Cond.code yJ7_copyOf_6403c cJ7_copyOf_6403c 4 (some (.array (.object "java/lang/Object"))), Cond.classLink RJ7 110 "[Ljava/lang/Object;"]
def wsX9_eye_r4 : List Cond := [Cond.classLink RJ7 2 "java/lang/Object", Cond.methodLink RJ7 304 Lib.Math.min.name, Cond.static Lib.Math.min.name, Cond.code Lib.Math.min.name Lib.Math.min.code 2 (some .int), Cond.methodLink RJ7 150 arraycopyName, Cond.native arraycopyName, Cond.static arraycopyName, Cond.initialized "java/lang/System"]
def wsX9_eye : List Cond := .code yX9_eye cX9_eye 2 (some .int) :: ((wsX9_eye_r1 ++ (wsX9_eye_r2 ++ (wsX9_eye_r3 ++ wsX9_eye_r4))) ++ wsX90 ++ wsX30 ++ wsJx4a65c0 ++ (vx_atS RX9 125 "java/lang/IllegalStateException" ["java/lang/RuntimeException", "java/lang/Exception"]).filter goodWord ++ (vx_atS RX9 258 "java/lang/IllegalArgumentException" ["java/lang/RuntimeException", "java/lang/Exception"]).filter goodWord)
def wsX9_anchor_r1 : List Cond := [Cond.classLink RX9 121 "java/lang/IllegalStateException", Cond.initialized "java/lang/IllegalStateException", Cond.constantLong RX9 136 (5000000000), Cond.constantLong RX9 138 (100000000), Cond.fieldLink RX9 34 "Craterclock" "curve" "LCraterclock$Curve;", Cond.methodLink RX9 48 yX9_requireRange, Cond.static yX9_requireRange, Cond.initialized RX9, Cond.code yX9_requireRange cX9_requireRange 6 none, Cond.classLink RX9 254 "java/lang/IllegalArgumentException", Cond.initialized "java/lang/IllegalArgumentException", Cond.methodLink RX9 140 yX2_canTake, Cond.instanceMethod yX2_canTake, Cond.selects RX2 yX2_canTake yX2_canTake, Cond.initialized RX2, Cond.code yX2_canTake cX2_canTake 7 (some .boolean), Cond.fieldLink RX2 12 "Craterclock$Curve" "anchors" "Ljava/util/ArrayList;", Cond.classLink RX2 26 "Craterclock$Anchor", Cond.fieldLink RX2 28 "Craterclock$Anchor" "years" "J", Cond.fieldLink RX2 32 "Craterclock$Anchor" "density" "J", Cond.methodLink RX2 18 yJx4a65c_size_8abf5, Cond.instanceMethod yJx4a65c_size_8abf5, Cond.selects RJx4a65c yJx4a65c_size_8abf5 yJx4a65c_size_8abf5, Cond.initialized RJx4a65c]
def wsX9_anchor_r2 : List Cond := [Cond.code yJx4a65c_size_8abf5 cJx4a65c_size_8abf5 1 (some .int), Cond.fieldLink RJx4a65c 48 "java/util/ArrayList" "size" "I", Cond.methodLink RX2 22 yJx4a65c_get_915e3, Cond.instanceMethod yJx4a65c_get_915e3, Cond.selects RJx4a65c yJx4a65c_get_915e3 yJx4a65c_get_915e3, Cond.code yJx4a65c_get_915e3 cJx4a65c_get_915e3 2 (some (.object "java/lang/Object")), Cond.methodLink RJx4a65c 118 yJ15_checkIndex_7cf53, Cond.static yJ15_checkIndex_7cf53, Cond.initialized RJ15, Cond.code yJ15_checkIndex_7cf53 cJ15_checkIndex_7cf53 2 (some .int), Cond.methodLink RJ15 105 yJ3_checkIndex_8e157, Cond.static yJ3_checkIndex_8e157, Cond.initialized RJ3, Cond.code yJ3_checkIndex_8e157 cJ3_checkIndex_8e157 3 (some .int), Cond.methodLink RJx4a65c 123 yJx4a65c_elementData_915e3, Cond.instanceMethod yJx4a65c_elementData_915e3, Cond.selects RJx4a65c yJx4a65c_elementData_915e3 yJx4a65c_elementData_915e3, Cond.code yJx4a65c_elementData_915e3 cJx4a65c_elementData_915e3 2 (some (.object "java/lang/Object")), Cond.fieldLink RJx4a65c 9 "java/util/ArrayList" "elementData" "[Ljava/lang/Object;", Cond.methodLink RX9 146 yX2_take, Cond.instanceMethod yX2_take, Cond.selects RX2 yX2_take yX2_take, Cond.code yX2_take cX2_take 5 (some .int), Cond.classLink RX2 26 RX0]
def wsX9_anchor_r3 : List Cond := [Cond.instantiable RX0 2, Cond.initialized RX0, Cond.methodLink RX2 35 yX0_init, Cond.instanceMethod yX0_init, Cond.code yX0_init cX0_init 5 none, Cond.methodLink RX0 1 objectInit, Cond.instanceMethod objectInit, Cond.code objectInit ⟨#[0xb1]⟩ 1 none, Cond.fieldLink RX0 7 "Craterclock$Anchor" "years" "J", Cond.fieldLink RX0 13 "Craterclock$Anchor" "density" "J", Cond.methodLink RX2 38 yJx4a65c_add_9ea2d, Cond.instanceMethod yJx4a65c_add_9ea2d, Cond.selects RJx4a65c yJx4a65c_add_9ea2d yJx4a65c_add_9ea2d, Cond.code yJx4a65c_add_9ea2d cJx4a65c_add_9ea2d 2 (some .boolean), Cond.fieldLink RJx4a65c 63 "java/util/ArrayList" "modCount" "I", Cond.sameField "java/util/ArrayList" "java/util/AbstractList" "modCount" "I", Cond.methodLink RJx4a65c 131 yJx4a65c_add_72be8, Cond.instanceMethod yJx4a65c_add_72be8, Cond.selects RJx4a65c yJx4a65c_add_72be8 yJx4a65c_add_72be8, Cond.code yJx4a65c_add_72be8 cJx4a65c_add_72be8 4 none, Cond.methodLink RJx4a65c 129 yJx4a65c_grow_d5877, Cond.instanceMethod yJx4a65c_grow_d5877, Cond.selects RJx4a65c yJx4a65c_grow_d5877 yJx4a65c_grow_d5877, Cond.code yJx4a65c_grow_d5877 cJx4a65c_grow_d5877 1 (some (.array (.object "java/lang/Object")))]
def wsX9_anchor_r4 : List Cond := [Cond.methodLink RJx4a65c 69 yJx4a65c_grow_92f84, Cond.instanceMethod yJx4a65c_grow_92f84, Cond.selects RJx4a65c yJx4a65c_grow_92f84 yJx4a65c_grow_92f84, Cond.code yJx4a65c_grow_92f84 cJx4a65c_grow_92f84 4 (some (.array (.object "java/lang/Object"))), Cond.fieldLink RJx4a65c 39 "java/util/ArrayList" "DEFAULTCAPACITY_EMPTY_ELEMENTDATA" "[Ljava/lang/Object;", Cond.methodLink RJx4a65c 79 Lib.Math.max.name, Cond.static Lib.Math.max.name, Cond.initialized "java/lang/Math", Cond.code Lib.Math.max.name Lib.Math.max.code 2 (some .int), Cond.classLink RJx4a65c 7 "java/lang/Object", Cond.methodLink RJx4a65c 73 yJ8_newLength_cabcc, Cond.static yJ8_newLength_cabcc, Cond.initialized RJ8, Cond.code yJ8_newLength_cabcc cJ8_newLength_cabcc 4 (some .int), Cond.methodLink RJ8 194 Lib.Math.max.name, Cond.constant RJ8 200 (2147483639), Cond.methodLink RJ8 201 yJ8_hugeLength_7cf53, Cond.static yJ8_hugeLength_7cf53, Cond.code yJ8_hugeLength_7cf53 cJ8_hugeLength_7cf53 3 (some .int), Cond.methodLink RJx4a65c 66 yJ7_copyOf_1904c, Cond.static yJ7_copyOf_1904c, Cond.initialized RJ7, Cond.code yJ7_copyOf_1904c cJ7_copyOf_1904c 2 (some (.array (.object "java/lang/Object"))), Cond.methodLink RJ7 86 ⟨"java/lang/Object", "getClass", "()Ljava/lang/Class;"⟩]
def wsX9_anchor_r5 : List Cond := [Cond.selects "[Ljava/lang/Object;" ⟨"java/lang/Object", "getClass", "()Ljava/lang/Class;"⟩ ⟨"java/lang/Object", "getClass", "()Ljava/lang/Class;"⟩, Cond.instanceMethod ⟨"java/lang/Object", "getClass", "()Ljava/lang/Class;"⟩, Cond.native ⟨"java/lang/Object", "getClass", "()Ljava/lang/Class;"⟩, Cond.methodLink RJ7 300 yJ7_copyOf_6403c, Cond.static yJ7_copyOf_6403c, Cond.code yJ7_copyOf_6403c cJ7_copyOf_6403c 4 (some (.array (.object "java/lang/Object"))), Cond.classLink RJ7 110 "[Ljava/lang/Object;", Cond.classLink RJ7 2 "java/lang/Object", Cond.methodLink RJ7 304 Lib.Math.min.name, Cond.static Lib.Math.min.name, Cond.code Lib.Math.min.name Lib.Math.min.code 2 (some .int), Cond.methodLink RJ7 150 arraycopyName, Cond.native arraycopyName, Cond.static arraycopyName, Cond.initialized "java/lang/System"]
def wsX9_anchor : List Cond := .code yX9_anchor cX9_anchor 5 (some .int) :: ((wsX9_anchor_r1 ++ (wsX9_anchor_r2 ++ (wsX9_anchor_r3 ++ (wsX9_anchor_r4 ++ wsX9_anchor_r5)))) ++ wsX90 ++ wsX20 ++ wsX00 ++ wsJx4a65c0 ++ (vx_atS RX9 125 "java/lang/IllegalStateException" ["java/lang/RuntimeException", "java/lang/Exception"]).filter goodWord ++ (vx_atS RX9 258 "java/lang/IllegalArgumentException" ["java/lang/RuntimeException", "java/lang/Exception"]).filter goodWord)
def wsX9_requireEyeAndCells : List Cond := .code yX9_requireEyeAndCells cX9_requireEyeAndCells 6 none :: ([.classLink RX9 245 "java/lang/IndexOutOfBoundsException", .initialized "java/lang/IndexOutOfBoundsException", .fieldLink RX9 28 "Craterclock" "eyes" "Ljava/util/ArrayList;", .methodLink RX9 96 yJx4a65c_size_8abf5, .instanceMethod yJx4a65c_size_8abf5, .selects RJx4a65c yJx4a65c_size_8abf5 yJx4a65c_size_8abf5, .initialized RJx4a65c, .code yJx4a65c_size_8abf5 cJx4a65c_size_8abf5 1 (some .int), .fieldLink RJx4a65c 48 "java/util/ArrayList" "size" "I", .methodLink RX9 42 yX9_requireCell, .static yX9_requireCell, .initialized RX9, .code yX9_requireCell cX9_requireCell 2 none] ++ wsX90 ++ wsJx4a65c0 ++ (vx_atS RX9 249 "java/lang/IndexOutOfBoundsException" ["java/lang/RuntimeException", "java/lang/Exception"]).filter goodWord)
def wsX9_countSeen_r1 : List Cond := [Cond.fieldLink RX9 28 "Craterclock" "eyes" "Ljava/util/ArrayList;", Cond.classLink RX9 128 "Craterclock$Eye", Cond.fieldLink RX9 21 "Craterclock" "fallen" "Ljava/util/ArrayList;", Cond.classLink RX9 183 "Craterclock$Crater", Cond.fieldLink RX9 191 "Craterclock$Crater" "radius" "I", Cond.fieldLink RX9 185 "Craterclock$Crater" "x" "I", Cond.fieldLink RX9 188 "Craterclock$Crater" "y" "I", Cond.methodLink RX9 96 yJx4a65c_size_8abf5, Cond.instanceMethod yJx4a65c_size_8abf5, Cond.selects RJx4a65c yJx4a65c_size_8abf5 yJx4a65c_size_8abf5, Cond.initialized RJx4a65c, Cond.code yJx4a65c_size_8abf5 cJx4a65c_size_8abf5 1 (some .int), Cond.fieldLink RJx4a65c 48 "java/util/ArrayList" "size" "I", Cond.methodLink RX9 179 yJx4a65c_get_915e3, Cond.instanceMethod yJx4a65c_get_915e3, Cond.selects RJx4a65c yJx4a65c_get_915e3 yJx4a65c_get_915e3, Cond.code yJx4a65c_get_915e3 cJx4a65c_get_915e3 2 (some (.object "java/lang/Object")), Cond.methodLink RJx4a65c 118 yJ15_checkIndex_7cf53, Cond.static yJ15_checkIndex_7cf53, Cond.initialized RJ15, Cond.code yJ15_checkIndex_7cf53 cJ15_checkIndex_7cf53 2 (some .int), Cond.methodLink RJ15 105 yJ3_checkIndex_8e157, Cond.static yJ3_checkIndex_8e157, Cond.initialized RJ3]
def wsX9_countSeen_r2 : List Cond := [Cond.code yJ3_checkIndex_8e157 cJ3_checkIndex_8e157 3 (some .int), Cond.methodLink RJx4a65c 123 yJx4a65c_elementData_915e3, Cond.instanceMethod yJx4a65c_elementData_915e3, Cond.selects RJx4a65c yJx4a65c_elementData_915e3 yJx4a65c_elementData_915e3, Cond.code yJx4a65c_elementData_915e3 cJx4a65c_elementData_915e3 2 (some (.object "java/lang/Object")), Cond.fieldLink RJx4a65c 9 "java/util/ArrayList" "elementData" "[Ljava/lang/Object;", Cond.methodLink RX9 230 yX4_has, Cond.instanceMethod yX4_has, Cond.selects RX4 yX4_has yX4_has, Cond.initialized RX4, Cond.code yX4_has cX4_has 3 (some .boolean), Cond.fieldLink RX4 7 "Craterclock$Field" "x" "I", Cond.fieldLink RX4 16 "Craterclock$Field" "toX" "I", Cond.fieldLink RX4 13 "Craterclock$Field" "y" "I", Cond.fieldLink RX4 19 "Craterclock$Field" "toY" "I", Cond.methodLink RX9 233 yX3_sees, Cond.instanceMethod yX3_sees, Cond.selects RX3 yX3_sees yX3_sees, Cond.initialized RX3, Cond.code yX3_sees cX3_sees 2 (some .boolean), Cond.fieldLink RX3 13 "Craterclock$Crater" "depth" "I", Cond.fieldLink RX3 7 "Craterclock$Eye" "skill" "I"]
def wsX9_countSeen : List Cond := .code yX9_countSeen cX9_countSeen 8 (some .int) :: ((wsX9_countSeen_r1 ++ wsX9_countSeen_r2) ++ wsX90 ++ wsX10 ++ wsJx4a65c0 ++ wsX40 ++ wsX30)
def wsX9_count_r1 : List Cond := [Cond.constantLong RX9 154 (7), Cond.classLink RX9 99 RX4, Cond.instantiable RX4 4, Cond.initialized RX4, Cond.methodLink RX9 150 yX9_requireEyeAndCells, Cond.instanceMethod yX9_requireEyeAndCells, Cond.selects RX9 yX9_requireEyeAndCells yX9_requireEyeAndCells, Cond.initialized RX9, Cond.code yX9_requireEyeAndCells cX9_requireEyeAndCells 6 none, Cond.classLink RX9 245 "java/lang/IndexOutOfBoundsException", Cond.initialized "java/lang/IndexOutOfBoundsException", Cond.fieldLink RX9 28 "Craterclock" "eyes" "Ljava/util/ArrayList;", Cond.methodLink RX9 96 yJx4a65c_size_8abf5, Cond.instanceMethod yJx4a65c_size_8abf5, Cond.selects RJx4a65c yJx4a65c_size_8abf5 yJx4a65c_size_8abf5, Cond.initialized RJx4a65c, Cond.code yJx4a65c_size_8abf5 cJx4a65c_size_8abf5 1 (some .int), Cond.fieldLink RJx4a65c 48 "java/util/ArrayList" "size" "I", Cond.methodLink RX9 42 yX9_requireCell, Cond.static yX9_requireCell, Cond.code yX9_requireCell cX9_requireCell 2 none, Cond.methodLink RX9 48 yX9_requireRange, Cond.static yX9_requireRange, Cond.code yX9_requireRange cX9_requireRange 6 none]
def wsX9_count_r2 : List Cond := [Cond.classLink RX9 254 "java/lang/IllegalArgumentException", Cond.initialized "java/lang/IllegalArgumentException", Cond.methodLink RX9 87 yX9_requireOrder, Cond.static yX9_requireOrder, Cond.code yX9_requireOrder cX9_requireOrder 4 none, Cond.methodLink RX9 101 yX4_init, Cond.instanceMethod yX4_init, Cond.code yX4_init cX4_init 5 none, Cond.methodLink RX4 1 objectInit, Cond.instanceMethod objectInit, Cond.code objectInit ⟨#[0xb1]⟩ 1 none, Cond.fieldLink RX4 7 "Craterclock$Field" "x" "I", Cond.fieldLink RX4 13 "Craterclock$Field" "y" "I", Cond.fieldLink RX4 16 "Craterclock$Field" "toX" "I", Cond.fieldLink RX4 19 "Craterclock$Field" "toY" "I", Cond.methodLink RX9 156 yX9_countSeen, Cond.instanceMethod yX9_countSeen, Cond.selects RX9 yX9_countSeen yX9_countSeen, Cond.code yX9_countSeen cX9_countSeen 8 (some .int), Cond.classLink RX9 128 "Craterclock$Eye", Cond.fieldLink RX9 21 "Craterclock" "fallen" "Ljava/util/ArrayList;", Cond.classLink RX9 183 "Craterclock$Crater", Cond.fieldLink RX9 191 "Craterclock$Crater" "radius" "I", Cond.fieldLink RX9 185 "Craterclock$Crater" "x" "I"]
def wsX9_count_r3 : List Cond := [Cond.fieldLink RX9 188 "Craterclock$Crater" "y" "I", Cond.methodLink RX9 179 yJx4a65c_get_915e3, Cond.instanceMethod yJx4a65c_get_915e3, Cond.selects RJx4a65c yJx4a65c_get_915e3 yJx4a65c_get_915e3, Cond.code yJx4a65c_get_915e3 cJx4a65c_get_915e3 2 (some (.object "java/lang/Object")), Cond.methodLink RJx4a65c 118 yJ15_checkIndex_7cf53, Cond.static yJ15_checkIndex_7cf53, Cond.initialized RJ15, Cond.code yJ15_checkIndex_7cf53 cJ15_checkIndex_7cf53 2 (some .int), Cond.methodLink RJ15 105 yJ3_checkIndex_8e157, Cond.static yJ3_checkIndex_8e157, Cond.initialized RJ3, Cond.code yJ3_checkIndex_8e157 cJ3_checkIndex_8e157 3 (some .int), Cond.methodLink RJx4a65c 123 yJx4a65c_elementData_915e3, Cond.instanceMethod yJx4a65c_elementData_915e3, Cond.selects RJx4a65c yJx4a65c_elementData_915e3 yJx4a65c_elementData_915e3, Cond.code yJx4a65c_elementData_915e3 cJx4a65c_elementData_915e3 2 (some (.object "java/lang/Object")), Cond.fieldLink RJx4a65c 9 "java/util/ArrayList" "elementData" "[Ljava/lang/Object;", Cond.methodLink RX9 230 yX4_has, Cond.instanceMethod yX4_has, Cond.selects RX4 yX4_has yX4_has, Cond.code yX4_has cX4_has 3 (some .boolean), Cond.methodLink RX9 233 yX3_sees, Cond.instanceMethod yX3_sees]
def wsX9_count_r4 : List Cond := [Cond.selects RX3 yX3_sees yX3_sees, Cond.initialized RX3, Cond.code yX3_sees cX3_sees 2 (some .boolean), Cond.fieldLink RX3 13 "Craterclock$Crater" "depth" "I", Cond.fieldLink RX3 7 "Craterclock$Eye" "skill" "I"]
def wsX9_count : List Cond := .code yX9_count cX9_count 7 (some .int) :: ((wsX9_count_r1 ++ (wsX9_count_r2 ++ (wsX9_count_r3 ++ wsX9_count_r4))) ++ wsX40 ++ wsX90 ++ wsJx4a65c0 ++ wsX10 ++ wsX30 ++ (vx_atS RX9 249 "java/lang/IndexOutOfBoundsException" ["java/lang/RuntimeException", "java/lang/Exception"]).filter goodWord ++ (vx_atS RX9 258 "java/lang/IllegalArgumentException" ["java/lang/RuntimeException", "java/lang/Exception"]).filter goodWord)
def wsX9_densitySeen_r1 : List Cond := [Cond.constantLong RX9 237 (256000), Cond.methodLink RX9 156 yX9_countSeen, Cond.instanceMethod yX9_countSeen, Cond.selects RX9 yX9_countSeen yX9_countSeen, Cond.initialized RX9, Cond.code yX9_countSeen cX9_countSeen 8 (some .int), Cond.fieldLink RX9 28 "Craterclock" "eyes" "Ljava/util/ArrayList;", Cond.classLink RX9 128 "Craterclock$Eye", Cond.fieldLink RX9 21 "Craterclock" "fallen" "Ljava/util/ArrayList;", Cond.classLink RX9 183 "Craterclock$Crater", Cond.fieldLink RX9 191 "Craterclock$Crater" "radius" "I", Cond.fieldLink RX9 185 "Craterclock$Crater" "x" "I", Cond.fieldLink RX9 188 "Craterclock$Crater" "y" "I", Cond.methodLink RX9 96 yJx4a65c_size_8abf5, Cond.instanceMethod yJx4a65c_size_8abf5, Cond.selects RJx4a65c yJx4a65c_size_8abf5 yJx4a65c_size_8abf5, Cond.initialized RJx4a65c, Cond.code yJx4a65c_size_8abf5 cJx4a65c_size_8abf5 1 (some .int), Cond.fieldLink RJx4a65c 48 "java/util/ArrayList" "size" "I", Cond.methodLink RX9 179 yJx4a65c_get_915e3, Cond.instanceMethod yJx4a65c_get_915e3, Cond.selects RJx4a65c yJx4a65c_get_915e3 yJx4a65c_get_915e3, Cond.code yJx4a65c_get_915e3 cJx4a65c_get_915e3 2 (some (.object "java/lang/Object")), Cond.methodLink RJx4a65c 118 yJ15_checkIndex_7cf53]
def wsX9_densitySeen_r2 : List Cond := [Cond.static yJ15_checkIndex_7cf53, Cond.initialized RJ15, Cond.code yJ15_checkIndex_7cf53 cJ15_checkIndex_7cf53 2 (some .int), Cond.methodLink RJ15 105 yJ3_checkIndex_8e157, Cond.static yJ3_checkIndex_8e157, Cond.initialized RJ3, Cond.code yJ3_checkIndex_8e157 cJ3_checkIndex_8e157 3 (some .int), Cond.methodLink RJx4a65c 123 yJx4a65c_elementData_915e3, Cond.instanceMethod yJx4a65c_elementData_915e3, Cond.selects RJx4a65c yJx4a65c_elementData_915e3 yJx4a65c_elementData_915e3, Cond.code yJx4a65c_elementData_915e3 cJx4a65c_elementData_915e3 2 (some (.object "java/lang/Object")), Cond.fieldLink RJx4a65c 9 "java/util/ArrayList" "elementData" "[Ljava/lang/Object;", Cond.methodLink RX9 230 yX4_has, Cond.instanceMethod yX4_has, Cond.selects RX4 yX4_has yX4_has, Cond.initialized RX4, Cond.code yX4_has cX4_has 3 (some .boolean), Cond.fieldLink RX4 7 "Craterclock$Field" "x" "I", Cond.fieldLink RX4 16 "Craterclock$Field" "toX" "I", Cond.fieldLink RX4 13 "Craterclock$Field" "y" "I", Cond.fieldLink RX4 19 "Craterclock$Field" "toY" "I", Cond.methodLink RX9 233 yX3_sees, Cond.instanceMethod yX3_sees, Cond.selects RX3 yX3_sees yX3_sees]
def wsX9_densitySeen_r3 : List Cond := [Cond.initialized RX3, Cond.code yX3_sees cX3_sees 2 (some .boolean), Cond.fieldLink RX3 13 "Craterclock$Crater" "depth" "I", Cond.fieldLink RX3 7 "Craterclock$Eye" "skill" "I", Cond.methodLink RX9 239 yX4_cells, Cond.instanceMethod yX4_cells, Cond.selects RX4 yX4_cells yX4_cells, Cond.code yX4_cells cX4_cells 1 (some .int), Cond.methodLink RX9 241 yX2_dividedDown, Cond.static yX2_dividedDown, Cond.initialized RX2, Cond.code yX2_dividedDown cX2_dividedDown 4 (some .long)]
def wsX9_densitySeen : List Cond := .code yX9_densitySeen cX9_densitySeen 3 (some .long) :: ((wsX9_densitySeen_r1 ++ (wsX9_densitySeen_r2 ++ wsX9_densitySeen_r3)) ++ wsX90 ++ wsX10 ++ wsJx4a65c0 ++ wsX40 ++ wsX30)
def wsX9_age_r1 : List Cond := [Cond.classLink RX9 121 "java/lang/IllegalStateException", Cond.initialized "java/lang/IllegalStateException", Cond.classLink RX9 99 RX4, Cond.instantiable RX4 4, Cond.initialized RX4, Cond.fieldLink RX9 34 "Craterclock" "curve" "LCraterclock$Curve;", Cond.methodLink RX9 150 yX9_requireEyeAndCells, Cond.instanceMethod yX9_requireEyeAndCells, Cond.selects RX9 yX9_requireEyeAndCells yX9_requireEyeAndCells, Cond.initialized RX9, Cond.code yX9_requireEyeAndCells cX9_requireEyeAndCells 6 none, Cond.classLink RX9 245 "java/lang/IndexOutOfBoundsException", Cond.initialized "java/lang/IndexOutOfBoundsException", Cond.fieldLink RX9 28 "Craterclock" "eyes" "Ljava/util/ArrayList;", Cond.methodLink RX9 96 yJx4a65c_size_8abf5, Cond.instanceMethod yJx4a65c_size_8abf5, Cond.selects RJx4a65c yJx4a65c_size_8abf5 yJx4a65c_size_8abf5, Cond.initialized RJx4a65c, Cond.code yJx4a65c_size_8abf5 cJx4a65c_size_8abf5 1 (some .int), Cond.fieldLink RJx4a65c 48 "java/util/ArrayList" "size" "I", Cond.methodLink RX9 42 yX9_requireCell, Cond.static yX9_requireCell, Cond.code yX9_requireCell cX9_requireCell 2 none, Cond.methodLink RX9 87 yX9_requireOrder]
def wsX9_age_r2 : List Cond := [Cond.static yX9_requireOrder, Cond.code yX9_requireOrder cX9_requireOrder 4 none, Cond.classLink RX9 254 "java/lang/IllegalArgumentException", Cond.initialized "java/lang/IllegalArgumentException", Cond.methodLink RX9 101 yX4_init, Cond.instanceMethod yX4_init, Cond.code yX4_init cX4_init 5 none, Cond.methodLink RX4 1 objectInit, Cond.instanceMethod objectInit, Cond.code objectInit ⟨#[0xb1]⟩ 1 none, Cond.fieldLink RX4 7 "Craterclock$Field" "x" "I", Cond.fieldLink RX4 13 "Craterclock$Field" "y" "I", Cond.fieldLink RX4 16 "Craterclock$Field" "toX" "I", Cond.fieldLink RX4 19 "Craterclock$Field" "toY" "I", Cond.methodLink RX9 160 yX9_densitySeen, Cond.instanceMethod yX9_densitySeen, Cond.selects RX9 yX9_densitySeen yX9_densitySeen, Cond.code yX9_densitySeen cX9_densitySeen 3 (some .long), Cond.constantLong RX9 237 (256000), Cond.methodLink RX9 156 yX9_countSeen, Cond.instanceMethod yX9_countSeen, Cond.selects RX9 yX9_countSeen yX9_countSeen, Cond.code yX9_countSeen cX9_countSeen 8 (some .int), Cond.classLink RX9 128 "Craterclock$Eye"]
def wsX9_age_r3 : List Cond := [Cond.fieldLink RX9 21 "Craterclock" "fallen" "Ljava/util/ArrayList;", Cond.classLink RX9 183 "Craterclock$Crater", Cond.fieldLink RX9 191 "Craterclock$Crater" "radius" "I", Cond.fieldLink RX9 185 "Craterclock$Crater" "x" "I", Cond.fieldLink RX9 188 "Craterclock$Crater" "y" "I", Cond.methodLink RX9 179 yJx4a65c_get_915e3, Cond.instanceMethod yJx4a65c_get_915e3, Cond.selects RJx4a65c yJx4a65c_get_915e3 yJx4a65c_get_915e3, Cond.code yJx4a65c_get_915e3 cJx4a65c_get_915e3 2 (some (.object "java/lang/Object")), Cond.methodLink RJx4a65c 118 yJ15_checkIndex_7cf53, Cond.static yJ15_checkIndex_7cf53, Cond.initialized RJ15, Cond.code yJ15_checkIndex_7cf53 cJ15_checkIndex_7cf53 2 (some .int), Cond.methodLink RJ15 105 yJ3_checkIndex_8e157, Cond.static yJ3_checkIndex_8e157, Cond.initialized RJ3, Cond.code yJ3_checkIndex_8e157 cJ3_checkIndex_8e157 3 (some .int), Cond.methodLink RJx4a65c 123 yJx4a65c_elementData_915e3, Cond.instanceMethod yJx4a65c_elementData_915e3, Cond.selects RJx4a65c yJx4a65c_elementData_915e3 yJx4a65c_elementData_915e3, Cond.code yJx4a65c_elementData_915e3 cJx4a65c_elementData_915e3 2 (some (.object "java/lang/Object")), Cond.fieldLink RJx4a65c 9 "java/util/ArrayList" "elementData" "[Ljava/lang/Object;", Cond.methodLink RX9 230 yX4_has, Cond.instanceMethod yX4_has]
def wsX9_age_r4 : List Cond := [Cond.selects RX4 yX4_has yX4_has, Cond.code yX4_has cX4_has 3 (some .boolean), Cond.methodLink RX9 233 yX3_sees, Cond.instanceMethod yX3_sees, Cond.selects RX3 yX3_sees yX3_sees, Cond.initialized RX3, Cond.code yX3_sees cX3_sees 2 (some .boolean), Cond.fieldLink RX3 13 "Craterclock$Crater" "depth" "I", Cond.fieldLink RX3 7 "Craterclock$Eye" "skill" "I", Cond.methodLink RX9 239 yX4_cells, Cond.instanceMethod yX4_cells, Cond.selects RX4 yX4_cells yX4_cells, Cond.code yX4_cells cX4_cells 1 (some .int), Cond.methodLink RX9 241 yX2_dividedDown, Cond.static yX2_dividedDown, Cond.initialized RX2, Cond.code yX2_dividedDown cX2_dividedDown 4 (some .long), Cond.methodLink RX9 164 yX2_lackFor, Cond.instanceMethod yX2_lackFor, Cond.selects RX2 yX2_lackFor yX2_lackFor, Cond.code yX2_lackFor cX2_lackFor 4 (some .int), Cond.fieldLink RX2 12 "Craterclock$Curve" "anchors" "Ljava/util/ArrayList;", Cond.classLink RX2 26 "Craterclock$Anchor", Cond.fieldLink RX2 32 "Craterclock$Anchor" "density" "J"]
def wsX9_age_r5 : List Cond := [Cond.methodLink RX2 18 yJx4a65c_size_8abf5, Cond.methodLink RX2 22 yJx4a65c_get_915e3, Cond.methodLink RX9 170 yX2_yearsOf, Cond.instanceMethod yX2_yearsOf, Cond.selects RX2 yX2_yearsOf yX2_yearsOf, Cond.code yX2_yearsOf cX2_yearsOf 11 (some .long), Cond.fieldLink RX2 28 "Craterclock$Anchor" "years" "J", Cond.methodLink RX2 42 yX2_dividedDown]
def wsX9_age : List Cond := .code yX9_age cX9_age 8 (some .long) :: ((wsX9_age_r1 ++ (wsX9_age_r2 ++ (wsX9_age_r3 ++ (wsX9_age_r4 ++ wsX9_age_r5)))) ++ wsX40 ++ wsX90 ++ wsJx4a65c0 ++ wsX10 ++ wsX30 ++ wsX20 ++ wsX00 ++ (vx_atS RX9 125 "java/lang/IllegalStateException" ["java/lang/RuntimeException", "java/lang/Exception"]).filter goodWord ++ (vx_atS RX9 249 "java/lang/IndexOutOfBoundsException" ["java/lang/RuntimeException", "java/lang/Exception"]).filter goodWord ++ (vx_atS RX9 258 "java/lang/IllegalArgumentException" ["java/lang/RuntimeException", "java/lang/Exception"]).filter goodWord)
def wsX9_whyNot_r1 : List Cond := [Cond.fieldLink RX9 34 "Craterclock" "curve" "LCraterclock$Curve;", Cond.classLink RX9 99 RX4, Cond.instantiable RX4 4, Cond.initialized RX4, Cond.methodLink RX9 150 yX9_requireEyeAndCells, Cond.instanceMethod yX9_requireEyeAndCells, Cond.selects RX9 yX9_requireEyeAndCells yX9_requireEyeAndCells, Cond.initialized RX9, Cond.code yX9_requireEyeAndCells cX9_requireEyeAndCells 6 none, Cond.classLink RX9 245 "java/lang/IndexOutOfBoundsException", Cond.initialized "java/lang/IndexOutOfBoundsException", Cond.fieldLink RX9 28 "Craterclock" "eyes" "Ljava/util/ArrayList;", Cond.methodLink RX9 96 yJx4a65c_size_8abf5, Cond.instanceMethod yJx4a65c_size_8abf5, Cond.selects RJx4a65c yJx4a65c_size_8abf5 yJx4a65c_size_8abf5, Cond.initialized RJx4a65c, Cond.code yJx4a65c_size_8abf5 cJx4a65c_size_8abf5 1 (some .int), Cond.fieldLink RJx4a65c 48 "java/util/ArrayList" "size" "I", Cond.methodLink RX9 42 yX9_requireCell, Cond.static yX9_requireCell, Cond.code yX9_requireCell cX9_requireCell 2 none, Cond.methodLink RX9 87 yX9_requireOrder, Cond.static yX9_requireOrder, Cond.code yX9_requireOrder cX9_requireOrder 4 none]
def wsX9_whyNot_r2 : List Cond := [Cond.classLink RX9 254 "java/lang/IllegalArgumentException", Cond.initialized "java/lang/IllegalArgumentException", Cond.methodLink RX9 101 yX4_init, Cond.instanceMethod yX4_init, Cond.code yX4_init cX4_init 5 none, Cond.methodLink RX4 1 objectInit, Cond.instanceMethod objectInit, Cond.code objectInit ⟨#[0xb1]⟩ 1 none, Cond.fieldLink RX4 7 "Craterclock$Field" "x" "I", Cond.fieldLink RX4 13 "Craterclock$Field" "y" "I", Cond.fieldLink RX4 16 "Craterclock$Field" "toX" "I", Cond.fieldLink RX4 19 "Craterclock$Field" "toY" "I", Cond.methodLink RX9 160 yX9_densitySeen, Cond.instanceMethod yX9_densitySeen, Cond.selects RX9 yX9_densitySeen yX9_densitySeen, Cond.code yX9_densitySeen cX9_densitySeen 3 (some .long), Cond.constantLong RX9 237 (256000), Cond.methodLink RX9 156 yX9_countSeen, Cond.instanceMethod yX9_countSeen, Cond.selects RX9 yX9_countSeen yX9_countSeen, Cond.code yX9_countSeen cX9_countSeen 8 (some .int), Cond.classLink RX9 128 "Craterclock$Eye", Cond.fieldLink RX9 21 "Craterclock" "fallen" "Ljava/util/ArrayList;", Cond.classLink RX9 183 "Craterclock$Crater"]
def wsX9_whyNot_r3 : List Cond := [Cond.fieldLink RX9 191 "Craterclock$Crater" "radius" "I", Cond.fieldLink RX9 185 "Craterclock$Crater" "x" "I", Cond.fieldLink RX9 188 "Craterclock$Crater" "y" "I", Cond.methodLink RX9 179 yJx4a65c_get_915e3, Cond.instanceMethod yJx4a65c_get_915e3, Cond.selects RJx4a65c yJx4a65c_get_915e3 yJx4a65c_get_915e3, Cond.code yJx4a65c_get_915e3 cJx4a65c_get_915e3 2 (some (.object "java/lang/Object")), Cond.methodLink RJx4a65c 118 yJ15_checkIndex_7cf53, Cond.static yJ15_checkIndex_7cf53, Cond.initialized RJ15, Cond.code yJ15_checkIndex_7cf53 cJ15_checkIndex_7cf53 2 (some .int), Cond.methodLink RJ15 105 yJ3_checkIndex_8e157, Cond.static yJ3_checkIndex_8e157, Cond.initialized RJ3, Cond.code yJ3_checkIndex_8e157 cJ3_checkIndex_8e157 3 (some .int), Cond.methodLink RJx4a65c 123 yJx4a65c_elementData_915e3, Cond.instanceMethod yJx4a65c_elementData_915e3, Cond.selects RJx4a65c yJx4a65c_elementData_915e3 yJx4a65c_elementData_915e3, Cond.code yJx4a65c_elementData_915e3 cJx4a65c_elementData_915e3 2 (some (.object "java/lang/Object")), Cond.fieldLink RJx4a65c 9 "java/util/ArrayList" "elementData" "[Ljava/lang/Object;", Cond.methodLink RX9 230 yX4_has, Cond.instanceMethod yX4_has, Cond.selects RX4 yX4_has yX4_has, Cond.code yX4_has cX4_has 3 (some .boolean)]
def wsX9_whyNot_r4 : List Cond := [Cond.methodLink RX9 233 yX3_sees, Cond.instanceMethod yX3_sees, Cond.selects RX3 yX3_sees yX3_sees, Cond.initialized RX3, Cond.code yX3_sees cX3_sees 2 (some .boolean), Cond.fieldLink RX3 13 "Craterclock$Crater" "depth" "I", Cond.fieldLink RX3 7 "Craterclock$Eye" "skill" "I", Cond.methodLink RX9 239 yX4_cells, Cond.instanceMethod yX4_cells, Cond.selects RX4 yX4_cells yX4_cells, Cond.code yX4_cells cX4_cells 1 (some .int), Cond.methodLink RX9 241 yX2_dividedDown, Cond.static yX2_dividedDown, Cond.initialized RX2, Cond.code yX2_dividedDown cX2_dividedDown 4 (some .long), Cond.methodLink RX9 164 yX2_lackFor, Cond.instanceMethod yX2_lackFor, Cond.selects RX2 yX2_lackFor yX2_lackFor, Cond.code yX2_lackFor cX2_lackFor 4 (some .int), Cond.fieldLink RX2 12 "Craterclock$Curve" "anchors" "Ljava/util/ArrayList;", Cond.classLink RX2 26 "Craterclock$Anchor", Cond.fieldLink RX2 32 "Craterclock$Anchor" "density" "J", Cond.methodLink RX2 18 yJx4a65c_size_8abf5, Cond.methodLink RX2 22 yJx4a65c_get_915e3]
def wsX9_whyNot : List Cond := .code yX9_whyNot cX9_whyNot 6 (some .int) :: ((wsX9_whyNot_r1 ++ (wsX9_whyNot_r2 ++ (wsX9_whyNot_r3 ++ wsX9_whyNot_r4))) ++ wsX90 ++ wsX40 ++ wsJx4a65c0 ++ wsX10 ++ wsX30 ++ wsX20 ++ wsX00 ++ (vx_atS RX9 249 "java/lang/IndexOutOfBoundsException" ["java/lang/RuntimeException", "java/lang/Exception"]).filter goodWord ++ (vx_atS RX9 258 "java/lang/IllegalArgumentException" ["java/lang/RuntimeException", "java/lang/Exception"]).filter goodWord)
def wsX9_craters : List Cond := .code yX9_craters cX9_craters 1 (some .int) :: ([.fieldLink RX9 21 "Craterclock" "fallen" "Ljava/util/ArrayList;", .methodLink RX9 96 yJx4a65c_size_8abf5, .instanceMethod yJx4a65c_size_8abf5, .selects RJx4a65c yJx4a65c_size_8abf5 yJx4a65c_size_8abf5, .initialized RJx4a65c, .code yJx4a65c_size_8abf5 cJx4a65c_size_8abf5 1 (some .int), .fieldLink RJx4a65c 48 "java/util/ArrayList" "size" "I"] ++ wsX90 ++ wsJx4a65c0)
def wsX9_requireCrater : List Cond := .code yX9_requireCrater cX9_requireCrater 2 none :: ([.classLink RX9 245 "java/lang/IndexOutOfBoundsException", .initialized "java/lang/IndexOutOfBoundsException", .fieldLink RX9 21 "Craterclock" "fallen" "Ljava/util/ArrayList;", .methodLink RX9 96 yJx4a65c_size_8abf5, .instanceMethod yJx4a65c_size_8abf5, .selects RJx4a65c yJx4a65c_size_8abf5 yJx4a65c_size_8abf5, .initialized RJx4a65c, .code yJx4a65c_size_8abf5 cJx4a65c_size_8abf5 1 (some .int), .fieldLink RJx4a65c 48 "java/util/ArrayList" "size" "I"] ++ wsX90 ++ wsJx4a65c0 ++ (vx_atS RX9 249 "java/lang/IndexOutOfBoundsException" ["java/lang/RuntimeException", "java/lang/Exception"]).filter goodWord)
def wsX9_about_r1 : List Cond := [Cond.constantLong RX9 177 (3), Cond.fieldLink RX9 21 "Craterclock" "fallen" "Ljava/util/ArrayList;", Cond.classLink RX9 183 "Craterclock$Crater", Cond.fieldLink RX9 185 "Craterclock$Crater" "x" "I", Cond.fieldLink RX9 188 "Craterclock$Crater" "y" "I", Cond.fieldLink RX9 191 "Craterclock$Crater" "radius" "I", Cond.fieldLink RX9 194 "Craterclock$Crater" "depth" "I", Cond.methodLink RX9 174 yX9_requireCrater, Cond.instanceMethod yX9_requireCrater, Cond.selects RX9 yX9_requireCrater yX9_requireCrater, Cond.initialized RX9, Cond.code yX9_requireCrater cX9_requireCrater 2 none, Cond.classLink RX9 245 "java/lang/IndexOutOfBoundsException", Cond.initialized "java/lang/IndexOutOfBoundsException", Cond.methodLink RX9 96 yJx4a65c_size_8abf5, Cond.instanceMethod yJx4a65c_size_8abf5, Cond.selects RJx4a65c yJx4a65c_size_8abf5 yJx4a65c_size_8abf5, Cond.initialized RJx4a65c, Cond.code yJx4a65c_size_8abf5 cJx4a65c_size_8abf5 1 (some .int), Cond.fieldLink RJx4a65c 48 "java/util/ArrayList" "size" "I", Cond.methodLink RX9 48 yX9_requireRange, Cond.static yX9_requireRange, Cond.code yX9_requireRange cX9_requireRange 6 none, Cond.classLink RX9 254 "java/lang/IllegalArgumentException"]
def wsX9_about_r2 : List Cond := [Cond.initialized "java/lang/IllegalArgumentException", Cond.methodLink RX9 179 yJx4a65c_get_915e3, Cond.instanceMethod yJx4a65c_get_915e3, Cond.selects RJx4a65c yJx4a65c_get_915e3 yJx4a65c_get_915e3, Cond.code yJx4a65c_get_915e3 cJx4a65c_get_915e3 2 (some (.object "java/lang/Object")), Cond.methodLink RJx4a65c 118 yJ15_checkIndex_7cf53, Cond.static yJ15_checkIndex_7cf53, Cond.initialized RJ15, Cond.code yJ15_checkIndex_7cf53 cJ15_checkIndex_7cf53 2 (some .int), Cond.methodLink RJ15 105 yJ3_checkIndex_8e157, Cond.static yJ3_checkIndex_8e157, Cond.initialized RJ3, Cond.code yJ3_checkIndex_8e157 cJ3_checkIndex_8e157 3 (some .int), Cond.methodLink RJx4a65c 123 yJx4a65c_elementData_915e3, Cond.instanceMethod yJx4a65c_elementData_915e3, Cond.selects RJx4a65c yJx4a65c_elementData_915e3 yJx4a65c_elementData_915e3, Cond.code yJx4a65c_elementData_915e3 cJx4a65c_elementData_915e3 2 (some (.object "java/lang/Object")), Cond.fieldLink RJx4a65c 9 "java/util/ArrayList" "elementData" "[Ljava/lang/Object;"]
def wsX9_about : List Cond := .code yX9_about cX9_about 4 (some .int) :: ((wsX9_about_r1 ++ wsX9_about_r2) ++ wsX90 ++ wsX10 ++ wsJx4a65c0 ++ (vx_atS RX9 249 "java/lang/IndexOutOfBoundsException" ["java/lang/RuntimeException", "java/lang/Exception"]).filter goodWord ++ (vx_atS RX9 258 "java/lang/IllegalArgumentException" ["java/lang/RuntimeException", "java/lang/Exception"]).filter goodWord)
def wsX9_depthOnceMore_r1 : List Cond := [Cond.fieldLink RX9 21 "Craterclock" "fallen" "Ljava/util/ArrayList;", Cond.classLink RX9 183 "Craterclock$Crater", Cond.fieldLink RX9 219 "Craterclock$Crater" "firstDepth" "I", Cond.fieldLink RX9 25 "Craterclock" "lessenings" "Ljava/util/ArrayList;", Cond.classLink RX9 215 "Craterclock$Lessening", Cond.fieldLink RX9 222 "Craterclock$Lessening" "cratersThen" "I", Cond.methodLink RX9 225 Lib.Math.max.name, Cond.static Lib.Math.max.name, Cond.initialized "java/lang/Math", Cond.code Lib.Math.max.name Lib.Math.max.code 2 (some .int), Cond.methodLink RX9 96 yJx4a65c_size_8abf5, Cond.instanceMethod yJx4a65c_size_8abf5, Cond.selects RJx4a65c yJx4a65c_size_8abf5 yJx4a65c_size_8abf5, Cond.initialized RJx4a65c, Cond.code yJx4a65c_size_8abf5 cJx4a65c_size_8abf5 1 (some .int), Cond.fieldLink RJx4a65c 48 "java/util/ArrayList" "size" "I", Cond.methodLink RX9 179 yJx4a65c_get_915e3, Cond.instanceMethod yJx4a65c_get_915e3, Cond.selects RJx4a65c yJx4a65c_get_915e3 yJx4a65c_get_915e3, Cond.code yJx4a65c_get_915e3 cJx4a65c_get_915e3 2 (some (.object "java/lang/Object")), Cond.methodLink RJx4a65c 118 yJ15_checkIndex_7cf53, Cond.static yJ15_checkIndex_7cf53, Cond.initialized RJ15, Cond.code yJ15_checkIndex_7cf53 cJ15_checkIndex_7cf53 2 (some .int)]
def wsX9_depthOnceMore_r2 : List Cond := [Cond.methodLink RJ15 105 yJ3_checkIndex_8e157, Cond.static yJ3_checkIndex_8e157, Cond.initialized RJ3, Cond.code yJ3_checkIndex_8e157 cJ3_checkIndex_8e157 3 (some .int), Cond.methodLink RJx4a65c 123 yJx4a65c_elementData_915e3, Cond.instanceMethod yJx4a65c_elementData_915e3, Cond.selects RJx4a65c yJx4a65c_elementData_915e3 yJx4a65c_elementData_915e3, Cond.code yJx4a65c_elementData_915e3 cJx4a65c_elementData_915e3 2 (some (.object "java/lang/Object")), Cond.fieldLink RJx4a65c 9 "java/util/ArrayList" "elementData" "[Ljava/lang/Object;", Cond.methodLink RX9 205 yX1_lossBy, Cond.instanceMethod yX1_lossBy, Cond.selects RX1 yX1_lossBy yX1_lossBy, Cond.initialized RX1, Cond.code yX1_lossBy cX1_lossBy 2 (some .int), Cond.fieldLink RX1 25 "Craterclock$Crater" "radius" "I", Cond.fieldLink RX1 9 "Craterclock$Crater" "x" "I", Cond.fieldLink RX1 15 "Craterclock$Crater" "y" "I", Cond.fieldLink RX1 31 "Craterclock$Crater" "firstDepth" "I", Cond.fieldLink RX1 18 "Craterclock$Crater" "size" "I", Cond.methodLink RX1 42 yX1_isWithin, Cond.instanceMethod yX1_isWithin, Cond.selects RX1 yX1_isWithin yX1_isWithin, Cond.code yX1_isWithin cX1_isWithin 6 (some .boolean), Cond.methodLink RX9 214 ⟨"Craterclock$Lessening", "lossOf", "(LCraterclock$Crater;)I"⟩]
def wsX9_depthOnceMore_r3 : List Cond := [Cond.sameMethod "Craterclock$Lessening" "Craterclock$Lessening" "lossOf" "(LCraterclock$Crater;)I", Cond.selects RX5 ⟨"Craterclock$Lessening", "lossOf", "(LCraterclock$Crater;)I"⟩ yX5_lossOf, Cond.instanceMethod yX5_lossOf, Cond.initialized RX5, Cond.code yX5_lossOf cX5_lossOf 2 (some .int), Cond.fieldLink RX5 7 "Craterclock$Flood" "field" "LCraterclock$Field;", Cond.fieldLink RX5 17 "Craterclock$Crater" "x" "I", Cond.fieldLink RX5 22 "Craterclock$Crater" "y" "I", Cond.fieldLink RX5 13 "Craterclock$Flood" "thick" "I", Cond.methodLink RX5 25 yX4_has, Cond.instanceMethod yX4_has, Cond.selects RX4 yX4_has yX4_has, Cond.initialized RX4, Cond.code yX4_has cX4_has 3 (some .boolean), Cond.fieldLink RX4 7 "Craterclock$Field" "x" "I", Cond.fieldLink RX4 16 "Craterclock$Field" "toX" "I", Cond.fieldLink RX4 13 "Craterclock$Field" "y" "I", Cond.fieldLink RX4 19 "Craterclock$Field" "toY" "I", Cond.selects RX8 ⟨"Craterclock$Lessening", "lossOf", "(LCraterclock$Crater;)I"⟩ yX8_lossOf, Cond.instanceMethod yX8_lossOf, Cond.initialized RX8, Cond.code yX8_lossOf cX8_lossOf 2 (some .int), Cond.fieldLink RX8 9 "Craterclock$Softening" "cellsThen" "LCraterclock$Ground;", Cond.fieldLink RX8 19 "Craterclock$Crater" "x" "I"]
def wsX9_depthOnceMore_r4 : List Cond := [Cond.fieldLink RX8 24 "Craterclock$Crater" "y" "I", Cond.fieldLink RX8 15 "Craterclock$Softening" "steps" "I", Cond.methodLink RX8 27 yX6_kindAt, Cond.instanceMethod yX6_kindAt, Cond.selects RX6 yX6_kindAt yX6_kindAt, Cond.initialized RX6, Cond.code yX6_kindAt cX6_kindAt 3 (some .int), Cond.fieldLink RX6 9 "Craterclock$Ground" "rows" "[I"]
def wsX9_depthOnceMore : List Cond := .code yX9_depthOnceMore cX9_depthOnceMore 6 (some .int) :: ((wsX9_depthOnceMore_r1 ++ (wsX9_depthOnceMore_r2 ++ (wsX9_depthOnceMore_r3 ++ wsX9_depthOnceMore_r4))) ++ wsX90 ++ wsX10 ++ wsX50 ++ wsX80 ++ wsJx4a65c0 ++ wsX40 ++ wsX60)
def wsX9_depthAnew_r1 : List Cond := [Cond.methodLink RX9 174 yX9_requireCrater, Cond.instanceMethod yX9_requireCrater, Cond.selects RX9 yX9_requireCrater yX9_requireCrater, Cond.initialized RX9, Cond.code yX9_requireCrater cX9_requireCrater 2 none, Cond.classLink RX9 245 "java/lang/IndexOutOfBoundsException", Cond.initialized "java/lang/IndexOutOfBoundsException", Cond.fieldLink RX9 21 "Craterclock" "fallen" "Ljava/util/ArrayList;", Cond.methodLink RX9 96 yJx4a65c_size_8abf5, Cond.instanceMethod yJx4a65c_size_8abf5, Cond.selects RJx4a65c yJx4a65c_size_8abf5 yJx4a65c_size_8abf5, Cond.initialized RJx4a65c, Cond.code yJx4a65c_size_8abf5 cJx4a65c_size_8abf5 1 (some .int), Cond.fieldLink RJx4a65c 48 "java/util/ArrayList" "size" "I", Cond.methodLink RX9 197 yX9_depthOnceMore, Cond.instanceMethod yX9_depthOnceMore, Cond.selects RX9 yX9_depthOnceMore yX9_depthOnceMore, Cond.code yX9_depthOnceMore cX9_depthOnceMore 6 (some .int), Cond.classLink RX9 183 "Craterclock$Crater", Cond.fieldLink RX9 219 "Craterclock$Crater" "firstDepth" "I", Cond.fieldLink RX9 25 "Craterclock" "lessenings" "Ljava/util/ArrayList;", Cond.classLink RX9 215 "Craterclock$Lessening", Cond.fieldLink RX9 222 "Craterclock$Lessening" "cratersThen" "I", Cond.methodLink RX9 225 Lib.Math.max.name]
def wsX9_depthAnew_r2 : List Cond := [Cond.static Lib.Math.max.name, Cond.initialized "java/lang/Math", Cond.code Lib.Math.max.name Lib.Math.max.code 2 (some .int), Cond.methodLink RX9 179 yJx4a65c_get_915e3, Cond.instanceMethod yJx4a65c_get_915e3, Cond.selects RJx4a65c yJx4a65c_get_915e3 yJx4a65c_get_915e3, Cond.code yJx4a65c_get_915e3 cJx4a65c_get_915e3 2 (some (.object "java/lang/Object")), Cond.methodLink RJx4a65c 118 yJ15_checkIndex_7cf53, Cond.static yJ15_checkIndex_7cf53, Cond.initialized RJ15, Cond.code yJ15_checkIndex_7cf53 cJ15_checkIndex_7cf53 2 (some .int), Cond.methodLink RJ15 105 yJ3_checkIndex_8e157, Cond.static yJ3_checkIndex_8e157, Cond.initialized RJ3, Cond.code yJ3_checkIndex_8e157 cJ3_checkIndex_8e157 3 (some .int), Cond.methodLink RJx4a65c 123 yJx4a65c_elementData_915e3, Cond.instanceMethod yJx4a65c_elementData_915e3, Cond.selects RJx4a65c yJx4a65c_elementData_915e3 yJx4a65c_elementData_915e3, Cond.code yJx4a65c_elementData_915e3 cJx4a65c_elementData_915e3 2 (some (.object "java/lang/Object")), Cond.fieldLink RJx4a65c 9 "java/util/ArrayList" "elementData" "[Ljava/lang/Object;", Cond.methodLink RX9 205 yX1_lossBy, Cond.instanceMethod yX1_lossBy, Cond.selects RX1 yX1_lossBy yX1_lossBy, Cond.initialized RX1]
def wsX9_depthAnew_r3 : List Cond := [Cond.code yX1_lossBy cX1_lossBy 2 (some .int), Cond.fieldLink RX1 25 "Craterclock$Crater" "radius" "I", Cond.fieldLink RX1 9 "Craterclock$Crater" "x" "I", Cond.fieldLink RX1 15 "Craterclock$Crater" "y" "I", Cond.fieldLink RX1 31 "Craterclock$Crater" "firstDepth" "I", Cond.fieldLink RX1 18 "Craterclock$Crater" "size" "I", Cond.methodLink RX1 42 yX1_isWithin, Cond.instanceMethod yX1_isWithin, Cond.selects RX1 yX1_isWithin yX1_isWithin, Cond.code yX1_isWithin cX1_isWithin 6 (some .boolean), Cond.methodLink RX9 214 ⟨"Craterclock$Lessening", "lossOf", "(LCraterclock$Crater;)I"⟩, Cond.sameMethod "Craterclock$Lessening" "Craterclock$Lessening" "lossOf" "(LCraterclock$Crater;)I", Cond.selects RX5 ⟨"Craterclock$Lessening", "lossOf", "(LCraterclock$Crater;)I"⟩ yX5_lossOf, Cond.instanceMethod yX5_lossOf, Cond.initialized RX5, Cond.code yX5_lossOf cX5_lossOf 2 (some .int), Cond.fieldLink RX5 7 "Craterclock$Flood" "field" "LCraterclock$Field;", Cond.fieldLink RX5 17 "Craterclock$Crater" "x" "I", Cond.fieldLink RX5 22 "Craterclock$Crater" "y" "I", Cond.fieldLink RX5 13 "Craterclock$Flood" "thick" "I", Cond.methodLink RX5 25 yX4_has, Cond.instanceMethod yX4_has, Cond.selects RX4 yX4_has yX4_has, Cond.initialized RX4]
def wsX9_depthAnew_r4 : List Cond := [Cond.code yX4_has cX4_has 3 (some .boolean), Cond.fieldLink RX4 7 "Craterclock$Field" "x" "I", Cond.fieldLink RX4 16 "Craterclock$Field" "toX" "I", Cond.fieldLink RX4 13 "Craterclock$Field" "y" "I", Cond.fieldLink RX4 19 "Craterclock$Field" "toY" "I", Cond.selects RX8 ⟨"Craterclock$Lessening", "lossOf", "(LCraterclock$Crater;)I"⟩ yX8_lossOf, Cond.instanceMethod yX8_lossOf, Cond.initialized RX8, Cond.code yX8_lossOf cX8_lossOf 2 (some .int), Cond.fieldLink RX8 9 "Craterclock$Softening" "cellsThen" "LCraterclock$Ground;", Cond.fieldLink RX8 19 "Craterclock$Crater" "x" "I", Cond.fieldLink RX8 24 "Craterclock$Crater" "y" "I", Cond.fieldLink RX8 15 "Craterclock$Softening" "steps" "I", Cond.methodLink RX8 27 yX6_kindAt, Cond.instanceMethod yX6_kindAt, Cond.selects RX6 yX6_kindAt yX6_kindAt, Cond.initialized RX6, Cond.code yX6_kindAt cX6_kindAt 3 (some .int), Cond.fieldLink RX6 9 "Craterclock$Ground" "rows" "[I"]
def wsX9_depthAnew : List Cond := .code yX9_depthAnew cX9_depthAnew 2 (some .int) :: ((wsX9_depthAnew_r1 ++ (wsX9_depthAnew_r2 ++ (wsX9_depthAnew_r3 ++ wsX9_depthAnew_r4))) ++ wsX90 ++ wsJx4a65c0 ++ wsX10 ++ wsX50 ++ wsX80 ++ wsX40 ++ wsX60 ++ (vx_atS RX9 249 "java/lang/IndexOutOfBoundsException" ["java/lang/RuntimeException", "java/lang/Exception"]).filter goodWord)
def wsX9_top_r1 : List Cond := [Cond.fieldLink RX9 21 "Craterclock" "fallen" "Ljava/util/ArrayList;", Cond.classLink RX9 183 "Craterclock$Crater", Cond.fieldLink RX9 194 "Craterclock$Crater" "depth" "I", Cond.methodLink RX9 42 yX9_requireCell, Cond.static yX9_requireCell, Cond.initialized RX9, Cond.code yX9_requireCell cX9_requireCell 2 none, Cond.classLink RX9 245 "java/lang/IndexOutOfBoundsException", Cond.initialized "java/lang/IndexOutOfBoundsException", Cond.methodLink RX9 96 yJx4a65c_size_8abf5, Cond.instanceMethod yJx4a65c_size_8abf5, Cond.selects RJx4a65c yJx4a65c_size_8abf5 yJx4a65c_size_8abf5, Cond.initialized RJx4a65c, Cond.code yJx4a65c_size_8abf5 cJx4a65c_size_8abf5 1 (some .int), Cond.fieldLink RJx4a65c 48 "java/util/ArrayList" "size" "I", Cond.methodLink RX9 179 yJx4a65c_get_915e3, Cond.instanceMethod yJx4a65c_get_915e3, Cond.selects RJx4a65c yJx4a65c_get_915e3 yJx4a65c_get_915e3, Cond.code yJx4a65c_get_915e3 cJx4a65c_get_915e3 2 (some (.object "java/lang/Object")), Cond.methodLink RJx4a65c 118 yJ15_checkIndex_7cf53, Cond.static yJ15_checkIndex_7cf53, Cond.initialized RJ15, Cond.code yJ15_checkIndex_7cf53 cJ15_checkIndex_7cf53 2 (some .int), Cond.methodLink RJ15 105 yJ3_checkIndex_8e157]
def wsX9_top_r2 : List Cond := [Cond.static yJ3_checkIndex_8e157, Cond.initialized RJ3, Cond.code yJ3_checkIndex_8e157 cJ3_checkIndex_8e157 3 (some .int), Cond.methodLink RJx4a65c 123 yJx4a65c_elementData_915e3, Cond.instanceMethod yJx4a65c_elementData_915e3, Cond.selects RJx4a65c yJx4a65c_elementData_915e3 yJx4a65c_elementData_915e3, Cond.code yJx4a65c_elementData_915e3 cJx4a65c_elementData_915e3 2 (some (.object "java/lang/Object")), Cond.fieldLink RJx4a65c 9 "java/util/ArrayList" "elementData" "[Ljava/lang/Object;", Cond.methodLink RX9 200 yX1_covers, Cond.instanceMethod yX1_covers, Cond.selects RX1 yX1_covers yX1_covers, Cond.initialized RX1, Cond.code yX1_covers cX1_covers 3 (some .boolean), Cond.fieldLink RX1 25 "Craterclock$Crater" "radius" "I", Cond.methodLink RX1 42 yX1_isWithin, Cond.instanceMethod yX1_isWithin, Cond.selects RX1 yX1_isWithin yX1_isWithin, Cond.code yX1_isWithin cX1_isWithin 6 (some .boolean), Cond.fieldLink RX1 9 "Craterclock$Crater" "x" "I", Cond.fieldLink RX1 15 "Craterclock$Crater" "y" "I"]
def wsX9_top : List Cond := .code yX9_top cX9_top 5 (some .int) :: ((wsX9_top_r1 ++ wsX9_top_r2) ++ wsX90 ++ wsX10 ++ wsJx4a65c0 ++ (vx_atS RX9 249 "java/lang/IndexOutOfBoundsException" ["java/lang/RuntimeException", "java/lang/Exception"]).filter goodWord)
def wsX9_topAnew_r1 : List Cond := [Cond.fieldLink RX9 21 "Craterclock" "fallen" "Ljava/util/ArrayList;", Cond.classLink RX9 183 "Craterclock$Crater", Cond.methodLink RX9 42 yX9_requireCell, Cond.static yX9_requireCell, Cond.initialized RX9, Cond.code yX9_requireCell cX9_requireCell 2 none, Cond.classLink RX9 245 "java/lang/IndexOutOfBoundsException", Cond.initialized "java/lang/IndexOutOfBoundsException", Cond.methodLink RX9 96 yJx4a65c_size_8abf5, Cond.instanceMethod yJx4a65c_size_8abf5, Cond.selects RJx4a65c yJx4a65c_size_8abf5 yJx4a65c_size_8abf5, Cond.initialized RJx4a65c, Cond.code yJx4a65c_size_8abf5 cJx4a65c_size_8abf5 1 (some .int), Cond.fieldLink RJx4a65c 48 "java/util/ArrayList" "size" "I", Cond.methodLink RX9 179 yJx4a65c_get_915e3, Cond.instanceMethod yJx4a65c_get_915e3, Cond.selects RJx4a65c yJx4a65c_get_915e3 yJx4a65c_get_915e3, Cond.code yJx4a65c_get_915e3 cJx4a65c_get_915e3 2 (some (.object "java/lang/Object")), Cond.methodLink RJx4a65c 118 yJ15_checkIndex_7cf53, Cond.static yJ15_checkIndex_7cf53, Cond.initialized RJ15, Cond.code yJ15_checkIndex_7cf53 cJ15_checkIndex_7cf53 2 (some .int), Cond.methodLink RJ15 105 yJ3_checkIndex_8e157, Cond.static yJ3_checkIndex_8e157]
def wsX9_topAnew_r2 : List Cond := [Cond.initialized RJ3, Cond.code yJ3_checkIndex_8e157 cJ3_checkIndex_8e157 3 (some .int), Cond.methodLink RJx4a65c 123 yJx4a65c_elementData_915e3, Cond.instanceMethod yJx4a65c_elementData_915e3, Cond.selects RJx4a65c yJx4a65c_elementData_915e3 yJx4a65c_elementData_915e3, Cond.code yJx4a65c_elementData_915e3 cJx4a65c_elementData_915e3 2 (some (.object "java/lang/Object")), Cond.fieldLink RJx4a65c 9 "java/util/ArrayList" "elementData" "[Ljava/lang/Object;", Cond.methodLink RX9 200 yX1_covers, Cond.instanceMethod yX1_covers, Cond.selects RX1 yX1_covers yX1_covers, Cond.initialized RX1, Cond.code yX1_covers cX1_covers 3 (some .boolean), Cond.fieldLink RX1 25 "Craterclock$Crater" "radius" "I", Cond.methodLink RX1 42 yX1_isWithin, Cond.instanceMethod yX1_isWithin, Cond.selects RX1 yX1_isWithin yX1_isWithin, Cond.code yX1_isWithin cX1_isWithin 6 (some .boolean), Cond.fieldLink RX1 9 "Craterclock$Crater" "x" "I", Cond.fieldLink RX1 15 "Craterclock$Crater" "y" "I", Cond.methodLink RX9 197 yX9_depthOnceMore, Cond.instanceMethod yX9_depthOnceMore, Cond.selects RX9 yX9_depthOnceMore yX9_depthOnceMore, Cond.code yX9_depthOnceMore cX9_depthOnceMore 6 (some .int), Cond.fieldLink RX9 219 "Craterclock$Crater" "firstDepth" "I"]
def wsX9_topAnew_r3 : List Cond := [Cond.fieldLink RX9 25 "Craterclock" "lessenings" "Ljava/util/ArrayList;", Cond.classLink RX9 215 "Craterclock$Lessening", Cond.fieldLink RX9 222 "Craterclock$Lessening" "cratersThen" "I", Cond.methodLink RX9 225 Lib.Math.max.name, Cond.static Lib.Math.max.name, Cond.initialized "java/lang/Math", Cond.code Lib.Math.max.name Lib.Math.max.code 2 (some .int), Cond.methodLink RX9 205 yX1_lossBy, Cond.instanceMethod yX1_lossBy, Cond.selects RX1 yX1_lossBy yX1_lossBy, Cond.code yX1_lossBy cX1_lossBy 2 (some .int), Cond.fieldLink RX1 31 "Craterclock$Crater" "firstDepth" "I", Cond.fieldLink RX1 18 "Craterclock$Crater" "size" "I", Cond.methodLink RX9 214 ⟨"Craterclock$Lessening", "lossOf", "(LCraterclock$Crater;)I"⟩, Cond.sameMethod "Craterclock$Lessening" "Craterclock$Lessening" "lossOf" "(LCraterclock$Crater;)I", Cond.selects RX5 ⟨"Craterclock$Lessening", "lossOf", "(LCraterclock$Crater;)I"⟩ yX5_lossOf, Cond.instanceMethod yX5_lossOf, Cond.initialized RX5, Cond.code yX5_lossOf cX5_lossOf 2 (some .int), Cond.fieldLink RX5 7 "Craterclock$Flood" "field" "LCraterclock$Field;", Cond.fieldLink RX5 17 "Craterclock$Crater" "x" "I", Cond.fieldLink RX5 22 "Craterclock$Crater" "y" "I", Cond.fieldLink RX5 13 "Craterclock$Flood" "thick" "I", Cond.methodLink RX5 25 yX4_has]
def wsX9_topAnew_r4 : List Cond := [Cond.instanceMethod yX4_has, Cond.selects RX4 yX4_has yX4_has, Cond.initialized RX4, Cond.code yX4_has cX4_has 3 (some .boolean), Cond.fieldLink RX4 7 "Craterclock$Field" "x" "I", Cond.fieldLink RX4 16 "Craterclock$Field" "toX" "I", Cond.fieldLink RX4 13 "Craterclock$Field" "y" "I", Cond.fieldLink RX4 19 "Craterclock$Field" "toY" "I", Cond.selects RX8 ⟨"Craterclock$Lessening", "lossOf", "(LCraterclock$Crater;)I"⟩ yX8_lossOf, Cond.instanceMethod yX8_lossOf, Cond.initialized RX8, Cond.code yX8_lossOf cX8_lossOf 2 (some .int), Cond.fieldLink RX8 9 "Craterclock$Softening" "cellsThen" "LCraterclock$Ground;", Cond.fieldLink RX8 19 "Craterclock$Crater" "x" "I", Cond.fieldLink RX8 24 "Craterclock$Crater" "y" "I", Cond.fieldLink RX8 15 "Craterclock$Softening" "steps" "I", Cond.methodLink RX8 27 yX6_kindAt, Cond.instanceMethod yX6_kindAt, Cond.selects RX6 yX6_kindAt yX6_kindAt, Cond.initialized RX6, Cond.code yX6_kindAt cX6_kindAt 3 (some .int), Cond.fieldLink RX6 9 "Craterclock$Ground" "rows" "[I"]
def wsX9_topAnew : List Cond := .code yX9_topAnew cX9_topAnew 4 (some .int) :: ((wsX9_topAnew_r1 ++ (wsX9_topAnew_r2 ++ (wsX9_topAnew_r3 ++ wsX9_topAnew_r4))) ++ wsX90 ++ wsJx4a65c0 ++ wsX10 ++ wsX50 ++ wsX80 ++ wsX40 ++ wsX60 ++ (vx_atS RX9 249 "java/lang/IndexOutOfBoundsException" ["java/lang/RuntimeException", "java/lang/Exception"]).filter goodWord)
def wsX10_init : List Cond := .code yX10_init cX10_init 1 none :: ([.methodLink RX10 1 objectInit, .instanceMethod objectInit, .code objectInit ⟨#[0xb1]⟩ 1 none, .arrayClass .int, .fieldLink RX10 7 "CraterclockModel" "ground" "[I", .fieldLink RX10 13 "CraterclockModel" "atX" "[I", .fieldLink RX10 16 "CraterclockModel" "atY" "[I", .fieldLink RX10 19 "CraterclockModel" "radius" "[I", .fieldLink RX10 22 "CraterclockModel" "depth" "[I", .fieldLink RX10 25 "CraterclockModel" "drawn" "I", .fieldLink RX10 29 "CraterclockModel" "skill" "[I", .arrayClass .long, .fieldLink RX10 32 "CraterclockModel" "years" "[J", .fieldLink RX10 36 "CraterclockModel" "density" "[J"] ++ wsX100)
def wsX10_thrown : List Cond := .code yX10_thrown cX10_thrown 1 (some .int) :: ([.fieldLink RX10 39 "CraterclockModel" "thrown" "I"] ++ wsX100)
def wsX10_can : List Cond := .code yX10_can cX10_can 2 (some .boolean) :: ([.fieldLink RX10 39 "CraterclockModel" "thrown" "I"] ++ wsX100)
def wsX10_isIn : List Cond := .code yX10_isIn cX10_isIn 3 (some .boolean) :: ([])
def wsX10_isCell : List Cond := .code yX10_isCell cX10_isCell 2 (some .boolean) :: ([.methodLink RX10 42 yX10_isIn, .static yX10_isIn, .initialized RX10, .code yX10_isIn cX10_isIn 3 (some .boolean)])
def wsX10_areCells : List Cond := .code yX10_areCells cX10_areCells 4 (some .boolean) :: ([.methodLink RX10 46 yX10_isCell, .static yX10_isCell, .initialized RX10, .code yX10_isCell cX10_isCell 2 (some .boolean), .methodLink RX10 42 yX10_isIn, .static yX10_isIn, .code yX10_isIn cX10_isIn 3 (some .boolean)])
def wsX10_isEye : List Cond := .code yX10_isEye cX10_isEye 2 (some .boolean) :: ([.fieldLink RX10 50 "CraterclockModel" "eyes" "I", .methodLink RX10 42 yX10_isIn, .static yX10_isIn, .initialized RX10, .code yX10_isIn cX10_isIn 3 (some .boolean)] ++ wsX100)
def wsX10_isCrater : List Cond := .code yX10_isCrater cX10_isCrater 2 (some .boolean) :: ([.fieldLink RX10 53 "CraterclockModel" "craters" "I", .methodLink RX10 42 yX10_isIn, .static yX10_isIn, .initialized RX10, .code yX10_isIn cX10_isIn 3 (some .boolean)] ++ wsX100)
def wsX10_ground : List Cond := .code yX10_ground cX10_ground 5 (some .int) :: ([.fieldLink RX10 7 "CraterclockModel" "ground" "[I", .methodLink RX10 46 yX10_isCell, .static yX10_isCell, .initialized RX10, .code yX10_isCell cX10_isCell 2 (some .boolean), .methodLink RX10 42 yX10_isIn, .static yX10_isIn, .code yX10_isIn cX10_isIn 3 (some .boolean), .methodLink RX10 56 yX10_can, .instanceMethod yX10_can, .selects RX10 yX10_can yX10_can, .code yX10_can cX10_can 2 (some .boolean), .fieldLink RX10 39 "CraterclockModel" "thrown" "I"] ++ wsX100)
def wsX10_groundOf : List Cond := .code yX10_groundOf cX10_groundOf 2 (some .int) :: ([.fieldLink RX10 7 "CraterclockModel" "ground" "[I", .fieldLink RX10 16 "CraterclockModel" "atY" "[I", .fieldLink RX10 13 "CraterclockModel" "atX" "[I"] ++ wsX100)
def wsX10_square : List Cond := .code yX10_square cX10_square 4 (some .int) :: ([.fieldLink RX10 13 "CraterclockModel" "atX" "[I", .fieldLink RX10 16 "CraterclockModel" "atY" "[I"] ++ wsX100)
def wsX10_lessens : List Cond := .code yX10_lessens cX10_lessens 4 (some .boolean) :: ([.fieldLink RX10 22 "CraterclockModel" "depth" "[I"] ++ wsX100)
def wsX10_falls : List Cond := .code yX10_falls cX10_falls 11 (some .int) :: ([.fieldLink RX10 7 "CraterclockModel" "ground" "[I", .fieldLink RX10 53 "CraterclockModel" "craters" "I", .fieldLink RX10 19 "CraterclockModel" "radius" "[I", .fieldLink RX10 22 "CraterclockModel" "depth" "[I", .fieldLink RX10 13 "CraterclockModel" "atX" "[I", .fieldLink RX10 16 "CraterclockModel" "atY" "[I", .methodLink RX10 60 yX10_square, .instanceMethod yX10_square, .selects RX10 yX10_square yX10_square, .initialized RX10, .code yX10_square cX10_square 4 (some .int), .methodLink RX10 64 yX10_lessens, .instanceMethod yX10_lessens, .selects RX10 yX10_lessens yX10_lessens, .code yX10_lessens cX10_lessens 4 (some .boolean)] ++ wsX100)
def wsX10_stone_r1 : List Cond := [Cond.fieldLink RX10 53 "CraterclockModel" "craters" "I", Cond.methodLink RX10 46 yX10_isCell, Cond.static yX10_isCell, Cond.initialized RX10, Cond.code yX10_isCell cX10_isCell 2 (some .boolean), Cond.methodLink RX10 42 yX10_isIn, Cond.static yX10_isIn, Cond.code yX10_isIn cX10_isIn 3 (some .boolean), Cond.methodLink RX10 56 yX10_can, Cond.instanceMethod yX10_can, Cond.selects RX10 yX10_can yX10_can, Cond.code yX10_can cX10_can 2 (some .boolean), Cond.fieldLink RX10 39 "CraterclockModel" "thrown" "I", Cond.methodLink RX10 67 yX10_falls, Cond.instanceMethod yX10_falls, Cond.selects RX10 yX10_falls yX10_falls, Cond.code yX10_falls cX10_falls 11 (some .int), Cond.fieldLink RX10 7 "CraterclockModel" "ground" "[I", Cond.fieldLink RX10 19 "CraterclockModel" "radius" "[I", Cond.fieldLink RX10 22 "CraterclockModel" "depth" "[I", Cond.fieldLink RX10 13 "CraterclockModel" "atX" "[I", Cond.fieldLink RX10 16 "CraterclockModel" "atY" "[I", Cond.methodLink RX10 60 yX10_square, Cond.instanceMethod yX10_square]
def wsX10_stone_r2 : List Cond := [Cond.selects RX10 yX10_square yX10_square, Cond.code yX10_square cX10_square 4 (some .int), Cond.methodLink RX10 64 yX10_lessens, Cond.instanceMethod yX10_lessens, Cond.selects RX10 yX10_lessens yX10_lessens, Cond.code yX10_lessens cX10_lessens 4 (some .boolean)]
def wsX10_stone : List Cond := .code yX10_stone cX10_stone 6 (some .int) :: ((wsX10_stone_r1 ++ wsX10_stone_r2) ++ wsX100)
def wsX10_draw : List Cond := .code yX10_draw cX10_draw 3 (some .int) :: ([.constant RX10 70 (65536), .fieldLink RX10 25 "CraterclockModel" "drawn" "I", .methodLink RX10 42 yX10_isIn, .static yX10_isIn, .initialized RX10, .code yX10_isIn cX10_isIn 3 (some .boolean), .methodLink RX10 56 yX10_can, .instanceMethod yX10_can, .selects RX10 yX10_can yX10_can, .code yX10_can cX10_can 2 (some .boolean), .fieldLink RX10 39 "CraterclockModel" "thrown" "I"] ++ wsX100)
def wsX10_draws : List Cond := .code yX10_draws cX10_draws 2 (some .int) :: ([.fieldLink RX10 25 "CraterclockModel" "drawn" "I", .constant RX10 71 (65537)] ++ wsX100)
def wsX10_sizeBy : List Cond := .code yX10_sizeBy cX10_sizeBy 1 (some .int) :: ([])
def wsX10_left : List Cond := .code yX10_left cX10_left 3 (some .int) :: ([.fieldLink RX10 53 "CraterclockModel" "craters" "I", .fieldLink RX10 22 "CraterclockModel" "depth" "[I"] ++ wsX100)
def wsX10_rain_r1 : List Cond := [Cond.fieldLink RX10 53 "CraterclockModel" "craters" "I", Cond.methodLink RX10 42 yX10_isIn, Cond.static yX10_isIn, Cond.initialized RX10, Cond.code yX10_isIn cX10_isIn 3 (some .boolean), Cond.methodLink RX10 56 yX10_can, Cond.instanceMethod yX10_can, Cond.selects RX10 yX10_can yX10_can, Cond.code yX10_can cX10_can 2 (some .boolean), Cond.fieldLink RX10 39 "CraterclockModel" "thrown" "I", Cond.methodLink RX10 72 yX10_draws, Cond.instanceMethod yX10_draws, Cond.selects RX10 yX10_draws yX10_draws, Cond.code yX10_draws cX10_draws 2 (some .int), Cond.fieldLink RX10 25 "CraterclockModel" "drawn" "I", Cond.constant RX10 71 (65537), Cond.methodLink RX10 76 yX10_sizeBy, Cond.static yX10_sizeBy, Cond.code yX10_sizeBy cX10_sizeBy 1 (some .int), Cond.methodLink RX10 67 yX10_falls, Cond.instanceMethod yX10_falls, Cond.selects RX10 yX10_falls yX10_falls, Cond.code yX10_falls cX10_falls 11 (some .int), Cond.fieldLink RX10 7 "CraterclockModel" "ground" "[I"]
def wsX10_rain_r2 : List Cond := [Cond.fieldLink RX10 19 "CraterclockModel" "radius" "[I", Cond.fieldLink RX10 22 "CraterclockModel" "depth" "[I", Cond.fieldLink RX10 13 "CraterclockModel" "atX" "[I", Cond.fieldLink RX10 16 "CraterclockModel" "atY" "[I", Cond.methodLink RX10 60 yX10_square, Cond.instanceMethod yX10_square, Cond.selects RX10 yX10_square yX10_square, Cond.code yX10_square cX10_square 4 (some .int), Cond.methodLink RX10 64 yX10_lessens, Cond.instanceMethod yX10_lessens, Cond.selects RX10 yX10_lessens yX10_lessens, Cond.code yX10_lessens cX10_lessens 4 (some .boolean), Cond.methodLink RX10 79 yX10_left, Cond.instanceMethod yX10_left, Cond.selects RX10 yX10_left yX10_left, Cond.code yX10_left cX10_left 3 (some .int)]
def wsX10_rain : List Cond := .code yX10_rain cX10_rain 7 (some .int) :: ((wsX10_rain_r1 ++ wsX10_rain_r2) ++ wsX100)
def wsX10_isWithin : List Cond := .code yX10_isWithin cX10_isWithin 6 (some .boolean) :: ([.fieldLink RX10 13 "CraterclockModel" "atX" "[I", .fieldLink RX10 16 "CraterclockModel" "atY" "[I", .methodLink RX10 42 yX10_isIn, .static yX10_isIn, .initialized RX10, .code yX10_isIn cX10_isIn 3 (some .boolean)] ++ wsX100)
def wsX10_flood_r1 : List Cond := [Cond.fieldLink RX10 87 "CraterclockModel" "told" "I", Cond.fieldLink RX10 53 "CraterclockModel" "craters" "I", Cond.methodLink RX10 83 yX10_areCells, Cond.static yX10_areCells, Cond.initialized RX10, Cond.code yX10_areCells cX10_areCells 4 (some .boolean), Cond.methodLink RX10 46 yX10_isCell, Cond.static yX10_isCell, Cond.code yX10_isCell cX10_isCell 2 (some .boolean), Cond.methodLink RX10 42 yX10_isIn, Cond.static yX10_isIn, Cond.code yX10_isIn cX10_isIn 3 (some .boolean), Cond.methodLink RX10 56 yX10_can, Cond.instanceMethod yX10_can, Cond.selects RX10 yX10_can yX10_can, Cond.code yX10_can cX10_can 2 (some .boolean), Cond.fieldLink RX10 39 "CraterclockModel" "thrown" "I", Cond.methodLink RX10 90 yX10_isWithin, Cond.instanceMethod yX10_isWithin, Cond.selects RX10 yX10_isWithin yX10_isWithin, Cond.code yX10_isWithin cX10_isWithin 6 (some .boolean), Cond.fieldLink RX10 13 "CraterclockModel" "atX" "[I", Cond.fieldLink RX10 16 "CraterclockModel" "atY" "[I", Cond.methodLink RX10 64 yX10_lessens]
def wsX10_flood_r2 : List Cond := [Cond.instanceMethod yX10_lessens, Cond.selects RX10 yX10_lessens yX10_lessens, Cond.code yX10_lessens cX10_lessens 4 (some .boolean), Cond.fieldLink RX10 22 "CraterclockModel" "depth" "[I"]
def wsX10_flood : List Cond := .code yX10_flood cX10_flood 10 (some .int) :: ((wsX10_flood_r1 ++ wsX10_flood_r2) ++ wsX100)
def wsX10_soften : List Cond := .code yX10_soften cX10_soften 5 (some .int) :: ([.fieldLink RX10 87 "CraterclockModel" "told" "I", .fieldLink RX10 53 "CraterclockModel" "craters" "I", .methodLink RX10 42 yX10_isIn, .static yX10_isIn, .initialized RX10, .code yX10_isIn cX10_isIn 3 (some .boolean), .methodLink RX10 56 yX10_can, .instanceMethod yX10_can, .selects RX10 yX10_can yX10_can, .code yX10_can cX10_can 2 (some .boolean), .fieldLink RX10 39 "CraterclockModel" "thrown" "I", .methodLink RX10 94 yX10_groundOf, .instanceMethod yX10_groundOf, .selects RX10 yX10_groundOf yX10_groundOf, .code yX10_groundOf cX10_groundOf 2 (some .int), .fieldLink RX10 7 "CraterclockModel" "ground" "[I", .fieldLink RX10 16 "CraterclockModel" "atY" "[I", .fieldLink RX10 13 "CraterclockModel" "atX" "[I", .methodLink RX10 64 yX10_lessens, .instanceMethod yX10_lessens, .selects RX10 yX10_lessens yX10_lessens, .code yX10_lessens cX10_lessens 4 (some .boolean), .fieldLink RX10 22 "CraterclockModel" "depth" "[I"] ++ wsX100)
def wsX10_eye : List Cond := .code yX10_eye cX10_eye 2 (some .int) :: ([.fieldLink RX10 50 "CraterclockModel" "eyes" "I", .fieldLink RX10 29 "CraterclockModel" "skill" "[I", .methodLink RX10 42 yX10_isIn, .static yX10_isIn, .initialized RX10, .code yX10_isIn cX10_isIn 3 (some .boolean), .methodLink RX10 56 yX10_can, .instanceMethod yX10_can, .selects RX10 yX10_can yX10_can, .code yX10_can cX10_can 2 (some .boolean), .fieldLink RX10 39 "CraterclockModel" "thrown" "I"] ++ wsX100)
def wsX10_anchor : List Cond := .code yX10_anchor cX10_anchor 7 (some .int) :: ([.constantLong RX10 97 (5000000000), .constantLong RX10 99 (100000000), .fieldLink RX10 101 "CraterclockModel" "anchors" "I", .fieldLink RX10 32 "CraterclockModel" "years" "[J", .fieldLink RX10 36 "CraterclockModel" "density" "[J", .methodLink RX10 56 yX10_can, .instanceMethod yX10_can, .selects RX10 yX10_can yX10_can, .initialized RX10, .code yX10_can cX10_can 2 (some .boolean), .fieldLink RX10 39 "CraterclockModel" "thrown" "I"] ++ wsX100)
def wsX10_counts : List Cond := .code yX10_counts cX10_counts 10 (some .int) :: ([.fieldLink RX10 53 "CraterclockModel" "craters" "I", .fieldLink RX10 22 "CraterclockModel" "depth" "[I", .fieldLink RX10 29 "CraterclockModel" "skill" "[I", .fieldLink RX10 19 "CraterclockModel" "radius" "[I", .methodLink RX10 90 yX10_isWithin, .instanceMethod yX10_isWithin, .selects RX10 yX10_isWithin yX10_isWithin, .initialized RX10, .code yX10_isWithin cX10_isWithin 6 (some .boolean), .fieldLink RX10 13 "CraterclockModel" "atX" "[I", .fieldLink RX10 16 "CraterclockModel" "atY" "[I", .methodLink RX10 42 yX10_isIn, .static yX10_isIn, .code yX10_isIn cX10_isIn 3 (some .boolean)] ++ wsX100)
def wsX10_count_r1 : List Cond := [Cond.methodLink RX10 104 yX10_isEye, Cond.instanceMethod yX10_isEye, Cond.selects RX10 yX10_isEye yX10_isEye, Cond.initialized RX10, Cond.code yX10_isEye cX10_isEye 2 (some .boolean), Cond.fieldLink RX10 50 "CraterclockModel" "eyes" "I", Cond.methodLink RX10 42 yX10_isIn, Cond.static yX10_isIn, Cond.code yX10_isIn cX10_isIn 3 (some .boolean), Cond.methodLink RX10 83 yX10_areCells, Cond.static yX10_areCells, Cond.code yX10_areCells cX10_areCells 4 (some .boolean), Cond.methodLink RX10 46 yX10_isCell, Cond.static yX10_isCell, Cond.code yX10_isCell cX10_isCell 2 (some .boolean), Cond.methodLink RX10 56 yX10_can, Cond.instanceMethod yX10_can, Cond.selects RX10 yX10_can yX10_can, Cond.code yX10_can cX10_can 2 (some .boolean), Cond.fieldLink RX10 39 "CraterclockModel" "thrown" "I", Cond.methodLink RX10 107 yX10_counts, Cond.instanceMethod yX10_counts, Cond.selects RX10 yX10_counts yX10_counts, Cond.code yX10_counts cX10_counts 10 (some .int)]
def wsX10_count_r2 : List Cond := [Cond.fieldLink RX10 53 "CraterclockModel" "craters" "I", Cond.fieldLink RX10 22 "CraterclockModel" "depth" "[I", Cond.fieldLink RX10 29 "CraterclockModel" "skill" "[I", Cond.fieldLink RX10 19 "CraterclockModel" "radius" "[I", Cond.methodLink RX10 90 yX10_isWithin, Cond.instanceMethod yX10_isWithin, Cond.selects RX10 yX10_isWithin yX10_isWithin, Cond.code yX10_isWithin cX10_isWithin 6 (some .boolean), Cond.fieldLink RX10 13 "CraterclockModel" "atX" "[I", Cond.fieldLink RX10 16 "CraterclockModel" "atY" "[I"]
def wsX10_count : List Cond := .code yX10_count cX10_count 9 (some .int) :: ((wsX10_count_r1 ++ wsX10_count_r2) ++ wsX100)
def wsX10_densityOf : List Cond := .code yX10_densityOf cX10_densityOf 6 (some .long) :: ([.constantLong RX10 111 (256000), .methodLink RX10 107 yX10_counts, .instanceMethod yX10_counts, .selects RX10 yX10_counts yX10_counts, .initialized RX10, .code yX10_counts cX10_counts 10 (some .int), .fieldLink RX10 53 "CraterclockModel" "craters" "I", .fieldLink RX10 22 "CraterclockModel" "depth" "[I", .fieldLink RX10 29 "CraterclockModel" "skill" "[I", .fieldLink RX10 19 "CraterclockModel" "radius" "[I", .methodLink RX10 90 yX10_isWithin, .instanceMethod yX10_isWithin, .selects RX10 yX10_isWithin yX10_isWithin, .code yX10_isWithin cX10_isWithin 6 (some .boolean), .fieldLink RX10 13 "CraterclockModel" "atX" "[I", .fieldLink RX10 16 "CraterclockModel" "atY" "[I", .methodLink RX10 42 yX10_isIn, .static yX10_isIn, .code yX10_isIn cX10_isIn 3 (some .boolean)] ++ wsX100)
def wsX10_reason_r1 : List Cond := [Cond.fieldLink RX10 101 "CraterclockModel" "anchors" "I", Cond.fieldLink RX10 36 "CraterclockModel" "density" "[J", Cond.methodLink RX10 113 yX10_densityOf, Cond.instanceMethod yX10_densityOf, Cond.selects RX10 yX10_densityOf yX10_densityOf, Cond.initialized RX10, Cond.code yX10_densityOf cX10_densityOf 6 (some .long), Cond.constantLong RX10 111 (256000), Cond.methodLink RX10 107 yX10_counts, Cond.instanceMethod yX10_counts, Cond.selects RX10 yX10_counts yX10_counts, Cond.code yX10_counts cX10_counts 10 (some .int), Cond.fieldLink RX10 53 "CraterclockModel" "craters" "I", Cond.fieldLink RX10 22 "CraterclockModel" "depth" "[I", Cond.fieldLink RX10 29 "CraterclockModel" "skill" "[I", Cond.fieldLink RX10 19 "CraterclockModel" "radius" "[I", Cond.methodLink RX10 90 yX10_isWithin, Cond.instanceMethod yX10_isWithin, Cond.selects RX10 yX10_isWithin yX10_isWithin, Cond.code yX10_isWithin cX10_isWithin 6 (some .boolean), Cond.fieldLink RX10 13 "CraterclockModel" "atX" "[I", Cond.fieldLink RX10 16 "CraterclockModel" "atY" "[I", Cond.methodLink RX10 42 yX10_isIn, Cond.static yX10_isIn]
def wsX10_reason_r2 : List Cond := [Cond.code yX10_isIn cX10_isIn 3 (some .boolean)]
def wsX10_reason : List Cond := .code yX10_reason cX10_reason 6 (some .int) :: ((wsX10_reason_r1 ++ wsX10_reason_r2) ++ wsX100)
def wsX10_ageBy : List Cond := .code yX10_ageBy cX10_ageBy 4 (some .long) :: ([.fieldLink RX10 36 "CraterclockModel" "density" "[J", .fieldLink RX10 32 "CraterclockModel" "years" "[J"] ++ wsX100)
def wsX10_age_r1 : List Cond := [Cond.methodLink RX10 104 yX10_isEye, Cond.instanceMethod yX10_isEye, Cond.selects RX10 yX10_isEye yX10_isEye, Cond.initialized RX10, Cond.code yX10_isEye cX10_isEye 2 (some .boolean), Cond.fieldLink RX10 50 "CraterclockModel" "eyes" "I", Cond.methodLink RX10 42 yX10_isIn, Cond.static yX10_isIn, Cond.code yX10_isIn cX10_isIn 3 (some .boolean), Cond.methodLink RX10 83 yX10_areCells, Cond.static yX10_areCells, Cond.code yX10_areCells cX10_areCells 4 (some .boolean), Cond.methodLink RX10 46 yX10_isCell, Cond.static yX10_isCell, Cond.code yX10_isCell cX10_isCell 2 (some .boolean), Cond.methodLink RX10 117 yX10_reason, Cond.instanceMethod yX10_reason, Cond.selects RX10 yX10_reason yX10_reason, Cond.code yX10_reason cX10_reason 6 (some .int), Cond.fieldLink RX10 101 "CraterclockModel" "anchors" "I", Cond.fieldLink RX10 36 "CraterclockModel" "density" "[J", Cond.methodLink RX10 113 yX10_densityOf, Cond.instanceMethod yX10_densityOf, Cond.selects RX10 yX10_densityOf yX10_densityOf]
def wsX10_age_r2 : List Cond := [Cond.code yX10_densityOf cX10_densityOf 6 (some .long), Cond.constantLong RX10 111 (256000), Cond.methodLink RX10 107 yX10_counts, Cond.instanceMethod yX10_counts, Cond.selects RX10 yX10_counts yX10_counts, Cond.code yX10_counts cX10_counts 10 (some .int), Cond.fieldLink RX10 53 "CraterclockModel" "craters" "I", Cond.fieldLink RX10 22 "CraterclockModel" "depth" "[I", Cond.fieldLink RX10 29 "CraterclockModel" "skill" "[I", Cond.fieldLink RX10 19 "CraterclockModel" "radius" "[I", Cond.methodLink RX10 90 yX10_isWithin, Cond.instanceMethod yX10_isWithin, Cond.selects RX10 yX10_isWithin yX10_isWithin, Cond.code yX10_isWithin cX10_isWithin 6 (some .boolean), Cond.fieldLink RX10 13 "CraterclockModel" "atX" "[I", Cond.fieldLink RX10 16 "CraterclockModel" "atY" "[I", Cond.methodLink RX10 56 yX10_can, Cond.instanceMethod yX10_can, Cond.selects RX10 yX10_can yX10_can, Cond.code yX10_can cX10_can 2 (some .boolean), Cond.fieldLink RX10 39 "CraterclockModel" "thrown" "I", Cond.methodLink RX10 121 yX10_ageBy, Cond.instanceMethod yX10_ageBy, Cond.selects RX10 yX10_ageBy yX10_ageBy]
def wsX10_age_r3 : List Cond := [Cond.code yX10_ageBy cX10_ageBy 4 (some .long), Cond.fieldLink RX10 32 "CraterclockModel" "years" "[J"]
def wsX10_age : List Cond := .code yX10_age cX10_age 8 (some .long) :: ((wsX10_age_r1 ++ (wsX10_age_r2 ++ wsX10_age_r3)) ++ wsX100)
def wsX10_whyNot_r1 : List Cond := [Cond.methodLink RX10 104 yX10_isEye, Cond.instanceMethod yX10_isEye, Cond.selects RX10 yX10_isEye yX10_isEye, Cond.initialized RX10, Cond.code yX10_isEye cX10_isEye 2 (some .boolean), Cond.fieldLink RX10 50 "CraterclockModel" "eyes" "I", Cond.methodLink RX10 42 yX10_isIn, Cond.static yX10_isIn, Cond.code yX10_isIn cX10_isIn 3 (some .boolean), Cond.methodLink RX10 83 yX10_areCells, Cond.static yX10_areCells, Cond.code yX10_areCells cX10_areCells 4 (some .boolean), Cond.methodLink RX10 46 yX10_isCell, Cond.static yX10_isCell, Cond.code yX10_isCell cX10_isCell 2 (some .boolean), Cond.methodLink RX10 56 yX10_can, Cond.instanceMethod yX10_can, Cond.selects RX10 yX10_can yX10_can, Cond.code yX10_can cX10_can 2 (some .boolean), Cond.fieldLink RX10 39 "CraterclockModel" "thrown" "I", Cond.methodLink RX10 117 yX10_reason, Cond.instanceMethod yX10_reason, Cond.selects RX10 yX10_reason yX10_reason, Cond.code yX10_reason cX10_reason 6 (some .int)]
def wsX10_whyNot_r2 : List Cond := [Cond.fieldLink RX10 101 "CraterclockModel" "anchors" "I", Cond.fieldLink RX10 36 "CraterclockModel" "density" "[J", Cond.methodLink RX10 113 yX10_densityOf, Cond.instanceMethod yX10_densityOf, Cond.selects RX10 yX10_densityOf yX10_densityOf, Cond.code yX10_densityOf cX10_densityOf 6 (some .long), Cond.constantLong RX10 111 (256000), Cond.methodLink RX10 107 yX10_counts, Cond.instanceMethod yX10_counts, Cond.selects RX10 yX10_counts yX10_counts, Cond.code yX10_counts cX10_counts 10 (some .int), Cond.fieldLink RX10 53 "CraterclockModel" "craters" "I", Cond.fieldLink RX10 22 "CraterclockModel" "depth" "[I", Cond.fieldLink RX10 29 "CraterclockModel" "skill" "[I", Cond.fieldLink RX10 19 "CraterclockModel" "radius" "[I", Cond.methodLink RX10 90 yX10_isWithin, Cond.instanceMethod yX10_isWithin, Cond.selects RX10 yX10_isWithin yX10_isWithin, Cond.code yX10_isWithin cX10_isWithin 6 (some .boolean), Cond.fieldLink RX10 13 "CraterclockModel" "atX" "[I", Cond.fieldLink RX10 16 "CraterclockModel" "atY" "[I"]
def wsX10_whyNot : List Cond := .code yX10_whyNot cX10_whyNot 8 (some .int) :: ((wsX10_whyNot_r1 ++ wsX10_whyNot_r2) ++ wsX100)
def wsX10_craters : List Cond := .code yX10_craters cX10_craters 1 (some .int) :: ([.fieldLink RX10 39 "CraterclockModel" "thrown" "I", .fieldLink RX10 53 "CraterclockModel" "craters" "I"] ++ wsX100)
def wsX10_about : List Cond := .code yX10_about cX10_about 3 (some .int) :: ([.fieldLink RX10 13 "CraterclockModel" "atX" "[I", .fieldLink RX10 16 "CraterclockModel" "atY" "[I", .fieldLink RX10 19 "CraterclockModel" "radius" "[I", .fieldLink RX10 22 "CraterclockModel" "depth" "[I", .methodLink RX10 125 yX10_isCrater, .instanceMethod yX10_isCrater, .selects RX10 yX10_isCrater yX10_isCrater, .initialized RX10, .code yX10_isCrater cX10_isCrater 2 (some .boolean), .fieldLink RX10 53 "CraterclockModel" "craters" "I", .methodLink RX10 42 yX10_isIn, .static yX10_isIn, .code yX10_isIn cX10_isIn 3 (some .boolean), .methodLink RX10 56 yX10_can, .instanceMethod yX10_can, .selects RX10 yX10_can yX10_can, .code yX10_can cX10_can 2 (some .boolean), .fieldLink RX10 39 "CraterclockModel" "thrown" "I"] ++ wsX100)
def wsX10_depthAnew : List Cond := .code yX10_depthAnew cX10_depthAnew 2 (some .int) :: ([.fieldLink RX10 22 "CraterclockModel" "depth" "[I", .methodLink RX10 125 yX10_isCrater, .instanceMethod yX10_isCrater, .selects RX10 yX10_isCrater yX10_isCrater, .initialized RX10, .code yX10_isCrater cX10_isCrater 2 (some .boolean), .fieldLink RX10 53 "CraterclockModel" "craters" "I", .methodLink RX10 42 yX10_isIn, .static yX10_isIn, .code yX10_isIn cX10_isIn 3 (some .boolean), .methodLink RX10 56 yX10_can, .instanceMethod yX10_can, .selects RX10 yX10_can yX10_can, .code yX10_can cX10_can 2 (some .boolean), .fieldLink RX10 39 "CraterclockModel" "thrown" "I"] ++ wsX100)
def wsX10_topOf : List Cond := .code yX10_topOf cX10_topOf 5 (some .int) :: ([.fieldLink RX10 53 "CraterclockModel" "craters" "I", .fieldLink RX10 22 "CraterclockModel" "depth" "[I", .fieldLink RX10 19 "CraterclockModel" "radius" "[I", .methodLink RX10 60 yX10_square, .instanceMethod yX10_square, .selects RX10 yX10_square yX10_square, .initialized RX10, .code yX10_square cX10_square 4 (some .int), .fieldLink RX10 13 "CraterclockModel" "atX" "[I", .fieldLink RX10 16 "CraterclockModel" "atY" "[I"] ++ wsX100)
def wsX10_top_r1 : List Cond := [Cond.methodLink RX10 46 yX10_isCell, Cond.static yX10_isCell, Cond.initialized RX10, Cond.code yX10_isCell cX10_isCell 2 (some .boolean), Cond.methodLink RX10 42 yX10_isIn, Cond.static yX10_isIn, Cond.code yX10_isIn cX10_isIn 3 (some .boolean), Cond.methodLink RX10 56 yX10_can, Cond.instanceMethod yX10_can, Cond.selects RX10 yX10_can yX10_can, Cond.code yX10_can cX10_can 2 (some .boolean), Cond.fieldLink RX10 39 "CraterclockModel" "thrown" "I", Cond.methodLink RX10 128 yX10_topOf, Cond.instanceMethod yX10_topOf, Cond.selects RX10 yX10_topOf yX10_topOf, Cond.code yX10_topOf cX10_topOf 5 (some .int), Cond.fieldLink RX10 53 "CraterclockModel" "craters" "I", Cond.fieldLink RX10 22 "CraterclockModel" "depth" "[I", Cond.fieldLink RX10 19 "CraterclockModel" "radius" "[I", Cond.methodLink RX10 60 yX10_square, Cond.instanceMethod yX10_square, Cond.selects RX10 yX10_square yX10_square, Cond.code yX10_square cX10_square 4 (some .int), Cond.fieldLink RX10 13 "CraterclockModel" "atX" "[I"]
def wsX10_top_r2 : List Cond := [Cond.fieldLink RX10 16 "CraterclockModel" "atY" "[I"]
def wsX10_top : List Cond := .code yX10_top cX10_top 3 (some .int) :: ((wsX10_top_r1 ++ wsX10_top_r2) ++ wsX100)
def wsX10_topAnew_r1 : List Cond := [Cond.methodLink RX10 46 yX10_isCell, Cond.static yX10_isCell, Cond.initialized RX10, Cond.code yX10_isCell cX10_isCell 2 (some .boolean), Cond.methodLink RX10 42 yX10_isIn, Cond.static yX10_isIn, Cond.code yX10_isIn cX10_isIn 3 (some .boolean), Cond.methodLink RX10 56 yX10_can, Cond.instanceMethod yX10_can, Cond.selects RX10 yX10_can yX10_can, Cond.code yX10_can cX10_can 2 (some .boolean), Cond.fieldLink RX10 39 "CraterclockModel" "thrown" "I", Cond.methodLink RX10 128 yX10_topOf, Cond.instanceMethod yX10_topOf, Cond.selects RX10 yX10_topOf yX10_topOf, Cond.code yX10_topOf cX10_topOf 5 (some .int), Cond.fieldLink RX10 53 "CraterclockModel" "craters" "I", Cond.fieldLink RX10 22 "CraterclockModel" "depth" "[I", Cond.fieldLink RX10 19 "CraterclockModel" "radius" "[I", Cond.methodLink RX10 60 yX10_square, Cond.instanceMethod yX10_square, Cond.selects RX10 yX10_square yX10_square, Cond.code yX10_square cX10_square 4 (some .int), Cond.fieldLink RX10 13 "CraterclockModel" "atX" "[I"]
def wsX10_topAnew_r2 : List Cond := [Cond.fieldLink RX10 16 "CraterclockModel" "atY" "[I"]
def wsX10_topAnew : List Cond := .code yX10_topAnew cX10_topAnew 3 (some .int) :: ((wsX10_topAnew_r1 ++ wsX10_topAnew_r2) ++ wsX100)
def wsJ9_max_7cf53 : List Cond := .code yJ9_max_7cf53 cJ9_max_7cf53 2 (some .int) :: ([])
def wsJ9_min_7cf53 : List Cond := .code yJ9_min_7cf53 cJ9_min_7cf53 2 (some .int) :: ([])
def wsL_ground_r1 : List Cond := [Cond.classLink RL 13 "java/lang/IndexOutOfBoundsException", Cond.classLink RL 15 "java/lang/IllegalArgumentException", Cond.methodLink RL 7 yX9_ground, Cond.instanceMethod yX9_ground, Cond.selects RX9 yX9_ground yX9_ground, Cond.initialized RX9, Cond.code yX9_ground cX9_ground 5 (some .int), Cond.constantLong RX9 46 (2), Cond.fieldLink RX9 14 "Craterclock" "cells" "LCraterclock$Ground;", Cond.methodLink RX9 42 yX9_requireCell, Cond.static yX9_requireCell, Cond.code yX9_requireCell cX9_requireCell 2 none, Cond.classLink RX9 245 "java/lang/IndexOutOfBoundsException", Cond.initialized "java/lang/IndexOutOfBoundsException", Cond.methodLink RX9 48 yX9_requireRange, Cond.static yX9_requireRange, Cond.code yX9_requireRange cX9_requireRange 6 none, Cond.classLink RX9 254 "java/lang/IllegalArgumentException", Cond.initialized "java/lang/IllegalArgumentException", Cond.methodLink RX9 52 yX6_kindAt, Cond.instanceMethod yX6_kindAt, Cond.selects RX6 yX6_kindAt yX6_kindAt, Cond.initialized RX6, Cond.code yX6_kindAt cX6_kindAt 3 (some .int)]
def wsL_ground_r2 : List Cond := [Cond.fieldLink RX6 9 "Craterclock$Ground" "rows" "[I", Cond.methodLink RX9 56 yX6_setKind, Cond.instanceMethod yX6_setKind, Cond.selects RX6 yX6_setKind yX6_setKind, Cond.code yX6_setKind cX6_setKind 4 none]
def wsL_ground : List Cond := .codeWith yL_ground cL_ground 6 (some .int) [(0, 12, 15, 13), (0, 12, 19, 15)] :: ((wsL_ground_r1 ++ wsL_ground_r2) ++ wsX90 ++ wsX60 ++ (vx_atS RX9 249 "java/lang/IndexOutOfBoundsException" ["java/lang/RuntimeException", "java/lang/Exception"]).filter goodWord ++ (vx_atS RX9 258 "java/lang/IllegalArgumentException" ["java/lang/RuntimeException", "java/lang/Exception"]).filter goodWord)
def wsL_stone_r1 : List Cond := [Cond.classLink RL 13 "java/lang/IndexOutOfBoundsException", Cond.classLink RL 15 "java/lang/IllegalArgumentException", Cond.classLink RL 20 "java/lang/IllegalStateException", Cond.methodLink RL 17 yX9_stone, Cond.instanceMethod yX9_stone, Cond.selects RX9 yX9_stone yX9_stone, Cond.initialized RX9, Cond.code yX9_stone cX9_stone 4 (some .int), Cond.constantLong RX9 60 (6), Cond.methodLink RX9 42 yX9_requireCell, Cond.static yX9_requireCell, Cond.code yX9_requireCell cX9_requireCell 2 none, Cond.classLink RX9 245 "java/lang/IndexOutOfBoundsException", Cond.initialized "java/lang/IndexOutOfBoundsException", Cond.methodLink RX9 48 yX9_requireRange, Cond.static yX9_requireRange, Cond.code yX9_requireRange cX9_requireRange 6 none, Cond.classLink RX9 254 "java/lang/IllegalArgumentException", Cond.initialized "java/lang/IllegalArgumentException", Cond.methodLink RX9 62 yX9_requireRoomForCraters, Cond.instanceMethod yX9_requireRoomForCraters, Cond.selects RX9 yX9_requireRoomForCraters yX9_requireRoomForCraters, Cond.code yX9_requireRoomForCraters cX9_requireRoomForCraters 2 none, Cond.classLink RX9 121 "java/lang/IllegalStateException"]
def wsL_stone_r2 : List Cond := [Cond.initialized "java/lang/IllegalStateException", Cond.fieldLink RX9 21 "Craterclock" "fallen" "Ljava/util/ArrayList;", Cond.methodLink RX9 96 yJx4a65c_size_8abf5, Cond.instanceMethod yJx4a65c_size_8abf5, Cond.selects RJx4a65c yJx4a65c_size_8abf5 yJx4a65c_size_8abf5, Cond.initialized RJx4a65c, Cond.code yJx4a65c_size_8abf5 cJx4a65c_size_8abf5 1 (some .int), Cond.fieldLink RJx4a65c 48 "java/util/ArrayList" "size" "I", Cond.methodLink RX9 66 yX9_dropStone, Cond.instanceMethod yX9_dropStone, Cond.selects RX9 yX9_dropStone yX9_dropStone, Cond.code yX9_dropStone cX9_dropStone 8 (some .int), Cond.classLink RX9 183 RX1, Cond.instantiable RX1 6, Cond.initialized RX1, Cond.fieldLink RX9 14 "Craterclock" "cells" "LCraterclock$Ground;", Cond.classLink RX9 183 "Craterclock$Crater", Cond.methodLink RX9 52 yX6_kindAt, Cond.instanceMethod yX6_kindAt, Cond.selects RX6 yX6_kindAt yX6_kindAt, Cond.initialized RX6, Cond.code yX6_kindAt cX6_kindAt 3 (some .int), Cond.fieldLink RX6 9 "Craterclock$Ground" "rows" "[I", Cond.methodLink RX9 204 yX1_init]
def wsL_stone_r3 : List Cond := [Cond.instanceMethod yX1_init, Cond.code yX1_init cX1_init 5 none, Cond.methodLink RX1 3 objectInit, Cond.instanceMethod objectInit, Cond.code objectInit ⟨#[0xb1]⟩ 1 none, Cond.fieldLink RX1 9 "Craterclock$Crater" "x" "I", Cond.fieldLink RX1 15 "Craterclock$Crater" "y" "I", Cond.fieldLink RX1 18 "Craterclock$Crater" "size" "I", Cond.fieldLink RX1 25 "Craterclock$Crater" "radius" "I", Cond.fieldLink RX1 31 "Craterclock$Crater" "firstDepth" "I", Cond.fieldLink RX1 34 "Craterclock$Crater" "depth" "I", Cond.methodLink RX1 21 yX1_radiusOn, Cond.static yX1_radiusOn, Cond.code yX1_radiusOn cX1_radiusOn 2 (some .int), Cond.methodLink RX1 37 Lib.Math.max.name, Cond.static Lib.Math.max.name, Cond.initialized "java/lang/Math", Cond.code Lib.Math.max.name Lib.Math.max.code 2 (some .int), Cond.methodLink RX1 28 yX1_depthOn, Cond.static yX1_depthOn, Cond.code yX1_depthOn cX1_depthOn 2 (some .int), Cond.methodLink RX9 179 yJx4a65c_get_915e3, Cond.instanceMethod yJx4a65c_get_915e3, Cond.selects RJx4a65c yJx4a65c_get_915e3 yJx4a65c_get_915e3]
def wsL_stone_r4 : List Cond := [Cond.code yJx4a65c_get_915e3 cJx4a65c_get_915e3 2 (some (.object "java/lang/Object")), Cond.methodLink RJx4a65c 118 yJ15_checkIndex_7cf53, Cond.static yJ15_checkIndex_7cf53, Cond.initialized RJ15, Cond.code yJ15_checkIndex_7cf53 cJ15_checkIndex_7cf53 2 (some .int), Cond.methodLink RJ15 105 yJ3_checkIndex_8e157, Cond.static yJ3_checkIndex_8e157, Cond.initialized RJ3, Cond.code yJ3_checkIndex_8e157 cJ3_checkIndex_8e157 3 (some .int), Cond.methodLink RJx4a65c 123 yJx4a65c_elementData_915e3, Cond.instanceMethod yJx4a65c_elementData_915e3, Cond.selects RJx4a65c yJx4a65c_elementData_915e3 yJx4a65c_elementData_915e3, Cond.code yJx4a65c_elementData_915e3 cJx4a65c_elementData_915e3 2 (some (.object "java/lang/Object")), Cond.fieldLink RJx4a65c 9 "java/util/ArrayList" "elementData" "[Ljava/lang/Object;", Cond.methodLink RX9 205 yX1_lossBy, Cond.instanceMethod yX1_lossBy, Cond.selects RX1 yX1_lossBy yX1_lossBy, Cond.code yX1_lossBy cX1_lossBy 2 (some .int), Cond.methodLink RX1 42 yX1_isWithin, Cond.instanceMethod yX1_isWithin, Cond.selects RX1 yX1_isWithin yX1_isWithin, Cond.code yX1_isWithin cX1_isWithin 6 (some .boolean), Cond.methodLink RX9 209 yX1_lessen, Cond.instanceMethod yX1_lessen]
def wsL_stone_r5 : List Cond := [Cond.selects RX1 yX1_lessen yX1_lessen, Cond.code yX1_lessen cX1_lessen 2 (some .boolean), Cond.methodLink RX9 132 yJx4a65c_add_9ea2d, Cond.instanceMethod yJx4a65c_add_9ea2d, Cond.selects RJx4a65c yJx4a65c_add_9ea2d yJx4a65c_add_9ea2d, Cond.code yJx4a65c_add_9ea2d cJx4a65c_add_9ea2d 2 (some .boolean), Cond.fieldLink RJx4a65c 63 "java/util/ArrayList" "modCount" "I", Cond.sameField "java/util/ArrayList" "java/util/AbstractList" "modCount" "I", Cond.methodLink RJx4a65c 131 yJx4a65c_add_72be8, Cond.instanceMethod yJx4a65c_add_72be8, Cond.selects RJx4a65c yJx4a65c_add_72be8 yJx4a65c_add_72be8, Cond.code yJx4a65c_add_72be8 cJx4a65c_add_72be8 4 none, Cond.methodLink RJx4a65c 129 yJx4a65c_grow_d5877, Cond.instanceMethod yJx4a65c_grow_d5877, Cond.selects RJx4a65c yJx4a65c_grow_d5877 yJx4a65c_grow_d5877, Cond.code yJx4a65c_grow_d5877 cJx4a65c_grow_d5877 1 (some (.array (.object "java/lang/Object"))), Cond.methodLink RJx4a65c 69 yJx4a65c_grow_92f84, Cond.instanceMethod yJx4a65c_grow_92f84, Cond.selects RJx4a65c yJx4a65c_grow_92f84 yJx4a65c_grow_92f84, Cond.code yJx4a65c_grow_92f84 cJx4a65c_grow_92f84 4 (some (.array (.object "java/lang/Object"))), Cond.fieldLink RJx4a65c 39 "java/util/ArrayList" "DEFAULTCAPACITY_EMPTY_ELEMENTDATA" "[Ljava/lang/Object;", Cond.methodLink RJx4a65c 79 Lib.Math.max.name, Cond.classLink RJx4a65c 7 "java/lang/Object", Cond.methodLink RJx4a65c 73 yJ8_newLength_cabcc]
def wsL_stone_r6 : List Cond := [Cond.static yJ8_newLength_cabcc, Cond.initialized RJ8, Cond.code yJ8_newLength_cabcc cJ8_newLength_cabcc 4 (some .int), Cond.methodLink RJ8 194 Lib.Math.max.name, Cond.constant RJ8 200 (2147483639), Cond.methodLink RJ8 201 yJ8_hugeLength_7cf53, Cond.static yJ8_hugeLength_7cf53, Cond.code yJ8_hugeLength_7cf53 cJ8_hugeLength_7cf53 3 (some .int), Cond.methodLink RJx4a65c 66 yJ7_copyOf_1904c, Cond.static yJ7_copyOf_1904c, Cond.initialized RJ7, Cond.code yJ7_copyOf_1904c cJ7_copyOf_1904c 2 (some (.array (.object "java/lang/Object"))), Cond.methodLink RJ7 86 ⟨"java/lang/Object", "getClass", "()Ljava/lang/Class;"⟩, Cond.selects "[Ljava/lang/Object;" ⟨"java/lang/Object", "getClass", "()Ljava/lang/Class;"⟩ ⟨"java/lang/Object", "getClass", "()Ljava/lang/Class;"⟩, Cond.instanceMethod ⟨"java/lang/Object", "getClass", "()Ljava/lang/Class;"⟩, Cond.native ⟨"java/lang/Object", "getClass", "()Ljava/lang/Class;"⟩, Cond.methodLink RJ7 300 yJ7_copyOf_6403c, Cond.static yJ7_copyOf_6403c, Cond.code yJ7_copyOf_6403c cJ7_copyOf_6403c 4 (some (.array (.object "java/lang/Object"))), Cond.classLink RJ7 110 "[Ljava/lang/Object;", Cond.classLink RJ7 2 "java/lang/Object", Cond.methodLink RJ7 304 Lib.Math.min.name, Cond.static Lib.Math.min.name, Cond.code Lib.Math.min.name Lib.Math.min.code 2 (some .int)]
def wsL_stone_r7 : List Cond := [Cond.methodLink RJ7 150 arraycopyName, Cond.native arraycopyName, Cond.static arraycopyName, Cond.initialized "java/lang/System"]
def wsL_stone : List Cond := .codeWith yL_stone cL_stone 6 (some .int) [(0, 12, 15, 13), (0, 12, 19, 15), (0, 12, 23, 20)] :: ((wsL_stone_r1 ++ (wsL_stone_r2 ++ (wsL_stone_r3 ++ (wsL_stone_r4 ++ (wsL_stone_r5 ++ (wsL_stone_r6 ++ wsL_stone_r7)))))) ++ wsX90 ++ wsJx4a65c0 ++ wsX10 ++ wsX60 ++ (vx_atS RX9 249 "java/lang/IndexOutOfBoundsException" ["java/lang/RuntimeException", "java/lang/Exception"]).filter goodWord ++ (vx_atS RX9 258 "java/lang/IllegalArgumentException" ["java/lang/RuntimeException", "java/lang/Exception"]).filter goodWord ++ (vx_atS RX9 125 "java/lang/IllegalStateException" ["java/lang/RuntimeException", "java/lang/Exception"]).filter goodWord)
def wsL_draw : List Cond := .codeWith yL_draw cL_draw 4 (some .int) [(0, 9, 12, 15)] :: ([.classLink RL 15 "java/lang/IllegalArgumentException", .methodLink RL 22 yX9_draw, .instanceMethod yX9_draw, .selects RX9 yX9_draw yX9_draw, .initialized RX9, .code yX9_draw cX9_draw 3 (some .int), .constantLong RX9 70 (65536), .fieldLink RX9 38 "Craterclock" "drawn" "I", .methodLink RX9 48 yX9_requireRange, .static yX9_requireRange, .code yX9_requireRange cX9_requireRange 6 none, .classLink RX9 254 "java/lang/IllegalArgumentException", .initialized "java/lang/IllegalArgumentException"] ++ wsX90 ++ (vx_atS RX9 258 "java/lang/IllegalArgumentException" ["java/lang/RuntimeException", "java/lang/Exception"]).filter goodWord)
def wsL_rain_r1 : List Cond := [Cond.classLink RL 15 "java/lang/IllegalArgumentException", Cond.classLink RL 20 "java/lang/IllegalStateException", Cond.methodLink RL 26 yX9_rain, Cond.instanceMethod yX9_rain, Cond.selects RX9 yX9_rain yX9_rain, Cond.initialized RX9, Cond.code yX9_rain cX9_rain 6 (some .int), Cond.constantLong RX9 72 (30), Cond.methodLink RX9 48 yX9_requireRange, Cond.static yX9_requireRange, Cond.code yX9_requireRange cX9_requireRange 6 none, Cond.classLink RX9 254 "java/lang/IllegalArgumentException", Cond.initialized "java/lang/IllegalArgumentException", Cond.methodLink RX9 62 yX9_requireRoomForCraters, Cond.instanceMethod yX9_requireRoomForCraters, Cond.selects RX9 yX9_requireRoomForCraters yX9_requireRoomForCraters, Cond.code yX9_requireRoomForCraters cX9_requireRoomForCraters 2 none, Cond.classLink RX9 121 "java/lang/IllegalStateException", Cond.initialized "java/lang/IllegalStateException", Cond.fieldLink RX9 21 "Craterclock" "fallen" "Ljava/util/ArrayList;", Cond.methodLink RX9 96 yJx4a65c_size_8abf5, Cond.instanceMethod yJx4a65c_size_8abf5, Cond.selects RJx4a65c yJx4a65c_size_8abf5 yJx4a65c_size_8abf5, Cond.initialized RJx4a65c]
def wsL_rain_r2 : List Cond := [Cond.code yJx4a65c_size_8abf5 cJx4a65c_size_8abf5 1 (some .int), Cond.fieldLink RJx4a65c 48 "java/util/ArrayList" "size" "I", Cond.methodLink RX9 74 yX9_drawNext, Cond.instanceMethod yX9_drawNext, Cond.selects RX9 yX9_drawNext yX9_drawNext, Cond.code yX9_drawNext cX9_drawNext 1 (some .int), Cond.fieldLink RX9 38 "Craterclock" "drawn" "I", Cond.constant RX9 213 (65537), Cond.methodLink RX9 78 yX9_sizeDrawn, Cond.static yX9_sizeDrawn, Cond.code yX9_sizeDrawn cX9_sizeDrawn 1 (some .int), Cond.methodLink RX9 66 yX9_dropStone, Cond.instanceMethod yX9_dropStone, Cond.selects RX9 yX9_dropStone yX9_dropStone, Cond.code yX9_dropStone cX9_dropStone 8 (some .int), Cond.classLink RX9 183 RX1, Cond.instantiable RX1 6, Cond.initialized RX1, Cond.fieldLink RX9 14 "Craterclock" "cells" "LCraterclock$Ground;", Cond.classLink RX9 183 "Craterclock$Crater", Cond.methodLink RX9 52 yX6_kindAt, Cond.instanceMethod yX6_kindAt, Cond.selects RX6 yX6_kindAt yX6_kindAt, Cond.initialized RX6]
def wsL_rain_r3 : List Cond := [Cond.code yX6_kindAt cX6_kindAt 3 (some .int), Cond.fieldLink RX6 9 "Craterclock$Ground" "rows" "[I", Cond.methodLink RX9 204 yX1_init, Cond.instanceMethod yX1_init, Cond.code yX1_init cX1_init 5 none, Cond.methodLink RX1 3 objectInit, Cond.instanceMethod objectInit, Cond.code objectInit ⟨#[0xb1]⟩ 1 none, Cond.fieldLink RX1 9 "Craterclock$Crater" "x" "I", Cond.fieldLink RX1 15 "Craterclock$Crater" "y" "I", Cond.fieldLink RX1 18 "Craterclock$Crater" "size" "I", Cond.fieldLink RX1 25 "Craterclock$Crater" "radius" "I", Cond.fieldLink RX1 31 "Craterclock$Crater" "firstDepth" "I", Cond.fieldLink RX1 34 "Craterclock$Crater" "depth" "I", Cond.methodLink RX1 21 yX1_radiusOn, Cond.static yX1_radiusOn, Cond.code yX1_radiusOn cX1_radiusOn 2 (some .int), Cond.methodLink RX1 37 Lib.Math.max.name, Cond.static Lib.Math.max.name, Cond.initialized "java/lang/Math", Cond.code Lib.Math.max.name Lib.Math.max.code 2 (some .int), Cond.methodLink RX1 28 yX1_depthOn, Cond.static yX1_depthOn, Cond.code yX1_depthOn cX1_depthOn 2 (some .int)]
def wsL_rain_r4 : List Cond := [Cond.methodLink RX9 179 yJx4a65c_get_915e3, Cond.instanceMethod yJx4a65c_get_915e3, Cond.selects RJx4a65c yJx4a65c_get_915e3 yJx4a65c_get_915e3, Cond.code yJx4a65c_get_915e3 cJx4a65c_get_915e3 2 (some (.object "java/lang/Object")), Cond.methodLink RJx4a65c 118 yJ15_checkIndex_7cf53, Cond.static yJ15_checkIndex_7cf53, Cond.initialized RJ15, Cond.code yJ15_checkIndex_7cf53 cJ15_checkIndex_7cf53 2 (some .int), Cond.methodLink RJ15 105 yJ3_checkIndex_8e157, Cond.static yJ3_checkIndex_8e157, Cond.initialized RJ3, Cond.code yJ3_checkIndex_8e157 cJ3_checkIndex_8e157 3 (some .int), Cond.methodLink RJx4a65c 123 yJx4a65c_elementData_915e3, Cond.instanceMethod yJx4a65c_elementData_915e3, Cond.selects RJx4a65c yJx4a65c_elementData_915e3 yJx4a65c_elementData_915e3, Cond.code yJx4a65c_elementData_915e3 cJx4a65c_elementData_915e3 2 (some (.object "java/lang/Object")), Cond.fieldLink RJx4a65c 9 "java/util/ArrayList" "elementData" "[Ljava/lang/Object;", Cond.methodLink RX9 205 yX1_lossBy, Cond.instanceMethod yX1_lossBy, Cond.selects RX1 yX1_lossBy yX1_lossBy, Cond.code yX1_lossBy cX1_lossBy 2 (some .int), Cond.methodLink RX1 42 yX1_isWithin, Cond.instanceMethod yX1_isWithin, Cond.selects RX1 yX1_isWithin yX1_isWithin]
def wsL_rain_r5 : List Cond := [Cond.code yX1_isWithin cX1_isWithin 6 (some .boolean), Cond.methodLink RX9 209 yX1_lessen, Cond.instanceMethod yX1_lessen, Cond.selects RX1 yX1_lessen yX1_lessen, Cond.code yX1_lessen cX1_lessen 2 (some .boolean), Cond.methodLink RX9 132 yJx4a65c_add_9ea2d, Cond.instanceMethod yJx4a65c_add_9ea2d, Cond.selects RJx4a65c yJx4a65c_add_9ea2d yJx4a65c_add_9ea2d, Cond.code yJx4a65c_add_9ea2d cJx4a65c_add_9ea2d 2 (some .boolean), Cond.fieldLink RJx4a65c 63 "java/util/ArrayList" "modCount" "I", Cond.sameField "java/util/ArrayList" "java/util/AbstractList" "modCount" "I", Cond.methodLink RJx4a65c 131 yJx4a65c_add_72be8, Cond.instanceMethod yJx4a65c_add_72be8, Cond.selects RJx4a65c yJx4a65c_add_72be8 yJx4a65c_add_72be8, Cond.code yJx4a65c_add_72be8 cJx4a65c_add_72be8 4 none, Cond.methodLink RJx4a65c 129 yJx4a65c_grow_d5877, Cond.instanceMethod yJx4a65c_grow_d5877, Cond.selects RJx4a65c yJx4a65c_grow_d5877 yJx4a65c_grow_d5877, Cond.code yJx4a65c_grow_d5877 cJx4a65c_grow_d5877 1 (some (.array (.object "java/lang/Object"))), Cond.methodLink RJx4a65c 69 yJx4a65c_grow_92f84, Cond.instanceMethod yJx4a65c_grow_92f84, Cond.selects RJx4a65c yJx4a65c_grow_92f84 yJx4a65c_grow_92f84, Cond.code yJx4a65c_grow_92f84 cJx4a65c_grow_92f84 4 (some (.array (.object "java/lang/Object"))), Cond.fieldLink RJx4a65c 39 "java/util/ArrayList" "DEFAULTCAPACITY_EMPTY_ELEMENTDATA" "[Ljava/lang/Object;"]
def wsL_rain_r6 : List Cond := [Cond.methodLink RJx4a65c 79 Lib.Math.max.name, Cond.classLink RJx4a65c 7 "java/lang/Object", Cond.methodLink RJx4a65c 73 yJ8_newLength_cabcc, Cond.static yJ8_newLength_cabcc, Cond.initialized RJ8, Cond.code yJ8_newLength_cabcc cJ8_newLength_cabcc 4 (some .int), Cond.methodLink RJ8 194 Lib.Math.max.name, Cond.constant RJ8 200 (2147483639), Cond.methodLink RJ8 201 yJ8_hugeLength_7cf53, Cond.static yJ8_hugeLength_7cf53, Cond.code yJ8_hugeLength_7cf53 cJ8_hugeLength_7cf53 3 (some .int), Cond.methodLink RJx4a65c 66 yJ7_copyOf_1904c, Cond.static yJ7_copyOf_1904c, Cond.initialized RJ7, Cond.code yJ7_copyOf_1904c cJ7_copyOf_1904c 2 (some (.array (.object "java/lang/Object"))), Cond.methodLink RJ7 86 ⟨"java/lang/Object", "getClass", "()Ljava/lang/Class;"⟩, Cond.selects "[Ljava/lang/Object;" ⟨"java/lang/Object", "getClass", "()Ljava/lang/Class;"⟩ ⟨"java/lang/Object", "getClass", "()Ljava/lang/Class;"⟩, Cond.instanceMethod ⟨"java/lang/Object", "getClass", "()Ljava/lang/Class;"⟩, Cond.native ⟨"java/lang/Object", "getClass", "()Ljava/lang/Class;"⟩, Cond.methodLink RJ7 300 yJ7_copyOf_6403c, Cond.static yJ7_copyOf_6403c, Cond.code yJ7_copyOf_6403c cJ7_copyOf_6403c 4 (some (.array (.object "java/lang/Object"))), Cond.classLink RJ7 110 "[Ljava/lang/Object;", Cond.classLink RJ7 2 "java/lang/Object"]
def wsL_rain_r7 : List Cond := [Cond.methodLink RJ7 304 Lib.Math.min.name, Cond.static Lib.Math.min.name, Cond.code Lib.Math.min.name Lib.Math.min.code 2 (some .int), Cond.methodLink RJ7 150 arraycopyName, Cond.native arraycopyName, Cond.static arraycopyName, Cond.initialized "java/lang/System", Cond.methodLink RX9 82 yX9_countLeft, Cond.instanceMethod yX9_countLeft, Cond.selects RX9 yX9_countLeft yX9_countLeft, Cond.code yX9_countLeft cX9_countLeft 3 (some .int), Cond.fieldLink RX9 194 "Craterclock$Crater" "depth" "I"]
def wsL_rain : List Cond := .codeWith yL_rain cL_rain 4 (some .int) [(0, 9, 12, 15), (0, 9, 15, 20)] :: ((wsL_rain_r1 ++ (wsL_rain_r2 ++ (wsL_rain_r3 ++ (wsL_rain_r4 ++ (wsL_rain_r5 ++ (wsL_rain_r6 ++ wsL_rain_r7)))))) ++ wsX90 ++ wsJx4a65c0 ++ wsX10 ++ wsX60 ++ (vx_atS RX9 258 "java/lang/IllegalArgumentException" ["java/lang/RuntimeException", "java/lang/Exception"]).filter goodWord ++ (vx_atS RX9 125 "java/lang/IllegalStateException" ["java/lang/RuntimeException", "java/lang/Exception"]).filter goodWord)
def wsL_flood_r1 : List Cond := [Cond.classLink RL 13 "java/lang/IndexOutOfBoundsException", Cond.classLink RL 15 "java/lang/IllegalArgumentException", Cond.classLink RL 20 "java/lang/IllegalStateException", Cond.methodLink RL 29 yX9_flood, Cond.instanceMethod yX9_flood, Cond.selects RX9 yX9_flood yX9_flood, Cond.initialized RX9, Cond.code yX9_flood cX9_flood 6 (some .int), Cond.constantLong RX9 85 (40), Cond.classLink RX9 94 RX5, Cond.instantiable RX5 3, Cond.initialized RX5, Cond.fieldLink RX9 21 "Craterclock" "fallen" "Ljava/util/ArrayList;", Cond.classLink RX9 99 RX4, Cond.instantiable RX4 4, Cond.initialized RX4, Cond.methodLink RX9 42 yX9_requireCell, Cond.static yX9_requireCell, Cond.code yX9_requireCell cX9_requireCell 2 none, Cond.classLink RX9 245 "java/lang/IndexOutOfBoundsException", Cond.initialized "java/lang/IndexOutOfBoundsException", Cond.methodLink RX9 48 yX9_requireRange, Cond.static yX9_requireRange, Cond.code yX9_requireRange cX9_requireRange 6 none]
def wsL_flood_r2 : List Cond := [Cond.classLink RX9 254 "java/lang/IllegalArgumentException", Cond.initialized "java/lang/IllegalArgumentException", Cond.methodLink RX9 87 yX9_requireOrder, Cond.static yX9_requireOrder, Cond.code yX9_requireOrder cX9_requireOrder 4 none, Cond.methodLink RX9 91 yX9_requireRoomForLessening, Cond.instanceMethod yX9_requireRoomForLessening, Cond.selects RX9 yX9_requireRoomForLessening yX9_requireRoomForLessening, Cond.code yX9_requireRoomForLessening cX9_requireRoomForLessening 1 none, Cond.classLink RX9 121 "java/lang/IllegalStateException", Cond.initialized "java/lang/IllegalStateException", Cond.fieldLink RX9 25 "Craterclock" "lessenings" "Ljava/util/ArrayList;", Cond.methodLink RX9 96 yJx4a65c_size_8abf5, Cond.instanceMethod yJx4a65c_size_8abf5, Cond.selects RJx4a65c yJx4a65c_size_8abf5 yJx4a65c_size_8abf5, Cond.initialized RJx4a65c, Cond.code yJx4a65c_size_8abf5 cJx4a65c_size_8abf5 1 (some .int), Cond.fieldLink RJx4a65c 48 "java/util/ArrayList" "size" "I", Cond.methodLink RX9 101 yX4_init, Cond.instanceMethod yX4_init, Cond.code yX4_init cX4_init 5 none, Cond.methodLink RX4 1 objectInit, Cond.instanceMethod objectInit, Cond.code objectInit ⟨#[0xb1]⟩ 1 none]
def wsL_flood_r3 : List Cond := [Cond.fieldLink RX4 7 "Craterclock$Field" "x" "I", Cond.fieldLink RX4 13 "Craterclock$Field" "y" "I", Cond.fieldLink RX4 16 "Craterclock$Field" "toX" "I", Cond.fieldLink RX4 19 "Craterclock$Field" "toY" "I", Cond.methodLink RX9 103 yX5_init, Cond.instanceMethod yX5_init, Cond.code yX5_init cX5_init 4 none, Cond.fieldLink RX5 7 "Craterclock$Flood" "field" "LCraterclock$Field;", Cond.fieldLink RX5 13 "Craterclock$Flood" "thick" "I", Cond.methodLink RX5 1 yX7_init, Cond.instanceMethod yX7_init, Cond.initialized RX7, Cond.code yX7_init cX7_init 2 none, Cond.methodLink RX7 1 objectInit, Cond.fieldLink RX7 7 "Craterclock$Lessening" "cratersThen" "I", Cond.methodLink RX9 106 yX9_lessenAll, Cond.instanceMethod yX9_lessenAll, Cond.selects RX9 yX9_lessenAll yX9_lessenAll, Cond.code yX9_lessenAll cX9_lessenAll 5 (some .int), Cond.classLink RX9 183 "Craterclock$Crater", Cond.methodLink RX9 132 yJx4a65c_add_9ea2d, Cond.instanceMethod yJx4a65c_add_9ea2d, Cond.selects RJx4a65c yJx4a65c_add_9ea2d yJx4a65c_add_9ea2d, Cond.code yJx4a65c_add_9ea2d cJx4a65c_add_9ea2d 2 (some .boolean)]
def wsL_flood_r4 : List Cond := [Cond.fieldLink RJx4a65c 63 "java/util/ArrayList" "modCount" "I", Cond.sameField "java/util/ArrayList" "java/util/AbstractList" "modCount" "I", Cond.fieldLink RJx4a65c 9 "java/util/ArrayList" "elementData" "[Ljava/lang/Object;", Cond.methodLink RJx4a65c 131 yJx4a65c_add_72be8, Cond.instanceMethod yJx4a65c_add_72be8, Cond.selects RJx4a65c yJx4a65c_add_72be8 yJx4a65c_add_72be8, Cond.code yJx4a65c_add_72be8 cJx4a65c_add_72be8 4 none, Cond.methodLink RJx4a65c 129 yJx4a65c_grow_d5877, Cond.instanceMethod yJx4a65c_grow_d5877, Cond.selects RJx4a65c yJx4a65c_grow_d5877 yJx4a65c_grow_d5877, Cond.code yJx4a65c_grow_d5877 cJx4a65c_grow_d5877 1 (some (.array (.object "java/lang/Object"))), Cond.methodLink RJx4a65c 69 yJx4a65c_grow_92f84, Cond.instanceMethod yJx4a65c_grow_92f84, Cond.selects RJx4a65c yJx4a65c_grow_92f84 yJx4a65c_grow_92f84, Cond.code yJx4a65c_grow_92f84 cJx4a65c_grow_92f84 4 (some (.array (.object "java/lang/Object"))), Cond.fieldLink RJx4a65c 39 "java/util/ArrayList" "DEFAULTCAPACITY_EMPTY_ELEMENTDATA" "[Ljava/lang/Object;", Cond.methodLink RJx4a65c 79 Lib.Math.max.name, Cond.static Lib.Math.max.name, Cond.initialized "java/lang/Math", Cond.code Lib.Math.max.name Lib.Math.max.code 2 (some .int), Cond.classLink RJx4a65c 7 "java/lang/Object", Cond.methodLink RJx4a65c 73 yJ8_newLength_cabcc, Cond.static yJ8_newLength_cabcc, Cond.initialized RJ8]
def wsL_flood_r5 : List Cond := [Cond.code yJ8_newLength_cabcc cJ8_newLength_cabcc 4 (some .int), Cond.methodLink RJ8 194 Lib.Math.max.name, Cond.constant RJ8 200 (2147483639), Cond.methodLink RJ8 201 yJ8_hugeLength_7cf53, Cond.static yJ8_hugeLength_7cf53, Cond.code yJ8_hugeLength_7cf53 cJ8_hugeLength_7cf53 3 (some .int), Cond.methodLink RJx4a65c 66 yJ7_copyOf_1904c, Cond.static yJ7_copyOf_1904c, Cond.initialized RJ7, Cond.code yJ7_copyOf_1904c cJ7_copyOf_1904c 2 (some (.array (.object "java/lang/Object"))), Cond.methodLink RJ7 86 ⟨"java/lang/Object", "getClass", "()Ljava/lang/Class;"⟩, Cond.selects "[Ljava/lang/Object;" ⟨"java/lang/Object", "getClass", "()Ljava/lang/Class;"⟩ ⟨"java/lang/Object", "getClass", "()Ljava/lang/Class;"⟩, Cond.instanceMethod ⟨"java/lang/Object", "getClass", "()Ljava/lang/Class;"⟩, Cond.native ⟨"java/lang/Object", "getClass", "()Ljava/lang/Class;"⟩, Cond.methodLink RJ7 300 yJ7_copyOf_6403c, Cond.static yJ7_copyOf_6403c, Cond.code yJ7_copyOf_6403c cJ7_copyOf_6403c 4 (some (.array (.object "java/lang/Object"))), Cond.classLink RJ7 110 "[Ljava/lang/Object;", Cond.classLink RJ7 2 "java/lang/Object", Cond.methodLink RJ7 304 Lib.Math.min.name, Cond.static Lib.Math.min.name, Cond.code Lib.Math.min.name Lib.Math.min.code 2 (some .int), Cond.methodLink RJ7 150 arraycopyName, Cond.native arraycopyName]
def wsL_flood_r6 : List Cond := [Cond.static arraycopyName, Cond.initialized "java/lang/System", Cond.methodLink RX9 179 yJx4a65c_get_915e3, Cond.instanceMethod yJx4a65c_get_915e3, Cond.selects RJx4a65c yJx4a65c_get_915e3 yJx4a65c_get_915e3, Cond.code yJx4a65c_get_915e3 cJx4a65c_get_915e3 2 (some (.object "java/lang/Object")), Cond.methodLink RJx4a65c 118 yJ15_checkIndex_7cf53, Cond.static yJ15_checkIndex_7cf53, Cond.initialized RJ15, Cond.code yJ15_checkIndex_7cf53 cJ15_checkIndex_7cf53 2 (some .int), Cond.methodLink RJ15 105 yJ3_checkIndex_8e157, Cond.static yJ3_checkIndex_8e157, Cond.initialized RJ3, Cond.code yJ3_checkIndex_8e157 cJ3_checkIndex_8e157 3 (some .int), Cond.methodLink RJx4a65c 123 yJx4a65c_elementData_915e3, Cond.instanceMethod yJx4a65c_elementData_915e3, Cond.selects RJx4a65c yJx4a65c_elementData_915e3 yJx4a65c_elementData_915e3, Cond.code yJx4a65c_elementData_915e3 cJx4a65c_elementData_915e3 2 (some (.object "java/lang/Object")), Cond.methodLink RX9 214 ⟨"Craterclock$Lessening", "lossOf", "(LCraterclock$Crater;)I"⟩, Cond.sameMethod "Craterclock$Lessening" "Craterclock$Lessening" "lossOf" "(LCraterclock$Crater;)I", Cond.selects RX5 ⟨"Craterclock$Lessening", "lossOf", "(LCraterclock$Crater;)I"⟩ yX5_lossOf, Cond.instanceMethod yX5_lossOf, Cond.code yX5_lossOf cX5_lossOf 2 (some .int), Cond.fieldLink RX5 17 "Craterclock$Crater" "x" "I"]
def wsL_flood_r7 : List Cond := [Cond.fieldLink RX5 22 "Craterclock$Crater" "y" "I", Cond.methodLink RX5 25 yX4_has, Cond.instanceMethod yX4_has, Cond.selects RX4 yX4_has yX4_has, Cond.code yX4_has cX4_has 3 (some .boolean), Cond.selects RX8 ⟨"Craterclock$Lessening", "lossOf", "(LCraterclock$Crater;)I"⟩ yX8_lossOf, Cond.instanceMethod yX8_lossOf, Cond.initialized RX8, Cond.code yX8_lossOf cX8_lossOf 2 (some .int), Cond.fieldLink RX8 9 "Craterclock$Softening" "cellsThen" "LCraterclock$Ground;", Cond.fieldLink RX8 19 "Craterclock$Crater" "x" "I", Cond.fieldLink RX8 24 "Craterclock$Crater" "y" "I", Cond.fieldLink RX8 15 "Craterclock$Softening" "steps" "I", Cond.methodLink RX8 27 yX6_kindAt, Cond.instanceMethod yX6_kindAt, Cond.selects RX6 yX6_kindAt yX6_kindAt, Cond.initialized RX6, Cond.code yX6_kindAt cX6_kindAt 3 (some .int), Cond.fieldLink RX6 9 "Craterclock$Ground" "rows" "[I", Cond.methodLink RX9 209 yX1_lessen, Cond.instanceMethod yX1_lessen, Cond.selects RX1 yX1_lessen yX1_lessen, Cond.initialized RX1, Cond.code yX1_lessen cX1_lessen 2 (some .boolean)]
def wsL_flood_r8 : List Cond := [Cond.fieldLink RX1 34 "Craterclock$Crater" "depth" "I", Cond.methodLink RX1 37 Lib.Math.max.name]
def wsL_flood : List Cond := .codeWith yL_flood cL_flood 8 (some .int) [(0, 16, 19, 13), (0, 16, 23, 15), (0, 16, 27, 20)] :: ((wsL_flood_r1 ++ (wsL_flood_r2 ++ (wsL_flood_r3 ++ (wsL_flood_r4 ++ (wsL_flood_r5 ++ (wsL_flood_r6 ++ (wsL_flood_r7 ++ wsL_flood_r8))))))) ++ wsX50 ++ wsX90 ++ wsX40 ++ wsJx4a65c0 ++ wsX80 ++ wsX10 ++ wsX60 ++ (vx_atS RX9 249 "java/lang/IndexOutOfBoundsException" ["java/lang/RuntimeException", "java/lang/Exception"]).filter goodWord ++ (vx_atS RX9 258 "java/lang/IllegalArgumentException" ["java/lang/RuntimeException", "java/lang/Exception"]).filter goodWord ++ (vx_atS RX9 125 "java/lang/IllegalStateException" ["java/lang/RuntimeException", "java/lang/Exception"]).filter goodWord)
def wsL_soften_r1 : List Cond := [Cond.classLink RL 15 "java/lang/IllegalArgumentException", Cond.classLink RL 20 "java/lang/IllegalStateException", Cond.methodLink RL 33 yX9_soften, Cond.instanceMethod yX9_soften, Cond.selects RX9 yX9_soften yX9_soften, Cond.initialized RX9, Cond.code yX9_soften cX9_soften 2 (some .int), Cond.constantLong RX9 85 (40), Cond.classLink RX9 110 RX8, Cond.instantiable RX8 3, Cond.initialized RX8, Cond.fieldLink RX9 21 "Craterclock" "fallen" "Ljava/util/ArrayList;", Cond.fieldLink RX9 14 "Craterclock" "cells" "LCraterclock$Ground;", Cond.methodLink RX9 48 yX9_requireRange, Cond.static yX9_requireRange, Cond.code yX9_requireRange cX9_requireRange 6 none, Cond.classLink RX9 254 "java/lang/IllegalArgumentException", Cond.initialized "java/lang/IllegalArgumentException", Cond.methodLink RX9 91 yX9_requireRoomForLessening, Cond.instanceMethod yX9_requireRoomForLessening, Cond.selects RX9 yX9_requireRoomForLessening yX9_requireRoomForLessening, Cond.code yX9_requireRoomForLessening cX9_requireRoomForLessening 1 none, Cond.classLink RX9 121 "java/lang/IllegalStateException", Cond.initialized "java/lang/IllegalStateException"]
def wsL_soften_r2 : List Cond := [Cond.fieldLink RX9 25 "Craterclock" "lessenings" "Ljava/util/ArrayList;", Cond.methodLink RX9 96 yJx4a65c_size_8abf5, Cond.instanceMethod yJx4a65c_size_8abf5, Cond.selects RJx4a65c yJx4a65c_size_8abf5 yJx4a65c_size_8abf5, Cond.initialized RJx4a65c, Cond.code yJx4a65c_size_8abf5 cJx4a65c_size_8abf5 1 (some .int), Cond.fieldLink RJx4a65c 48 "java/util/ArrayList" "size" "I", Cond.methodLink RX9 112 yX6_copy, Cond.instanceMethod yX6_copy, Cond.selects RX6 yX6_copy yX6_copy, Cond.initialized RX6, Cond.code yX6_copy cX6_copy 1 (some (.object "Craterclock$Ground")), Cond.classLink RX6 10 RX6, Cond.instantiable RX6 1, Cond.fieldLink RX6 9 "Craterclock$Ground" "rows" "[I", Cond.methodLink RX6 15 ⟨"[I", "clone", "()Ljava/lang/Object;"⟩, Cond.sameMethod "[I" "java/lang/Object" "clone" "()Ljava/lang/Object;", Cond.native ⟨"java/lang/Object", "clone", "()Ljava/lang/Object;"⟩, Cond.instanceMethod ⟨"java/lang/Object", "clone", "()Ljava/lang/Object;"⟩, Cond.selects "[I" ⟨"[I", "clone", "()Ljava/lang/Object;"⟩ ⟨"java/lang/Object", "clone", "()Ljava/lang/Object;"⟩, Cond.classLink RX6 16 "[I", Cond.methodLink RX6 20 yX6_init, Cond.instanceMethod yX6_init, Cond.code yX6_init cX6_init 2 none]
def wsL_soften_r3 : List Cond := [Cond.methodLink RX6 3 objectInit, Cond.instanceMethod objectInit, Cond.code objectInit ⟨#[0xb1]⟩ 1 none, Cond.methodLink RX9 116 yX8_init, Cond.instanceMethod yX8_init, Cond.code yX8_init cX8_init 4 none, Cond.fieldLink RX8 9 "Craterclock$Softening" "cellsThen" "LCraterclock$Ground;", Cond.fieldLink RX8 15 "Craterclock$Softening" "steps" "I", Cond.methodLink RX8 3 yX7_init, Cond.instanceMethod yX7_init, Cond.initialized RX7, Cond.code yX7_init cX7_init 2 none, Cond.methodLink RX7 1 objectInit, Cond.fieldLink RX7 7 "Craterclock$Lessening" "cratersThen" "I", Cond.methodLink RX9 106 yX9_lessenAll, Cond.instanceMethod yX9_lessenAll, Cond.selects RX9 yX9_lessenAll yX9_lessenAll, Cond.code yX9_lessenAll cX9_lessenAll 5 (some .int), Cond.classLink RX9 183 "Craterclock$Crater", Cond.methodLink RX9 132 yJx4a65c_add_9ea2d, Cond.instanceMethod yJx4a65c_add_9ea2d, Cond.selects RJx4a65c yJx4a65c_add_9ea2d yJx4a65c_add_9ea2d, Cond.code yJx4a65c_add_9ea2d cJx4a65c_add_9ea2d 2 (some .boolean), Cond.fieldLink RJx4a65c 63 "java/util/ArrayList" "modCount" "I"]
def wsL_soften_r4 : List Cond := [Cond.sameField "java/util/ArrayList" "java/util/AbstractList" "modCount" "I", Cond.fieldLink RJx4a65c 9 "java/util/ArrayList" "elementData" "[Ljava/lang/Object;", Cond.methodLink RJx4a65c 131 yJx4a65c_add_72be8, Cond.instanceMethod yJx4a65c_add_72be8, Cond.selects RJx4a65c yJx4a65c_add_72be8 yJx4a65c_add_72be8, Cond.code yJx4a65c_add_72be8 cJx4a65c_add_72be8 4 none, Cond.methodLink RJx4a65c 129 yJx4a65c_grow_d5877, Cond.instanceMethod yJx4a65c_grow_d5877, Cond.selects RJx4a65c yJx4a65c_grow_d5877 yJx4a65c_grow_d5877, Cond.code yJx4a65c_grow_d5877 cJx4a65c_grow_d5877 1 (some (.array (.object "java/lang/Object"))), Cond.methodLink RJx4a65c 69 yJx4a65c_grow_92f84, Cond.instanceMethod yJx4a65c_grow_92f84, Cond.selects RJx4a65c yJx4a65c_grow_92f84 yJx4a65c_grow_92f84, Cond.code yJx4a65c_grow_92f84 cJx4a65c_grow_92f84 4 (some (.array (.object "java/lang/Object"))), Cond.fieldLink RJx4a65c 39 "java/util/ArrayList" "DEFAULTCAPACITY_EMPTY_ELEMENTDATA" "[Ljava/lang/Object;", Cond.methodLink RJx4a65c 79 Lib.Math.max.name, Cond.static Lib.Math.max.name, Cond.initialized "java/lang/Math", Cond.code Lib.Math.max.name Lib.Math.max.code 2 (some .int), Cond.classLink RJx4a65c 7 "java/lang/Object", Cond.methodLink RJx4a65c 73 yJ8_newLength_cabcc, Cond.static yJ8_newLength_cabcc, Cond.initialized RJ8, Cond.code yJ8_newLength_cabcc cJ8_newLength_cabcc 4 (some .int)]
def wsL_soften_r5 : List Cond := [Cond.methodLink RJ8 194 Lib.Math.max.name, Cond.constant RJ8 200 (2147483639), Cond.methodLink RJ8 201 yJ8_hugeLength_7cf53, Cond.static yJ8_hugeLength_7cf53, Cond.code yJ8_hugeLength_7cf53 cJ8_hugeLength_7cf53 3 (some .int), Cond.methodLink RJx4a65c 66 yJ7_copyOf_1904c, Cond.static yJ7_copyOf_1904c, Cond.initialized RJ7, Cond.code yJ7_copyOf_1904c cJ7_copyOf_1904c 2 (some (.array (.object "java/lang/Object"))), Cond.methodLink RJ7 86 ⟨"java/lang/Object", "getClass", "()Ljava/lang/Class;"⟩, Cond.selects "[Ljava/lang/Object;" ⟨"java/lang/Object", "getClass", "()Ljava/lang/Class;"⟩ ⟨"java/lang/Object", "getClass", "()Ljava/lang/Class;"⟩, Cond.instanceMethod ⟨"java/lang/Object", "getClass", "()Ljava/lang/Class;"⟩, Cond.native ⟨"java/lang/Object", "getClass", "()Ljava/lang/Class;"⟩, Cond.methodLink RJ7 300 yJ7_copyOf_6403c, Cond.static yJ7_copyOf_6403c, Cond.code yJ7_copyOf_6403c cJ7_copyOf_6403c 4 (some (.array (.object "java/lang/Object"))), Cond.classLink RJ7 110 "[Ljava/lang/Object;", Cond.classLink RJ7 2 "java/lang/Object", Cond.methodLink RJ7 304 Lib.Math.min.name, Cond.static Lib.Math.min.name, Cond.code Lib.Math.min.name Lib.Math.min.code 2 (some .int), Cond.methodLink RJ7 150 arraycopyName, Cond.native arraycopyName, Cond.static arraycopyName]
def wsL_soften_r6 : List Cond := [Cond.initialized "java/lang/System", Cond.methodLink RX9 179 yJx4a65c_get_915e3, Cond.instanceMethod yJx4a65c_get_915e3, Cond.selects RJx4a65c yJx4a65c_get_915e3 yJx4a65c_get_915e3, Cond.code yJx4a65c_get_915e3 cJx4a65c_get_915e3 2 (some (.object "java/lang/Object")), Cond.methodLink RJx4a65c 118 yJ15_checkIndex_7cf53, Cond.static yJ15_checkIndex_7cf53, Cond.initialized RJ15, Cond.code yJ15_checkIndex_7cf53 cJ15_checkIndex_7cf53 2 (some .int), Cond.methodLink RJ15 105 yJ3_checkIndex_8e157, Cond.static yJ3_checkIndex_8e157, Cond.initialized RJ3, Cond.code yJ3_checkIndex_8e157 cJ3_checkIndex_8e157 3 (some .int), Cond.methodLink RJx4a65c 123 yJx4a65c_elementData_915e3, Cond.instanceMethod yJx4a65c_elementData_915e3, Cond.selects RJx4a65c yJx4a65c_elementData_915e3 yJx4a65c_elementData_915e3, Cond.code yJx4a65c_elementData_915e3 cJx4a65c_elementData_915e3 2 (some (.object "java/lang/Object")), Cond.methodLink RX9 214 ⟨"Craterclock$Lessening", "lossOf", "(LCraterclock$Crater;)I"⟩, Cond.sameMethod "Craterclock$Lessening" "Craterclock$Lessening" "lossOf" "(LCraterclock$Crater;)I", Cond.selects RX5 ⟨"Craterclock$Lessening", "lossOf", "(LCraterclock$Crater;)I"⟩ yX5_lossOf, Cond.instanceMethod yX5_lossOf, Cond.initialized RX5, Cond.code yX5_lossOf cX5_lossOf 2 (some .int), Cond.fieldLink RX5 7 "Craterclock$Flood" "field" "LCraterclock$Field;"]
def wsL_soften_r7 : List Cond := [Cond.fieldLink RX5 17 "Craterclock$Crater" "x" "I", Cond.fieldLink RX5 22 "Craterclock$Crater" "y" "I", Cond.fieldLink RX5 13 "Craterclock$Flood" "thick" "I", Cond.methodLink RX5 25 yX4_has, Cond.instanceMethod yX4_has, Cond.selects RX4 yX4_has yX4_has, Cond.initialized RX4, Cond.code yX4_has cX4_has 3 (some .boolean), Cond.fieldLink RX4 7 "Craterclock$Field" "x" "I", Cond.fieldLink RX4 16 "Craterclock$Field" "toX" "I", Cond.fieldLink RX4 13 "Craterclock$Field" "y" "I", Cond.fieldLink RX4 19 "Craterclock$Field" "toY" "I", Cond.selects RX8 ⟨"Craterclock$Lessening", "lossOf", "(LCraterclock$Crater;)I"⟩ yX8_lossOf, Cond.instanceMethod yX8_lossOf, Cond.code yX8_lossOf cX8_lossOf 2 (some .int), Cond.fieldLink RX8 19 "Craterclock$Crater" "x" "I", Cond.fieldLink RX8 24 "Craterclock$Crater" "y" "I", Cond.methodLink RX8 27 yX6_kindAt, Cond.instanceMethod yX6_kindAt, Cond.selects RX6 yX6_kindAt yX6_kindAt, Cond.code yX6_kindAt cX6_kindAt 3 (some .int), Cond.methodLink RX9 209 yX1_lessen, Cond.instanceMethod yX1_lessen, Cond.selects RX1 yX1_lessen yX1_lessen]
def wsL_soften_r8 : List Cond := [Cond.initialized RX1, Cond.code yX1_lessen cX1_lessen 2 (some .boolean), Cond.fieldLink RX1 34 "Craterclock$Crater" "depth" "I", Cond.methodLink RX1 37 Lib.Math.max.name]
def wsL_soften : List Cond := .codeWith yL_soften cL_soften 4 (some .int) [(0, 9, 12, 15), (0, 9, 15, 20)] :: ((wsL_soften_r1 ++ (wsL_soften_r2 ++ (wsL_soften_r3 ++ (wsL_soften_r4 ++ (wsL_soften_r5 ++ (wsL_soften_r6 ++ (wsL_soften_r7 ++ wsL_soften_r8))))))) ++ wsX80 ++ wsX90 ++ wsJx4a65c0 ++ wsX60 ++ wsX50 ++ wsX10 ++ wsX40 ++ (vx_atS RX9 258 "java/lang/IllegalArgumentException" ["java/lang/RuntimeException", "java/lang/Exception"]).filter goodWord ++ (vx_atS RX9 125 "java/lang/IllegalStateException" ["java/lang/RuntimeException", "java/lang/Exception"]).filter goodWord)
def wsL_eye_r1 : List Cond := [Cond.classLink RL 15 "java/lang/IllegalArgumentException", Cond.classLink RL 20 "java/lang/IllegalStateException", Cond.methodLink RL 36 yX9_eye, Cond.instanceMethod yX9_eye, Cond.selects RX9 yX9_eye yX9_eye, Cond.initialized RX9, Cond.code yX9_eye cX9_eye 2 (some .int), Cond.classLink RX9 121 "java/lang/IllegalStateException", Cond.initialized "java/lang/IllegalStateException", Cond.constantLong RX9 119 (9), Cond.fieldLink RX9 28 "Craterclock" "eyes" "Ljava/util/ArrayList;", Cond.classLink RX9 128 RX3, Cond.instantiable RX3 1, Cond.initialized RX3, Cond.methodLink RX9 48 yX9_requireRange, Cond.static yX9_requireRange, Cond.code yX9_requireRange cX9_requireRange 6 none, Cond.classLink RX9 254 "java/lang/IllegalArgumentException", Cond.initialized "java/lang/IllegalArgumentException", Cond.methodLink RX9 96 yJx4a65c_size_8abf5, Cond.instanceMethod yJx4a65c_size_8abf5, Cond.selects RJx4a65c yJx4a65c_size_8abf5 yJx4a65c_size_8abf5, Cond.initialized RJx4a65c, Cond.code yJx4a65c_size_8abf5 cJx4a65c_size_8abf5 1 (some .int)]
def wsL_eye_r2 : List Cond := [Cond.fieldLink RJx4a65c 48 "java/util/ArrayList" "size" "I", Cond.methodLink RX9 130 yX3_init, Cond.instanceMethod yX3_init, Cond.code yX3_init cX3_init 2 none, Cond.methodLink RX3 1 objectInit, Cond.instanceMethod objectInit, Cond.code objectInit ⟨#[0xb1]⟩ 1 none, Cond.fieldLink RX3 7 "Craterclock$Eye" "skill" "I", Cond.methodLink RX9 132 yJx4a65c_add_9ea2d, Cond.instanceMethod yJx4a65c_add_9ea2d, Cond.selects RJx4a65c yJx4a65c_add_9ea2d yJx4a65c_add_9ea2d, Cond.code yJx4a65c_add_9ea2d cJx4a65c_add_9ea2d 2 (some .boolean), Cond.fieldLink RJx4a65c 63 "java/util/ArrayList" "modCount" "I", Cond.sameField "java/util/ArrayList" "java/util/AbstractList" "modCount" "I", Cond.fieldLink RJx4a65c 9 "java/util/ArrayList" "elementData" "[Ljava/lang/Object;", Cond.methodLink RJx4a65c 131 yJx4a65c_add_72be8, Cond.instanceMethod yJx4a65c_add_72be8, Cond.selects RJx4a65c yJx4a65c_add_72be8 yJx4a65c_add_72be8, Cond.code yJx4a65c_add_72be8 cJx4a65c_add_72be8 4 none, Cond.methodLink RJx4a65c 129 yJx4a65c_grow_d5877, Cond.instanceMethod yJx4a65c_grow_d5877, Cond.selects RJx4a65c yJx4a65c_grow_d5877 yJx4a65c_grow_d5877, Cond.code yJx4a65c_grow_d5877 cJx4a65c_grow_d5877 1 (some (.array (.object "java/lang/Object"))), Cond.methodLink RJx4a65c 69 yJx4a65c_grow_92f84]
def wsL_eye_r3 : List Cond := [Cond.instanceMethod yJx4a65c_grow_92f84, Cond.selects RJx4a65c yJx4a65c_grow_92f84 yJx4a65c_grow_92f84, Cond.code yJx4a65c_grow_92f84 cJx4a65c_grow_92f84 4 (some (.array (.object "java/lang/Object"))), Cond.fieldLink RJx4a65c 39 "java/util/ArrayList" "DEFAULTCAPACITY_EMPTY_ELEMENTDATA" "[Ljava/lang/Object;", Cond.methodLink RJx4a65c 79 Lib.Math.max.name, Cond.static Lib.Math.max.name, Cond.initialized "java/lang/Math", Cond.code Lib.Math.max.name Lib.Math.max.code 2 (some .int), Cond.classLink RJx4a65c 7 "java/lang/Object", Cond.methodLink RJx4a65c 73 yJ8_newLength_cabcc, Cond.static yJ8_newLength_cabcc, Cond.initialized RJ8, Cond.code yJ8_newLength_cabcc cJ8_newLength_cabcc 4 (some .int), Cond.methodLink RJ8 194 Lib.Math.max.name, Cond.constant RJ8 200 (2147483639), Cond.methodLink RJ8 201 yJ8_hugeLength_7cf53, Cond.static yJ8_hugeLength_7cf53, Cond.code yJ8_hugeLength_7cf53 cJ8_hugeLength_7cf53 3 (some .int), Cond.methodLink RJx4a65c 66 yJ7_copyOf_1904c, Cond.static yJ7_copyOf_1904c, Cond.initialized RJ7, Cond.code yJ7_copyOf_1904c cJ7_copyOf_1904c 2 (some (.array (.object "java/lang/Object"))), Cond.methodLink RJ7 86 ⟨"java/lang/Object", "getClass", "()Ljava/lang/Class;"⟩, Cond.selects "[Ljava/lang/Object;" ⟨"java/lang/Object", "getClass", "()Ljava/lang/Class;"⟩ ⟨"java/lang/Object", "getClass", "()Ljava/lang/Class;"⟩]
def wsL_eye_r4 : List Cond := [Cond.instanceMethod ⟨"java/lang/Object", "getClass", "()Ljava/lang/Class;"⟩, Cond.native ⟨"java/lang/Object", "getClass", "()Ljava/lang/Class;"⟩, Cond.methodLink RJ7 300 yJ7_copyOf_6403c, Cond.static yJ7_copyOf_6403c, Cond.code yJ7_copyOf_6403c cJ7_copyOf_6403c 4 (some (.array (.object "java/lang/Object"))), Cond.classLink RJ7 110 "[Ljava/lang/Object;", Cond.classLink RJ7 2 "java/lang/Object", Cond.methodLink RJ7 304 Lib.Math.min.name, Cond.static Lib.Math.min.name, Cond.code Lib.Math.min.name Lib.Math.min.code 2 (some .int), Cond.methodLink RJ7 150 arraycopyName, Cond.native arraycopyName, Cond.static arraycopyName, Cond.initialized "java/lang/System"]
def wsL_eye : List Cond := .codeWith yL_eye cL_eye 4 (some .int) [(0, 9, 12, 15), (0, 9, 15, 20)] :: ((wsL_eye_r1 ++ (wsL_eye_r2 ++ (wsL_eye_r3 ++ wsL_eye_r4))) ++ wsX90 ++ wsX30 ++ wsJx4a65c0 ++ (vx_atS RX9 125 "java/lang/IllegalStateException" ["java/lang/RuntimeException", "java/lang/Exception"]).filter goodWord ++ (vx_atS RX9 258 "java/lang/IllegalArgumentException" ["java/lang/RuntimeException", "java/lang/Exception"]).filter goodWord)
def wsL_anchor_r1 : List Cond := [Cond.classLink RL 15 "java/lang/IllegalArgumentException", Cond.classLink RL 20 "java/lang/IllegalStateException", Cond.methodLink RL 39 yX9_anchor, Cond.instanceMethod yX9_anchor, Cond.selects RX9 yX9_anchor yX9_anchor, Cond.initialized RX9, Cond.code yX9_anchor cX9_anchor 5 (some .int), Cond.classLink RX9 121 "java/lang/IllegalStateException", Cond.initialized "java/lang/IllegalStateException", Cond.constantLong RX9 136 (5000000000), Cond.constantLong RX9 138 (100000000), Cond.fieldLink RX9 34 "Craterclock" "curve" "LCraterclock$Curve;", Cond.methodLink RX9 48 yX9_requireRange, Cond.static yX9_requireRange, Cond.code yX9_requireRange cX9_requireRange 6 none, Cond.classLink RX9 254 "java/lang/IllegalArgumentException", Cond.initialized "java/lang/IllegalArgumentException", Cond.methodLink RX9 140 yX2_canTake, Cond.instanceMethod yX2_canTake, Cond.selects RX2 yX2_canTake yX2_canTake, Cond.initialized RX2, Cond.code yX2_canTake cX2_canTake 7 (some .boolean), Cond.fieldLink RX2 12 "Craterclock$Curve" "anchors" "Ljava/util/ArrayList;", Cond.classLink RX2 26 "Craterclock$Anchor"]
def wsL_anchor_r2 : List Cond := [Cond.fieldLink RX2 28 "Craterclock$Anchor" "years" "J", Cond.fieldLink RX2 32 "Craterclock$Anchor" "density" "J", Cond.methodLink RX2 18 yJx4a65c_size_8abf5, Cond.instanceMethod yJx4a65c_size_8abf5, Cond.selects RJx4a65c yJx4a65c_size_8abf5 yJx4a65c_size_8abf5, Cond.initialized RJx4a65c, Cond.code yJx4a65c_size_8abf5 cJx4a65c_size_8abf5 1 (some .int), Cond.fieldLink RJx4a65c 48 "java/util/ArrayList" "size" "I", Cond.methodLink RX2 22 yJx4a65c_get_915e3, Cond.instanceMethod yJx4a65c_get_915e3, Cond.selects RJx4a65c yJx4a65c_get_915e3 yJx4a65c_get_915e3, Cond.code yJx4a65c_get_915e3 cJx4a65c_get_915e3 2 (some (.object "java/lang/Object")), Cond.methodLink RJx4a65c 118 yJ15_checkIndex_7cf53, Cond.static yJ15_checkIndex_7cf53, Cond.initialized RJ15, Cond.code yJ15_checkIndex_7cf53 cJ15_checkIndex_7cf53 2 (some .int), Cond.methodLink RJ15 105 yJ3_checkIndex_8e157, Cond.static yJ3_checkIndex_8e157, Cond.initialized RJ3, Cond.code yJ3_checkIndex_8e157 cJ3_checkIndex_8e157 3 (some .int), Cond.methodLink RJx4a65c 123 yJx4a65c_elementData_915e3, Cond.instanceMethod yJx4a65c_elementData_915e3, Cond.selects RJx4a65c yJx4a65c_elementData_915e3 yJx4a65c_elementData_915e3, Cond.code yJx4a65c_elementData_915e3 cJx4a65c_elementData_915e3 2 (some (.object "java/lang/Object"))]
def wsL_anchor_r3 : List Cond := [Cond.fieldLink RJx4a65c 9 "java/util/ArrayList" "elementData" "[Ljava/lang/Object;", Cond.methodLink RX9 146 yX2_take, Cond.instanceMethod yX2_take, Cond.selects RX2 yX2_take yX2_take, Cond.code yX2_take cX2_take 5 (some .int), Cond.classLink RX2 26 RX0, Cond.instantiable RX0 2, Cond.initialized RX0, Cond.methodLink RX2 35 yX0_init, Cond.instanceMethod yX0_init, Cond.code yX0_init cX0_init 5 none, Cond.methodLink RX0 1 objectInit, Cond.instanceMethod objectInit, Cond.code objectInit ⟨#[0xb1]⟩ 1 none, Cond.fieldLink RX0 7 "Craterclock$Anchor" "years" "J", Cond.fieldLink RX0 13 "Craterclock$Anchor" "density" "J", Cond.methodLink RX2 38 yJx4a65c_add_9ea2d, Cond.instanceMethod yJx4a65c_add_9ea2d, Cond.selects RJx4a65c yJx4a65c_add_9ea2d yJx4a65c_add_9ea2d, Cond.code yJx4a65c_add_9ea2d cJx4a65c_add_9ea2d 2 (some .boolean), Cond.fieldLink RJx4a65c 63 "java/util/ArrayList" "modCount" "I", Cond.sameField "java/util/ArrayList" "java/util/AbstractList" "modCount" "I", Cond.methodLink RJx4a65c 131 yJx4a65c_add_72be8, Cond.instanceMethod yJx4a65c_add_72be8]
def wsL_anchor_r4 : List Cond := [Cond.selects RJx4a65c yJx4a65c_add_72be8 yJx4a65c_add_72be8, Cond.code yJx4a65c_add_72be8 cJx4a65c_add_72be8 4 none, Cond.methodLink RJx4a65c 129 yJx4a65c_grow_d5877, Cond.instanceMethod yJx4a65c_grow_d5877, Cond.selects RJx4a65c yJx4a65c_grow_d5877 yJx4a65c_grow_d5877, Cond.code yJx4a65c_grow_d5877 cJx4a65c_grow_d5877 1 (some (.array (.object "java/lang/Object"))), Cond.methodLink RJx4a65c 69 yJx4a65c_grow_92f84, Cond.instanceMethod yJx4a65c_grow_92f84, Cond.selects RJx4a65c yJx4a65c_grow_92f84 yJx4a65c_grow_92f84, Cond.code yJx4a65c_grow_92f84 cJx4a65c_grow_92f84 4 (some (.array (.object "java/lang/Object"))), Cond.fieldLink RJx4a65c 39 "java/util/ArrayList" "DEFAULTCAPACITY_EMPTY_ELEMENTDATA" "[Ljava/lang/Object;", Cond.methodLink RJx4a65c 79 Lib.Math.max.name, Cond.static Lib.Math.max.name, Cond.initialized "java/lang/Math", Cond.code Lib.Math.max.name Lib.Math.max.code 2 (some .int), Cond.classLink RJx4a65c 7 "java/lang/Object", Cond.methodLink RJx4a65c 73 yJ8_newLength_cabcc, Cond.static yJ8_newLength_cabcc, Cond.initialized RJ8, Cond.code yJ8_newLength_cabcc cJ8_newLength_cabcc 4 (some .int), Cond.methodLink RJ8 194 Lib.Math.max.name, Cond.constant RJ8 200 (2147483639), Cond.methodLink RJ8 201 yJ8_hugeLength_7cf53, Cond.static yJ8_hugeLength_7cf53]
def wsL_anchor_r5 : List Cond := [Cond.code yJ8_hugeLength_7cf53 cJ8_hugeLength_7cf53 3 (some .int), Cond.methodLink RJx4a65c 66 yJ7_copyOf_1904c, Cond.static yJ7_copyOf_1904c, Cond.initialized RJ7, Cond.code yJ7_copyOf_1904c cJ7_copyOf_1904c 2 (some (.array (.object "java/lang/Object"))), Cond.methodLink RJ7 86 ⟨"java/lang/Object", "getClass", "()Ljava/lang/Class;"⟩, Cond.selects "[Ljava/lang/Object;" ⟨"java/lang/Object", "getClass", "()Ljava/lang/Class;"⟩ ⟨"java/lang/Object", "getClass", "()Ljava/lang/Class;"⟩, Cond.instanceMethod ⟨"java/lang/Object", "getClass", "()Ljava/lang/Class;"⟩, Cond.native ⟨"java/lang/Object", "getClass", "()Ljava/lang/Class;"⟩, Cond.methodLink RJ7 300 yJ7_copyOf_6403c, Cond.static yJ7_copyOf_6403c, Cond.code yJ7_copyOf_6403c cJ7_copyOf_6403c 4 (some (.array (.object "java/lang/Object"))), Cond.classLink RJ7 110 "[Ljava/lang/Object;", Cond.classLink RJ7 2 "java/lang/Object", Cond.methodLink RJ7 304 Lib.Math.min.name, Cond.static Lib.Math.min.name, Cond.code Lib.Math.min.name Lib.Math.min.code 2 (some .int), Cond.methodLink RJ7 150 arraycopyName, Cond.native arraycopyName, Cond.static arraycopyName, Cond.initialized "java/lang/System"]
def wsL_anchor : List Cond := .codeWith yL_anchor cL_anchor 7 (some .int) [(0, 11, 14, 15), (0, 11, 18, 20)] :: ((wsL_anchor_r1 ++ (wsL_anchor_r2 ++ (wsL_anchor_r3 ++ (wsL_anchor_r4 ++ wsL_anchor_r5)))) ++ wsX90 ++ wsX20 ++ wsX00 ++ wsJx4a65c0 ++ (vx_atS RX9 125 "java/lang/IllegalStateException" ["java/lang/RuntimeException", "java/lang/Exception"]).filter goodWord ++ (vx_atS RX9 258 "java/lang/IllegalArgumentException" ["java/lang/RuntimeException", "java/lang/Exception"]).filter goodWord)
def wsL_count_r1 : List Cond := [Cond.classLink RL 13 "java/lang/IndexOutOfBoundsException", Cond.classLink RL 15 "java/lang/IllegalArgumentException", Cond.methodLink RL 43 yX9_count, Cond.instanceMethod yX9_count, Cond.selects RX9 yX9_count yX9_count, Cond.initialized RX9, Cond.code yX9_count cX9_count 7 (some .int), Cond.constantLong RX9 154 (7), Cond.classLink RX9 99 RX4, Cond.instantiable RX4 4, Cond.initialized RX4, Cond.methodLink RX9 150 yX9_requireEyeAndCells, Cond.instanceMethod yX9_requireEyeAndCells, Cond.selects RX9 yX9_requireEyeAndCells yX9_requireEyeAndCells, Cond.code yX9_requireEyeAndCells cX9_requireEyeAndCells 6 none, Cond.classLink RX9 245 "java/lang/IndexOutOfBoundsException", Cond.initialized "java/lang/IndexOutOfBoundsException", Cond.fieldLink RX9 28 "Craterclock" "eyes" "Ljava/util/ArrayList;", Cond.methodLink RX9 96 yJx4a65c_size_8abf5, Cond.instanceMethod yJx4a65c_size_8abf5, Cond.selects RJx4a65c yJx4a65c_size_8abf5 yJx4a65c_size_8abf5, Cond.initialized RJx4a65c, Cond.code yJx4a65c_size_8abf5 cJx4a65c_size_8abf5 1 (some .int), Cond.fieldLink RJx4a65c 48 "java/util/ArrayList" "size" "I"]
def wsL_count_r2 : List Cond := [Cond.methodLink RX9 42 yX9_requireCell, Cond.static yX9_requireCell, Cond.code yX9_requireCell cX9_requireCell 2 none, Cond.methodLink RX9 48 yX9_requireRange, Cond.static yX9_requireRange, Cond.code yX9_requireRange cX9_requireRange 6 none, Cond.classLink RX9 254 "java/lang/IllegalArgumentException", Cond.initialized "java/lang/IllegalArgumentException", Cond.methodLink RX9 87 yX9_requireOrder, Cond.static yX9_requireOrder, Cond.code yX9_requireOrder cX9_requireOrder 4 none, Cond.methodLink RX9 101 yX4_init, Cond.instanceMethod yX4_init, Cond.code yX4_init cX4_init 5 none, Cond.methodLink RX4 1 objectInit, Cond.instanceMethod objectInit, Cond.code objectInit ⟨#[0xb1]⟩ 1 none, Cond.fieldLink RX4 7 "Craterclock$Field" "x" "I", Cond.fieldLink RX4 13 "Craterclock$Field" "y" "I", Cond.fieldLink RX4 16 "Craterclock$Field" "toX" "I", Cond.fieldLink RX4 19 "Craterclock$Field" "toY" "I", Cond.methodLink RX9 156 yX9_countSeen, Cond.instanceMethod yX9_countSeen, Cond.selects RX9 yX9_countSeen yX9_countSeen]
def wsL_count_r3 : List Cond := [Cond.code yX9_countSeen cX9_countSeen 8 (some .int), Cond.classLink RX9 128 "Craterclock$Eye", Cond.fieldLink RX9 21 "Craterclock" "fallen" "Ljava/util/ArrayList;", Cond.classLink RX9 183 "Craterclock$Crater", Cond.fieldLink RX9 191 "Craterclock$Crater" "radius" "I", Cond.fieldLink RX9 185 "Craterclock$Crater" "x" "I", Cond.fieldLink RX9 188 "Craterclock$Crater" "y" "I", Cond.methodLink RX9 179 yJx4a65c_get_915e3, Cond.instanceMethod yJx4a65c_get_915e3, Cond.selects RJx4a65c yJx4a65c_get_915e3 yJx4a65c_get_915e3, Cond.code yJx4a65c_get_915e3 cJx4a65c_get_915e3 2 (some (.object "java/lang/Object")), Cond.methodLink RJx4a65c 118 yJ15_checkIndex_7cf53, Cond.static yJ15_checkIndex_7cf53, Cond.initialized RJ15, Cond.code yJ15_checkIndex_7cf53 cJ15_checkIndex_7cf53 2 (some .int), Cond.methodLink RJ15 105 yJ3_checkIndex_8e157, Cond.static yJ3_checkIndex_8e157, Cond.initialized RJ3, Cond.code yJ3_checkIndex_8e157 cJ3_checkIndex_8e157 3 (some .int), Cond.methodLink RJx4a65c 123 yJx4a65c_elementData_915e3, Cond.instanceMethod yJx4a65c_elementData_915e3, Cond.selects RJx4a65c yJx4a65c_elementData_915e3 yJx4a65c_elementData_915e3, Cond.code yJx4a65c_elementData_915e3 cJx4a65c_elementData_915e3 2 (some (.object "java/lang/Object")), Cond.fieldLink RJx4a65c 9 "java/util/ArrayList" "elementData" "[Ljava/lang/Object;"]
def wsL_count_r4 : List Cond := [Cond.methodLink RX9 230 yX4_has, Cond.instanceMethod yX4_has, Cond.selects RX4 yX4_has yX4_has, Cond.code yX4_has cX4_has 3 (some .boolean), Cond.methodLink RX9 233 yX3_sees, Cond.instanceMethod yX3_sees, Cond.selects RX3 yX3_sees yX3_sees, Cond.initialized RX3, Cond.code yX3_sees cX3_sees 2 (some .boolean), Cond.fieldLink RX3 13 "Craterclock$Crater" "depth" "I", Cond.fieldLink RX3 7 "Craterclock$Eye" "skill" "I"]
def wsL_count : List Cond := .codeWith yL_count cL_count 9 (some .int) [(0, 18, 21, 13), (0, 18, 25, 15)] :: ((wsL_count_r1 ++ (wsL_count_r2 ++ (wsL_count_r3 ++ wsL_count_r4))) ++ wsX40 ++ wsX90 ++ wsJx4a65c0 ++ wsX10 ++ wsX30 ++ (vx_atS RX9 249 "java/lang/IndexOutOfBoundsException" ["java/lang/RuntimeException", "java/lang/Exception"]).filter goodWord ++ (vx_atS RX9 258 "java/lang/IllegalArgumentException" ["java/lang/RuntimeException", "java/lang/Exception"]).filter goodWord)
def wsL_age_r1 : List Cond := [Cond.classLink RL 13 "java/lang/IndexOutOfBoundsException", Cond.classLink RL 15 "java/lang/IllegalArgumentException", Cond.classLink RL 20 "java/lang/IllegalStateException", Cond.methodLink RL 47 yX9_age, Cond.instanceMethod yX9_age, Cond.selects RX9 yX9_age yX9_age, Cond.initialized RX9, Cond.code yX9_age cX9_age 8 (some .long), Cond.classLink RX9 121 "java/lang/IllegalStateException", Cond.initialized "java/lang/IllegalStateException", Cond.classLink RX9 99 RX4, Cond.instantiable RX4 4, Cond.initialized RX4, Cond.fieldLink RX9 34 "Craterclock" "curve" "LCraterclock$Curve;", Cond.methodLink RX9 150 yX9_requireEyeAndCells, Cond.instanceMethod yX9_requireEyeAndCells, Cond.selects RX9 yX9_requireEyeAndCells yX9_requireEyeAndCells, Cond.code yX9_requireEyeAndCells cX9_requireEyeAndCells 6 none, Cond.classLink RX9 245 "java/lang/IndexOutOfBoundsException", Cond.initialized "java/lang/IndexOutOfBoundsException", Cond.fieldLink RX9 28 "Craterclock" "eyes" "Ljava/util/ArrayList;", Cond.methodLink RX9 96 yJx4a65c_size_8abf5, Cond.instanceMethod yJx4a65c_size_8abf5, Cond.selects RJx4a65c yJx4a65c_size_8abf5 yJx4a65c_size_8abf5]
def wsL_age_r2 : List Cond := [Cond.initialized RJx4a65c, Cond.code yJx4a65c_size_8abf5 cJx4a65c_size_8abf5 1 (some .int), Cond.fieldLink RJx4a65c 48 "java/util/ArrayList" "size" "I", Cond.methodLink RX9 42 yX9_requireCell, Cond.static yX9_requireCell, Cond.code yX9_requireCell cX9_requireCell 2 none, Cond.methodLink RX9 87 yX9_requireOrder, Cond.static yX9_requireOrder, Cond.code yX9_requireOrder cX9_requireOrder 4 none, Cond.classLink RX9 254 "java/lang/IllegalArgumentException", Cond.initialized "java/lang/IllegalArgumentException", Cond.methodLink RX9 101 yX4_init, Cond.instanceMethod yX4_init, Cond.code yX4_init cX4_init 5 none, Cond.methodLink RX4 1 objectInit, Cond.instanceMethod objectInit, Cond.code objectInit ⟨#[0xb1]⟩ 1 none, Cond.fieldLink RX4 7 "Craterclock$Field" "x" "I", Cond.fieldLink RX4 13 "Craterclock$Field" "y" "I", Cond.fieldLink RX4 16 "Craterclock$Field" "toX" "I", Cond.fieldLink RX4 19 "Craterclock$Field" "toY" "I", Cond.methodLink RX9 160 yX9_densitySeen, Cond.instanceMethod yX9_densitySeen, Cond.selects RX9 yX9_densitySeen yX9_densitySeen]
def wsL_age_r3 : List Cond := [Cond.code yX9_densitySeen cX9_densitySeen 3 (some .long), Cond.constantLong RX9 237 (256000), Cond.methodLink RX9 156 yX9_countSeen, Cond.instanceMethod yX9_countSeen, Cond.selects RX9 yX9_countSeen yX9_countSeen, Cond.code yX9_countSeen cX9_countSeen 8 (some .int), Cond.classLink RX9 128 "Craterclock$Eye", Cond.fieldLink RX9 21 "Craterclock" "fallen" "Ljava/util/ArrayList;", Cond.classLink RX9 183 "Craterclock$Crater", Cond.fieldLink RX9 191 "Craterclock$Crater" "radius" "I", Cond.fieldLink RX9 185 "Craterclock$Crater" "x" "I", Cond.fieldLink RX9 188 "Craterclock$Crater" "y" "I", Cond.methodLink RX9 179 yJx4a65c_get_915e3, Cond.instanceMethod yJx4a65c_get_915e3, Cond.selects RJx4a65c yJx4a65c_get_915e3 yJx4a65c_get_915e3, Cond.code yJx4a65c_get_915e3 cJx4a65c_get_915e3 2 (some (.object "java/lang/Object")), Cond.methodLink RJx4a65c 118 yJ15_checkIndex_7cf53, Cond.static yJ15_checkIndex_7cf53, Cond.initialized RJ15, Cond.code yJ15_checkIndex_7cf53 cJ15_checkIndex_7cf53 2 (some .int), Cond.methodLink RJ15 105 yJ3_checkIndex_8e157, Cond.static yJ3_checkIndex_8e157, Cond.initialized RJ3, Cond.code yJ3_checkIndex_8e157 cJ3_checkIndex_8e157 3 (some .int)]
def wsL_age_r4 : List Cond := [Cond.methodLink RJx4a65c 123 yJx4a65c_elementData_915e3, Cond.instanceMethod yJx4a65c_elementData_915e3, Cond.selects RJx4a65c yJx4a65c_elementData_915e3 yJx4a65c_elementData_915e3, Cond.code yJx4a65c_elementData_915e3 cJx4a65c_elementData_915e3 2 (some (.object "java/lang/Object")), Cond.fieldLink RJx4a65c 9 "java/util/ArrayList" "elementData" "[Ljava/lang/Object;", Cond.methodLink RX9 230 yX4_has, Cond.instanceMethod yX4_has, Cond.selects RX4 yX4_has yX4_has, Cond.code yX4_has cX4_has 3 (some .boolean), Cond.methodLink RX9 233 yX3_sees, Cond.instanceMethod yX3_sees, Cond.selects RX3 yX3_sees yX3_sees, Cond.initialized RX3, Cond.code yX3_sees cX3_sees 2 (some .boolean), Cond.fieldLink RX3 13 "Craterclock$Crater" "depth" "I", Cond.fieldLink RX3 7 "Craterclock$Eye" "skill" "I", Cond.methodLink RX9 239 yX4_cells, Cond.instanceMethod yX4_cells, Cond.selects RX4 yX4_cells yX4_cells, Cond.code yX4_cells cX4_cells 1 (some .int), Cond.methodLink RX9 241 yX2_dividedDown, Cond.static yX2_dividedDown, Cond.initialized RX2, Cond.code yX2_dividedDown cX2_dividedDown 4 (some .long)]
def wsL_age_r5 : List Cond := [Cond.methodLink RX9 164 yX2_lackFor, Cond.instanceMethod yX2_lackFor, Cond.selects RX2 yX2_lackFor yX2_lackFor, Cond.code yX2_lackFor cX2_lackFor 4 (some .int), Cond.fieldLink RX2 12 "Craterclock$Curve" "anchors" "Ljava/util/ArrayList;", Cond.classLink RX2 26 "Craterclock$Anchor", Cond.fieldLink RX2 32 "Craterclock$Anchor" "density" "J", Cond.methodLink RX2 18 yJx4a65c_size_8abf5, Cond.methodLink RX2 22 yJx4a65c_get_915e3, Cond.methodLink RX9 170 yX2_yearsOf, Cond.instanceMethod yX2_yearsOf, Cond.selects RX2 yX2_yearsOf yX2_yearsOf, Cond.code yX2_yearsOf cX2_yearsOf 11 (some .long), Cond.fieldLink RX2 28 "Craterclock$Anchor" "years" "J", Cond.methodLink RX2 42 yX2_dividedDown]
def wsL_age : List Cond := .codeWith yL_age cL_age 8 (some .int) [(0, 15, 18, 13), (0, 15, 22, 15), (0, 15, 26, 20)] :: ((wsL_age_r1 ++ (wsL_age_r2 ++ (wsL_age_r3 ++ (wsL_age_r4 ++ wsL_age_r5)))) ++ wsX40 ++ wsX90 ++ wsJx4a65c0 ++ wsX10 ++ wsX30 ++ wsX20 ++ wsX00 ++ (vx_atS RX9 125 "java/lang/IllegalStateException" ["java/lang/RuntimeException", "java/lang/Exception"]).filter goodWord ++ (vx_atS RX9 249 "java/lang/IndexOutOfBoundsException" ["java/lang/RuntimeException", "java/lang/Exception"]).filter goodWord ++ (vx_atS RX9 258 "java/lang/IllegalArgumentException" ["java/lang/RuntimeException", "java/lang/Exception"]).filter goodWord)
def wsL_whyNot_r1 : List Cond := [Cond.classLink RL 13 "java/lang/IndexOutOfBoundsException", Cond.classLink RL 15 "java/lang/IllegalArgumentException", Cond.methodLink RL 51 yX9_whyNot, Cond.instanceMethod yX9_whyNot, Cond.selects RX9 yX9_whyNot yX9_whyNot, Cond.initialized RX9, Cond.code yX9_whyNot cX9_whyNot 6 (some .int), Cond.fieldLink RX9 34 "Craterclock" "curve" "LCraterclock$Curve;", Cond.classLink RX9 99 RX4, Cond.instantiable RX4 4, Cond.initialized RX4, Cond.methodLink RX9 150 yX9_requireEyeAndCells, Cond.instanceMethod yX9_requireEyeAndCells, Cond.selects RX9 yX9_requireEyeAndCells yX9_requireEyeAndCells, Cond.code yX9_requireEyeAndCells cX9_requireEyeAndCells 6 none, Cond.classLink RX9 245 "java/lang/IndexOutOfBoundsException", Cond.initialized "java/lang/IndexOutOfBoundsException", Cond.fieldLink RX9 28 "Craterclock" "eyes" "Ljava/util/ArrayList;", Cond.methodLink RX9 96 yJx4a65c_size_8abf5, Cond.instanceMethod yJx4a65c_size_8abf5, Cond.selects RJx4a65c yJx4a65c_size_8abf5 yJx4a65c_size_8abf5, Cond.initialized RJx4a65c, Cond.code yJx4a65c_size_8abf5 cJx4a65c_size_8abf5 1 (some .int), Cond.fieldLink RJx4a65c 48 "java/util/ArrayList" "size" "I"]
def wsL_whyNot_r2 : List Cond := [Cond.methodLink RX9 42 yX9_requireCell, Cond.static yX9_requireCell, Cond.code yX9_requireCell cX9_requireCell 2 none, Cond.methodLink RX9 87 yX9_requireOrder, Cond.static yX9_requireOrder, Cond.code yX9_requireOrder cX9_requireOrder 4 none, Cond.classLink RX9 254 "java/lang/IllegalArgumentException", Cond.initialized "java/lang/IllegalArgumentException", Cond.methodLink RX9 101 yX4_init, Cond.instanceMethod yX4_init, Cond.code yX4_init cX4_init 5 none, Cond.methodLink RX4 1 objectInit, Cond.instanceMethod objectInit, Cond.code objectInit ⟨#[0xb1]⟩ 1 none, Cond.fieldLink RX4 7 "Craterclock$Field" "x" "I", Cond.fieldLink RX4 13 "Craterclock$Field" "y" "I", Cond.fieldLink RX4 16 "Craterclock$Field" "toX" "I", Cond.fieldLink RX4 19 "Craterclock$Field" "toY" "I", Cond.methodLink RX9 160 yX9_densitySeen, Cond.instanceMethod yX9_densitySeen, Cond.selects RX9 yX9_densitySeen yX9_densitySeen, Cond.code yX9_densitySeen cX9_densitySeen 3 (some .long), Cond.constantLong RX9 237 (256000), Cond.methodLink RX9 156 yX9_countSeen]
def wsL_whyNot_r3 : List Cond := [Cond.instanceMethod yX9_countSeen, Cond.selects RX9 yX9_countSeen yX9_countSeen, Cond.code yX9_countSeen cX9_countSeen 8 (some .int), Cond.classLink RX9 128 "Craterclock$Eye", Cond.fieldLink RX9 21 "Craterclock" "fallen" "Ljava/util/ArrayList;", Cond.classLink RX9 183 "Craterclock$Crater", Cond.fieldLink RX9 191 "Craterclock$Crater" "radius" "I", Cond.fieldLink RX9 185 "Craterclock$Crater" "x" "I", Cond.fieldLink RX9 188 "Craterclock$Crater" "y" "I", Cond.methodLink RX9 179 yJx4a65c_get_915e3, Cond.instanceMethod yJx4a65c_get_915e3, Cond.selects RJx4a65c yJx4a65c_get_915e3 yJx4a65c_get_915e3, Cond.code yJx4a65c_get_915e3 cJx4a65c_get_915e3 2 (some (.object "java/lang/Object")), Cond.methodLink RJx4a65c 118 yJ15_checkIndex_7cf53, Cond.static yJ15_checkIndex_7cf53, Cond.initialized RJ15, Cond.code yJ15_checkIndex_7cf53 cJ15_checkIndex_7cf53 2 (some .int), Cond.methodLink RJ15 105 yJ3_checkIndex_8e157, Cond.static yJ3_checkIndex_8e157, Cond.initialized RJ3, Cond.code yJ3_checkIndex_8e157 cJ3_checkIndex_8e157 3 (some .int), Cond.methodLink RJx4a65c 123 yJx4a65c_elementData_915e3, Cond.instanceMethod yJx4a65c_elementData_915e3, Cond.selects RJx4a65c yJx4a65c_elementData_915e3 yJx4a65c_elementData_915e3]
def wsL_whyNot_r4 : List Cond := [Cond.code yJx4a65c_elementData_915e3 cJx4a65c_elementData_915e3 2 (some (.object "java/lang/Object")), Cond.fieldLink RJx4a65c 9 "java/util/ArrayList" "elementData" "[Ljava/lang/Object;", Cond.methodLink RX9 230 yX4_has, Cond.instanceMethod yX4_has, Cond.selects RX4 yX4_has yX4_has, Cond.code yX4_has cX4_has 3 (some .boolean), Cond.methodLink RX9 233 yX3_sees, Cond.instanceMethod yX3_sees, Cond.selects RX3 yX3_sees yX3_sees, Cond.initialized RX3, Cond.code yX3_sees cX3_sees 2 (some .boolean), Cond.fieldLink RX3 13 "Craterclock$Crater" "depth" "I", Cond.fieldLink RX3 7 "Craterclock$Eye" "skill" "I", Cond.methodLink RX9 239 yX4_cells, Cond.instanceMethod yX4_cells, Cond.selects RX4 yX4_cells yX4_cells, Cond.code yX4_cells cX4_cells 1 (some .int), Cond.methodLink RX9 241 yX2_dividedDown, Cond.static yX2_dividedDown, Cond.initialized RX2, Cond.code yX2_dividedDown cX2_dividedDown 4 (some .long), Cond.methodLink RX9 164 yX2_lackFor, Cond.instanceMethod yX2_lackFor, Cond.selects RX2 yX2_lackFor yX2_lackFor]
def wsL_whyNot_r5 : List Cond := [Cond.code yX2_lackFor cX2_lackFor 4 (some .int), Cond.fieldLink RX2 12 "Craterclock$Curve" "anchors" "Ljava/util/ArrayList;", Cond.classLink RX2 26 "Craterclock$Anchor", Cond.fieldLink RX2 32 "Craterclock$Anchor" "density" "J", Cond.methodLink RX2 18 yJx4a65c_size_8abf5, Cond.methodLink RX2 22 yJx4a65c_get_915e3]
def wsL_whyNot : List Cond := .codeWith yL_whyNot cL_whyNot 8 (some .int) [(0, 16, 19, 13), (0, 16, 23, 15)] :: ((wsL_whyNot_r1 ++ (wsL_whyNot_r2 ++ (wsL_whyNot_r3 ++ (wsL_whyNot_r4 ++ wsL_whyNot_r5)))) ++ wsX90 ++ wsX40 ++ wsJx4a65c0 ++ wsX10 ++ wsX30 ++ wsX20 ++ wsX00 ++ (vx_atS RX9 249 "java/lang/IndexOutOfBoundsException" ["java/lang/RuntimeException", "java/lang/Exception"]).filter goodWord ++ (vx_atS RX9 258 "java/lang/IllegalArgumentException" ["java/lang/RuntimeException", "java/lang/Exception"]).filter goodWord)
def wsL_about_r1 : List Cond := [Cond.classLink RL 13 "java/lang/IndexOutOfBoundsException", Cond.classLink RL 15 "java/lang/IllegalArgumentException", Cond.methodLink RL 54 yX9_about, Cond.instanceMethod yX9_about, Cond.selects RX9 yX9_about yX9_about, Cond.initialized RX9, Cond.code yX9_about cX9_about 4 (some .int), Cond.constantLong RX9 177 (3), Cond.fieldLink RX9 21 "Craterclock" "fallen" "Ljava/util/ArrayList;", Cond.classLink RX9 183 "Craterclock$Crater", Cond.fieldLink RX9 185 "Craterclock$Crater" "x" "I", Cond.fieldLink RX9 188 "Craterclock$Crater" "y" "I", Cond.fieldLink RX9 191 "Craterclock$Crater" "radius" "I", Cond.fieldLink RX9 194 "Craterclock$Crater" "depth" "I", Cond.methodLink RX9 174 yX9_requireCrater, Cond.instanceMethod yX9_requireCrater, Cond.selects RX9 yX9_requireCrater yX9_requireCrater, Cond.code yX9_requireCrater cX9_requireCrater 2 none, Cond.classLink RX9 245 "java/lang/IndexOutOfBoundsException", Cond.initialized "java/lang/IndexOutOfBoundsException", Cond.methodLink RX9 96 yJx4a65c_size_8abf5, Cond.instanceMethod yJx4a65c_size_8abf5, Cond.selects RJx4a65c yJx4a65c_size_8abf5 yJx4a65c_size_8abf5, Cond.initialized RJx4a65c]
def wsL_about_r2 : List Cond := [Cond.code yJx4a65c_size_8abf5 cJx4a65c_size_8abf5 1 (some .int), Cond.fieldLink RJx4a65c 48 "java/util/ArrayList" "size" "I", Cond.methodLink RX9 48 yX9_requireRange, Cond.static yX9_requireRange, Cond.code yX9_requireRange cX9_requireRange 6 none, Cond.classLink RX9 254 "java/lang/IllegalArgumentException", Cond.initialized "java/lang/IllegalArgumentException", Cond.methodLink RX9 179 yJx4a65c_get_915e3, Cond.instanceMethod yJx4a65c_get_915e3, Cond.selects RJx4a65c yJx4a65c_get_915e3 yJx4a65c_get_915e3, Cond.code yJx4a65c_get_915e3 cJx4a65c_get_915e3 2 (some (.object "java/lang/Object")), Cond.methodLink RJx4a65c 118 yJ15_checkIndex_7cf53, Cond.static yJ15_checkIndex_7cf53, Cond.initialized RJ15, Cond.code yJ15_checkIndex_7cf53 cJ15_checkIndex_7cf53 2 (some .int), Cond.methodLink RJ15 105 yJ3_checkIndex_8e157, Cond.static yJ3_checkIndex_8e157, Cond.initialized RJ3, Cond.code yJ3_checkIndex_8e157 cJ3_checkIndex_8e157 3 (some .int), Cond.methodLink RJx4a65c 123 yJx4a65c_elementData_915e3, Cond.instanceMethod yJx4a65c_elementData_915e3, Cond.selects RJx4a65c yJx4a65c_elementData_915e3 yJx4a65c_elementData_915e3, Cond.code yJx4a65c_elementData_915e3 cJx4a65c_elementData_915e3 2 (some (.object "java/lang/Object")), Cond.fieldLink RJx4a65c 9 "java/util/ArrayList" "elementData" "[Ljava/lang/Object;"]
def wsL_about : List Cond := .codeWith yL_about cL_about 5 (some .int) [(0, 10, 13, 13), (0, 10, 17, 15)] :: ((wsL_about_r1 ++ wsL_about_r2) ++ wsX90 ++ wsX10 ++ wsJx4a65c0 ++ (vx_atS RX9 249 "java/lang/IndexOutOfBoundsException" ["java/lang/RuntimeException", "java/lang/Exception"]).filter goodWord ++ (vx_atS RX9 258 "java/lang/IllegalArgumentException" ["java/lang/RuntimeException", "java/lang/Exception"]).filter goodWord)
def wsL_depthAnew_r1 : List Cond := [Cond.classLink RL 13 "java/lang/IndexOutOfBoundsException", Cond.methodLink RL 58 yX9_depthAnew, Cond.instanceMethod yX9_depthAnew, Cond.selects RX9 yX9_depthAnew yX9_depthAnew, Cond.initialized RX9, Cond.code yX9_depthAnew cX9_depthAnew 2 (some .int), Cond.methodLink RX9 174 yX9_requireCrater, Cond.instanceMethod yX9_requireCrater, Cond.selects RX9 yX9_requireCrater yX9_requireCrater, Cond.code yX9_requireCrater cX9_requireCrater 2 none, Cond.classLink RX9 245 "java/lang/IndexOutOfBoundsException", Cond.initialized "java/lang/IndexOutOfBoundsException", Cond.fieldLink RX9 21 "Craterclock" "fallen" "Ljava/util/ArrayList;", Cond.methodLink RX9 96 yJx4a65c_size_8abf5, Cond.instanceMethod yJx4a65c_size_8abf5, Cond.selects RJx4a65c yJx4a65c_size_8abf5 yJx4a65c_size_8abf5, Cond.initialized RJx4a65c, Cond.code yJx4a65c_size_8abf5 cJx4a65c_size_8abf5 1 (some .int), Cond.fieldLink RJx4a65c 48 "java/util/ArrayList" "size" "I", Cond.methodLink RX9 197 yX9_depthOnceMore, Cond.instanceMethod yX9_depthOnceMore, Cond.selects RX9 yX9_depthOnceMore yX9_depthOnceMore, Cond.code yX9_depthOnceMore cX9_depthOnceMore 6 (some .int), Cond.classLink RX9 183 "Craterclock$Crater"]
def wsL_depthAnew_r2 : List Cond := [Cond.fieldLink RX9 219 "Craterclock$Crater" "firstDepth" "I", Cond.fieldLink RX9 25 "Craterclock" "lessenings" "Ljava/util/ArrayList;", Cond.classLink RX9 215 "Craterclock$Lessening", Cond.fieldLink RX9 222 "Craterclock$Lessening" "cratersThen" "I", Cond.methodLink RX9 225 Lib.Math.max.name, Cond.static Lib.Math.max.name, Cond.initialized "java/lang/Math", Cond.code Lib.Math.max.name Lib.Math.max.code 2 (some .int), Cond.methodLink RX9 179 yJx4a65c_get_915e3, Cond.instanceMethod yJx4a65c_get_915e3, Cond.selects RJx4a65c yJx4a65c_get_915e3 yJx4a65c_get_915e3, Cond.code yJx4a65c_get_915e3 cJx4a65c_get_915e3 2 (some (.object "java/lang/Object")), Cond.methodLink RJx4a65c 118 yJ15_checkIndex_7cf53, Cond.static yJ15_checkIndex_7cf53, Cond.initialized RJ15, Cond.code yJ15_checkIndex_7cf53 cJ15_checkIndex_7cf53 2 (some .int), Cond.methodLink RJ15 105 yJ3_checkIndex_8e157, Cond.static yJ3_checkIndex_8e157, Cond.initialized RJ3, Cond.code yJ3_checkIndex_8e157 cJ3_checkIndex_8e157 3 (some .int), Cond.methodLink RJx4a65c 123 yJx4a65c_elementData_915e3, Cond.instanceMethod yJx4a65c_elementData_915e3, Cond.selects RJx4a65c yJx4a65c_elementData_915e3 yJx4a65c_elementData_915e3, Cond.code yJx4a65c_elementData_915e3 cJx4a65c_elementData_915e3 2 (some (.object "java/lang/Object"))]
def wsL_depthAnew_r3 : List Cond := [Cond.fieldLink RJx4a65c 9 "java/util/ArrayList" "elementData" "[Ljava/lang/Object;", Cond.methodLink RX9 205 yX1_lossBy, Cond.instanceMethod yX1_lossBy, Cond.selects RX1 yX1_lossBy yX1_lossBy, Cond.initialized RX1, Cond.code yX1_lossBy cX1_lossBy 2 (some .int), Cond.fieldLink RX1 25 "Craterclock$Crater" "radius" "I", Cond.fieldLink RX1 9 "Craterclock$Crater" "x" "I", Cond.fieldLink RX1 15 "Craterclock$Crater" "y" "I", Cond.fieldLink RX1 31 "Craterclock$Crater" "firstDepth" "I", Cond.fieldLink RX1 18 "Craterclock$Crater" "size" "I", Cond.methodLink RX1 42 yX1_isWithin, Cond.instanceMethod yX1_isWithin, Cond.selects RX1 yX1_isWithin yX1_isWithin, Cond.code yX1_isWithin cX1_isWithin 6 (some .boolean), Cond.methodLink RX9 214 ⟨"Craterclock$Lessening", "lossOf", "(LCraterclock$Crater;)I"⟩, Cond.sameMethod "Craterclock$Lessening" "Craterclock$Lessening" "lossOf" "(LCraterclock$Crater;)I", Cond.selects RX5 ⟨"Craterclock$Lessening", "lossOf", "(LCraterclock$Crater;)I"⟩ yX5_lossOf, Cond.instanceMethod yX5_lossOf, Cond.initialized RX5, Cond.code yX5_lossOf cX5_lossOf 2 (some .int), Cond.fieldLink RX5 7 "Craterclock$Flood" "field" "LCraterclock$Field;", Cond.fieldLink RX5 17 "Craterclock$Crater" "x" "I", Cond.fieldLink RX5 22 "Craterclock$Crater" "y" "I"]
def wsL_depthAnew_r4 : List Cond := [Cond.fieldLink RX5 13 "Craterclock$Flood" "thick" "I", Cond.methodLink RX5 25 yX4_has, Cond.instanceMethod yX4_has, Cond.selects RX4 yX4_has yX4_has, Cond.initialized RX4, Cond.code yX4_has cX4_has 3 (some .boolean), Cond.fieldLink RX4 7 "Craterclock$Field" "x" "I", Cond.fieldLink RX4 16 "Craterclock$Field" "toX" "I", Cond.fieldLink RX4 13 "Craterclock$Field" "y" "I", Cond.fieldLink RX4 19 "Craterclock$Field" "toY" "I", Cond.selects RX8 ⟨"Craterclock$Lessening", "lossOf", "(LCraterclock$Crater;)I"⟩ yX8_lossOf, Cond.instanceMethod yX8_lossOf, Cond.initialized RX8, Cond.code yX8_lossOf cX8_lossOf 2 (some .int), Cond.fieldLink RX8 9 "Craterclock$Softening" "cellsThen" "LCraterclock$Ground;", Cond.fieldLink RX8 19 "Craterclock$Crater" "x" "I", Cond.fieldLink RX8 24 "Craterclock$Crater" "y" "I", Cond.fieldLink RX8 15 "Craterclock$Softening" "steps" "I", Cond.methodLink RX8 27 yX6_kindAt, Cond.instanceMethod yX6_kindAt, Cond.selects RX6 yX6_kindAt yX6_kindAt, Cond.initialized RX6, Cond.code yX6_kindAt cX6_kindAt 3 (some .int), Cond.fieldLink RX6 9 "Craterclock$Ground" "rows" "[I"]
def wsL_depthAnew : List Cond := .codeWith yL_depthAnew cL_depthAnew 4 (some .int) [(0, 9, 12, 13)] :: ((wsL_depthAnew_r1 ++ (wsL_depthAnew_r2 ++ (wsL_depthAnew_r3 ++ wsL_depthAnew_r4))) ++ wsX90 ++ wsJx4a65c0 ++ wsX10 ++ wsX50 ++ wsX80 ++ wsX40 ++ wsX60 ++ (vx_atS RX9 249 "java/lang/IndexOutOfBoundsException" ["java/lang/RuntimeException", "java/lang/Exception"]).filter goodWord)
def wsL_top_r1 : List Cond := [Cond.classLink RL 13 "java/lang/IndexOutOfBoundsException", Cond.methodLink RL 61 yX9_top, Cond.instanceMethod yX9_top, Cond.selects RX9 yX9_top yX9_top, Cond.initialized RX9, Cond.code yX9_top cX9_top 5 (some .int), Cond.fieldLink RX9 21 "Craterclock" "fallen" "Ljava/util/ArrayList;", Cond.classLink RX9 183 "Craterclock$Crater", Cond.fieldLink RX9 194 "Craterclock$Crater" "depth" "I", Cond.methodLink RX9 42 yX9_requireCell, Cond.static yX9_requireCell, Cond.code yX9_requireCell cX9_requireCell 2 none, Cond.classLink RX9 245 "java/lang/IndexOutOfBoundsException", Cond.initialized "java/lang/IndexOutOfBoundsException", Cond.methodLink RX9 96 yJx4a65c_size_8abf5, Cond.instanceMethod yJx4a65c_size_8abf5, Cond.selects RJx4a65c yJx4a65c_size_8abf5 yJx4a65c_size_8abf5, Cond.initialized RJx4a65c, Cond.code yJx4a65c_size_8abf5 cJx4a65c_size_8abf5 1 (some .int), Cond.fieldLink RJx4a65c 48 "java/util/ArrayList" "size" "I", Cond.methodLink RX9 179 yJx4a65c_get_915e3, Cond.instanceMethod yJx4a65c_get_915e3, Cond.selects RJx4a65c yJx4a65c_get_915e3 yJx4a65c_get_915e3, Cond.code yJx4a65c_get_915e3 cJx4a65c_get_915e3 2 (some (.object "java/lang/Object"))]
def wsL_top_r2 : List Cond := [Cond.methodLink RJx4a65c 118 yJ15_checkIndex_7cf53, Cond.static yJ15_checkIndex_7cf53, Cond.initialized RJ15, Cond.code yJ15_checkIndex_7cf53 cJ15_checkIndex_7cf53 2 (some .int), Cond.methodLink RJ15 105 yJ3_checkIndex_8e157, Cond.static yJ3_checkIndex_8e157, Cond.initialized RJ3, Cond.code yJ3_checkIndex_8e157 cJ3_checkIndex_8e157 3 (some .int), Cond.methodLink RJx4a65c 123 yJx4a65c_elementData_915e3, Cond.instanceMethod yJx4a65c_elementData_915e3, Cond.selects RJx4a65c yJx4a65c_elementData_915e3 yJx4a65c_elementData_915e3, Cond.code yJx4a65c_elementData_915e3 cJx4a65c_elementData_915e3 2 (some (.object "java/lang/Object")), Cond.fieldLink RJx4a65c 9 "java/util/ArrayList" "elementData" "[Ljava/lang/Object;", Cond.methodLink RX9 200 yX1_covers, Cond.instanceMethod yX1_covers, Cond.selects RX1 yX1_covers yX1_covers, Cond.initialized RX1, Cond.code yX1_covers cX1_covers 3 (some .boolean), Cond.fieldLink RX1 25 "Craterclock$Crater" "radius" "I", Cond.methodLink RX1 42 yX1_isWithin, Cond.instanceMethod yX1_isWithin, Cond.selects RX1 yX1_isWithin yX1_isWithin, Cond.code yX1_isWithin cX1_isWithin 6 (some .boolean), Cond.fieldLink RX1 9 "Craterclock$Crater" "x" "I"]
def wsL_top_r3 : List Cond := [Cond.fieldLink RX1 15 "Craterclock$Crater" "y" "I"]
def wsL_top : List Cond := .codeWith yL_top cL_top 5 (some .int) [(0, 10, 13, 13)] :: ((wsL_top_r1 ++ (wsL_top_r2 ++ wsL_top_r3)) ++ wsX90 ++ wsX10 ++ wsJx4a65c0 ++ (vx_atS RX9 249 "java/lang/IndexOutOfBoundsException" ["java/lang/RuntimeException", "java/lang/Exception"]).filter goodWord)
def wsL_topAnew_r1 : List Cond := [Cond.classLink RL 13 "java/lang/IndexOutOfBoundsException", Cond.methodLink RL 64 yX9_topAnew, Cond.instanceMethod yX9_topAnew, Cond.selects RX9 yX9_topAnew yX9_topAnew, Cond.initialized RX9, Cond.code yX9_topAnew cX9_topAnew 4 (some .int), Cond.fieldLink RX9 21 "Craterclock" "fallen" "Ljava/util/ArrayList;", Cond.classLink RX9 183 "Craterclock$Crater", Cond.methodLink RX9 42 yX9_requireCell, Cond.static yX9_requireCell, Cond.code yX9_requireCell cX9_requireCell 2 none, Cond.classLink RX9 245 "java/lang/IndexOutOfBoundsException", Cond.initialized "java/lang/IndexOutOfBoundsException", Cond.methodLink RX9 96 yJx4a65c_size_8abf5, Cond.instanceMethod yJx4a65c_size_8abf5, Cond.selects RJx4a65c yJx4a65c_size_8abf5 yJx4a65c_size_8abf5, Cond.initialized RJx4a65c, Cond.code yJx4a65c_size_8abf5 cJx4a65c_size_8abf5 1 (some .int), Cond.fieldLink RJx4a65c 48 "java/util/ArrayList" "size" "I", Cond.methodLink RX9 179 yJx4a65c_get_915e3, Cond.instanceMethod yJx4a65c_get_915e3, Cond.selects RJx4a65c yJx4a65c_get_915e3 yJx4a65c_get_915e3, Cond.code yJx4a65c_get_915e3 cJx4a65c_get_915e3 2 (some (.object "java/lang/Object")), Cond.methodLink RJx4a65c 118 yJ15_checkIndex_7cf53]
def wsL_topAnew_r2 : List Cond := [Cond.static yJ15_checkIndex_7cf53, Cond.initialized RJ15, Cond.code yJ15_checkIndex_7cf53 cJ15_checkIndex_7cf53 2 (some .int), Cond.methodLink RJ15 105 yJ3_checkIndex_8e157, Cond.static yJ3_checkIndex_8e157, Cond.initialized RJ3, Cond.code yJ3_checkIndex_8e157 cJ3_checkIndex_8e157 3 (some .int), Cond.methodLink RJx4a65c 123 yJx4a65c_elementData_915e3, Cond.instanceMethod yJx4a65c_elementData_915e3, Cond.selects RJx4a65c yJx4a65c_elementData_915e3 yJx4a65c_elementData_915e3, Cond.code yJx4a65c_elementData_915e3 cJx4a65c_elementData_915e3 2 (some (.object "java/lang/Object")), Cond.fieldLink RJx4a65c 9 "java/util/ArrayList" "elementData" "[Ljava/lang/Object;", Cond.methodLink RX9 200 yX1_covers, Cond.instanceMethod yX1_covers, Cond.selects RX1 yX1_covers yX1_covers, Cond.initialized RX1, Cond.code yX1_covers cX1_covers 3 (some .boolean), Cond.fieldLink RX1 25 "Craterclock$Crater" "radius" "I", Cond.methodLink RX1 42 yX1_isWithin, Cond.instanceMethod yX1_isWithin, Cond.selects RX1 yX1_isWithin yX1_isWithin, Cond.code yX1_isWithin cX1_isWithin 6 (some .boolean), Cond.fieldLink RX1 9 "Craterclock$Crater" "x" "I", Cond.fieldLink RX1 15 "Craterclock$Crater" "y" "I"]
def wsL_topAnew_r3 : List Cond := [Cond.methodLink RX9 197 yX9_depthOnceMore, Cond.instanceMethod yX9_depthOnceMore, Cond.selects RX9 yX9_depthOnceMore yX9_depthOnceMore, Cond.code yX9_depthOnceMore cX9_depthOnceMore 6 (some .int), Cond.fieldLink RX9 219 "Craterclock$Crater" "firstDepth" "I", Cond.fieldLink RX9 25 "Craterclock" "lessenings" "Ljava/util/ArrayList;", Cond.classLink RX9 215 "Craterclock$Lessening", Cond.fieldLink RX9 222 "Craterclock$Lessening" "cratersThen" "I", Cond.methodLink RX9 225 Lib.Math.max.name, Cond.static Lib.Math.max.name, Cond.initialized "java/lang/Math", Cond.code Lib.Math.max.name Lib.Math.max.code 2 (some .int), Cond.methodLink RX9 205 yX1_lossBy, Cond.instanceMethod yX1_lossBy, Cond.selects RX1 yX1_lossBy yX1_lossBy, Cond.code yX1_lossBy cX1_lossBy 2 (some .int), Cond.fieldLink RX1 31 "Craterclock$Crater" "firstDepth" "I", Cond.fieldLink RX1 18 "Craterclock$Crater" "size" "I", Cond.methodLink RX9 214 ⟨"Craterclock$Lessening", "lossOf", "(LCraterclock$Crater;)I"⟩, Cond.sameMethod "Craterclock$Lessening" "Craterclock$Lessening" "lossOf" "(LCraterclock$Crater;)I", Cond.selects RX5 ⟨"Craterclock$Lessening", "lossOf", "(LCraterclock$Crater;)I"⟩ yX5_lossOf, Cond.instanceMethod yX5_lossOf, Cond.initialized RX5, Cond.code yX5_lossOf cX5_lossOf 2 (some .int)]
def wsL_topAnew_r4 : List Cond := [Cond.fieldLink RX5 7 "Craterclock$Flood" "field" "LCraterclock$Field;", Cond.fieldLink RX5 17 "Craterclock$Crater" "x" "I", Cond.fieldLink RX5 22 "Craterclock$Crater" "y" "I", Cond.fieldLink RX5 13 "Craterclock$Flood" "thick" "I", Cond.methodLink RX5 25 yX4_has, Cond.instanceMethod yX4_has, Cond.selects RX4 yX4_has yX4_has, Cond.initialized RX4, Cond.code yX4_has cX4_has 3 (some .boolean), Cond.fieldLink RX4 7 "Craterclock$Field" "x" "I", Cond.fieldLink RX4 16 "Craterclock$Field" "toX" "I", Cond.fieldLink RX4 13 "Craterclock$Field" "y" "I", Cond.fieldLink RX4 19 "Craterclock$Field" "toY" "I", Cond.selects RX8 ⟨"Craterclock$Lessening", "lossOf", "(LCraterclock$Crater;)I"⟩ yX8_lossOf, Cond.instanceMethod yX8_lossOf, Cond.initialized RX8, Cond.code yX8_lossOf cX8_lossOf 2 (some .int), Cond.fieldLink RX8 9 "Craterclock$Softening" "cellsThen" "LCraterclock$Ground;", Cond.fieldLink RX8 19 "Craterclock$Crater" "x" "I", Cond.fieldLink RX8 24 "Craterclock$Crater" "y" "I", Cond.fieldLink RX8 15 "Craterclock$Softening" "steps" "I", Cond.methodLink RX8 27 yX6_kindAt, Cond.instanceMethod yX6_kindAt, Cond.selects RX6 yX6_kindAt yX6_kindAt]
def wsL_topAnew_r5 : List Cond := [Cond.initialized RX6, Cond.code yX6_kindAt cX6_kindAt 3 (some .int), Cond.fieldLink RX6 9 "Craterclock$Ground" "rows" "[I"]
def wsL_topAnew : List Cond := .codeWith yL_topAnew cL_topAnew 5 (some .int) [(0, 10, 13, 13)] :: ((wsL_topAnew_r1 ++ (wsL_topAnew_r2 ++ (wsL_topAnew_r3 ++ (wsL_topAnew_r4 ++ wsL_topAnew_r5)))) ++ wsX90 ++ wsJx4a65c0 ++ wsX10 ++ wsX50 ++ wsX80 ++ wsX40 ++ wsX60 ++ (vx_atS RX9 249 "java/lang/IndexOutOfBoundsException" ["java/lang/RuntimeException", "java/lang/Exception"]).filter goodWord)
def wsL_law0_r1 : List Cond := [Cond.classLink RL 8 RX9, Cond.instantiable RX9 6, Cond.initialized RX9, Cond.classLink RL 68 RX10, Cond.instantiable RX10 14, Cond.initialized RX10, Cond.arrayClass .long, Cond.constantLong RL 101 (4294967295), Cond.methodLink RL 67 yX9_init, Cond.instanceMethod yX9_init, Cond.code yX9_init cX9_init 1 none, Cond.methodLink RX9 1 objectInit, Cond.instanceMethod objectInit, Cond.code objectInit ⟨#[0xb1]⟩ 1 none, Cond.classLink RX9 7 RX6, Cond.instantiable RX6 1, Cond.initialized RX6, Cond.arrayClass .int, Cond.fieldLink RX9 14 "Craterclock" "cells" "LCraterclock$Ground;", Cond.classLink RX9 18 RJx4a65c, Cond.instantiable RJx4a65c 3, Cond.initialized RJx4a65c, Cond.fieldLink RX9 21 "Craterclock" "fallen" "Ljava/util/ArrayList;", Cond.fieldLink RX9 25 "Craterclock" "lessenings" "Ljava/util/ArrayList;"]
def wsL_law0_r2 : List Cond := [Cond.fieldLink RX9 28 "Craterclock" "eyes" "Ljava/util/ArrayList;", Cond.classLink RX9 31 RX2, Cond.instantiable RX2 1, Cond.initialized RX2, Cond.fieldLink RX9 34 "Craterclock" "curve" "LCraterclock$Curve;", Cond.fieldLink RX9 38 "Craterclock" "drawn" "I", Cond.methodLink RX9 11 yX6_init, Cond.instanceMethod yX6_init, Cond.code yX6_init cX6_init 2 none, Cond.methodLink RX6 3 objectInit, Cond.fieldLink RX6 9 "Craterclock$Ground" "rows" "[I", Cond.methodLink RX9 20 yJx4a65c_init_da8c8, Cond.instanceMethod yJx4a65c_init_da8c8, Cond.code yJx4a65c_init_da8c8 cJx4a65c_init_da8c8 1 none, Cond.fieldLink RJx4a65c 39 "java/util/ArrayList" "DEFAULTCAPACITY_EMPTY_ELEMENTDATA" "[Ljava/lang/Object;", Cond.fieldLink RJx4a65c 9 "java/util/ArrayList" "elementData" "[Ljava/lang/Object;", Cond.methodLink RJx4a65c 1 yJxc12de_init_da8c8, Cond.instanceMethod yJxc12de_init_da8c8, Cond.initialized RJxc12de, Cond.code yJxc12de_init_da8c8 cJxc12de_init_da8c8 1 none, Cond.fieldLink RJxc12de 7 "java/util/AbstractList" "modCount" "I", Cond.methodLink RJxc12de 1 yJxa1e45_init_da8c8, Cond.instanceMethod yJxa1e45_init_da8c8, Cond.initialized RJxa1e45]
def wsL_law0_r3 : List Cond := [Cond.code yJxa1e45_init_da8c8 cJxa1e45_init_da8c8 1 none, Cond.methodLink RJxa1e45 1 objectInit, Cond.methodLink RX9 33 yX2_init, Cond.instanceMethod yX2_init, Cond.code yX2_init cX2_init 1 none, Cond.methodLink RX2 3 objectInit, Cond.classLink RX2 9 RJx4a65c, Cond.fieldLink RX2 12 "Craterclock$Curve" "anchors" "Ljava/util/ArrayList;", Cond.methodLink RX2 11 yJx4a65c_init_da8c8, Cond.methodLink RL 70 yX10_init, Cond.instanceMethod yX10_init, Cond.code yX10_init cX10_init 1 none, Cond.methodLink RX10 1 objectInit, Cond.fieldLink RX10 7 "CraterclockModel" "ground" "[I", Cond.fieldLink RX10 13 "CraterclockModel" "atX" "[I", Cond.fieldLink RX10 16 "CraterclockModel" "atY" "[I", Cond.fieldLink RX10 19 "CraterclockModel" "radius" "[I", Cond.fieldLink RX10 22 "CraterclockModel" "depth" "[I", Cond.fieldLink RX10 25 "CraterclockModel" "drawn" "I", Cond.fieldLink RX10 29 "CraterclockModel" "skill" "[I", Cond.fieldLink RX10 32 "CraterclockModel" "years" "[J", Cond.fieldLink RX10 36 "CraterclockModel" "density" "[J", Cond.methodLink RL 71 yL_ground, Cond.static yL_ground]
def wsL_law0_r4 : List Cond := [Cond.initialized RL, Cond.codeWith yL_ground cL_ground 6 (some .int) [(0, 12, 15, 13), (0, 12, 19, 15)], Cond.classLink RL 13 "java/lang/IndexOutOfBoundsException", Cond.classLink RL 15 "java/lang/IllegalArgumentException", Cond.methodLink RL 7 yX9_ground, Cond.instanceMethod yX9_ground, Cond.selects RX9 yX9_ground yX9_ground, Cond.code yX9_ground cX9_ground 5 (some .int), Cond.constantLong RX9 46 (2), Cond.methodLink RX9 42 yX9_requireCell, Cond.static yX9_requireCell, Cond.code yX9_requireCell cX9_requireCell 2 none, Cond.classLink RX9 245 "java/lang/IndexOutOfBoundsException", Cond.initialized "java/lang/IndexOutOfBoundsException", Cond.methodLink RX9 48 yX9_requireRange, Cond.static yX9_requireRange, Cond.code yX9_requireRange cX9_requireRange 6 none, Cond.classLink RX9 254 "java/lang/IllegalArgumentException", Cond.initialized "java/lang/IllegalArgumentException", Cond.methodLink RX9 52 yX6_kindAt, Cond.instanceMethod yX6_kindAt, Cond.selects RX6 yX6_kindAt yX6_kindAt, Cond.code yX6_kindAt cX6_kindAt 3 (some .int), Cond.methodLink RX9 56 yX6_setKind]
def wsL_law0_r5 : List Cond := [Cond.instanceMethod yX6_setKind, Cond.selects RX6 yX6_setKind yX6_setKind, Cond.code yX6_setKind cX6_setKind 4 none, Cond.methodLink RL 76 yX10_ground, Cond.instanceMethod yX10_ground, Cond.selects RX10 yX10_ground yX10_ground, Cond.code yX10_ground cX10_ground 5 (some .int), Cond.methodLink RX10 46 yX10_isCell, Cond.static yX10_isCell, Cond.code yX10_isCell cX10_isCell 2 (some .boolean), Cond.methodLink RX10 42 yX10_isIn, Cond.static yX10_isIn, Cond.code yX10_isIn cX10_isIn 3 (some .boolean), Cond.methodLink RX10 56 yX10_can, Cond.instanceMethod yX10_can, Cond.selects RX10 yX10_can yX10_can, Cond.code yX10_can cX10_can 2 (some .boolean), Cond.fieldLink RX10 39 "CraterclockModel" "thrown" "I", Cond.methodLink RL 77 yX10_thrown, Cond.instanceMethod yX10_thrown, Cond.selects RX10 yX10_thrown yX10_thrown, Cond.code yX10_thrown cX10_thrown 1 (some .int), Cond.methodLink RL 81 yL_stone, Cond.static yL_stone]
def wsL_law0_r6 : List Cond := [Cond.codeWith yL_stone cL_stone 6 (some .int) [(0, 12, 15, 13), (0, 12, 19, 15), (0, 12, 23, 20)], Cond.classLink RL 20 "java/lang/IllegalStateException", Cond.methodLink RL 17 yX9_stone, Cond.instanceMethod yX9_stone, Cond.selects RX9 yX9_stone yX9_stone, Cond.code yX9_stone cX9_stone 4 (some .int), Cond.constantLong RX9 60 (6), Cond.methodLink RX9 62 yX9_requireRoomForCraters, Cond.instanceMethod yX9_requireRoomForCraters, Cond.selects RX9 yX9_requireRoomForCraters yX9_requireRoomForCraters, Cond.code yX9_requireRoomForCraters cX9_requireRoomForCraters 2 none, Cond.classLink RX9 121 "java/lang/IllegalStateException", Cond.initialized "java/lang/IllegalStateException", Cond.methodLink RX9 96 yJx4a65c_size_8abf5, Cond.instanceMethod yJx4a65c_size_8abf5, Cond.selects RJx4a65c yJx4a65c_size_8abf5 yJx4a65c_size_8abf5, Cond.code yJx4a65c_size_8abf5 cJx4a65c_size_8abf5 1 (some .int), Cond.fieldLink RJx4a65c 48 "java/util/ArrayList" "size" "I", Cond.methodLink RX9 66 yX9_dropStone, Cond.instanceMethod yX9_dropStone, Cond.selects RX9 yX9_dropStone yX9_dropStone, Cond.code yX9_dropStone cX9_dropStone 8 (some .int), Cond.classLink RX9 183 RX1, Cond.instantiable RX1 6]
def wsL_law0_r7 : List Cond := [Cond.initialized RX1, Cond.classLink RX9 183 "Craterclock$Crater", Cond.methodLink RX9 204 yX1_init, Cond.instanceMethod yX1_init, Cond.code yX1_init cX1_init 5 none, Cond.methodLink RX1 3 objectInit, Cond.fieldLink RX1 9 "Craterclock$Crater" "x" "I", Cond.fieldLink RX1 15 "Craterclock$Crater" "y" "I", Cond.fieldLink RX1 18 "Craterclock$Crater" "size" "I", Cond.fieldLink RX1 25 "Craterclock$Crater" "radius" "I", Cond.fieldLink RX1 31 "Craterclock$Crater" "firstDepth" "I", Cond.fieldLink RX1 34 "Craterclock$Crater" "depth" "I", Cond.methodLink RX1 21 yX1_radiusOn, Cond.static yX1_radiusOn, Cond.code yX1_radiusOn cX1_radiusOn 2 (some .int), Cond.methodLink RX1 37 Lib.Math.max.name, Cond.static Lib.Math.max.name, Cond.initialized "java/lang/Math", Cond.code Lib.Math.max.name Lib.Math.max.code 2 (some .int), Cond.methodLink RX1 28 yX1_depthOn, Cond.static yX1_depthOn, Cond.code yX1_depthOn cX1_depthOn 2 (some .int), Cond.methodLink RX9 179 yJx4a65c_get_915e3, Cond.instanceMethod yJx4a65c_get_915e3]
def wsL_law0_r8 : List Cond := [Cond.selects RJx4a65c yJx4a65c_get_915e3 yJx4a65c_get_915e3, Cond.code yJx4a65c_get_915e3 cJx4a65c_get_915e3 2 (some (.object "java/lang/Object")), Cond.methodLink RJx4a65c 118 yJ15_checkIndex_7cf53, Cond.static yJ15_checkIndex_7cf53, Cond.initialized RJ15, Cond.code yJ15_checkIndex_7cf53 cJ15_checkIndex_7cf53 2 (some .int), Cond.methodLink RJ15 105 yJ3_checkIndex_8e157, Cond.static yJ3_checkIndex_8e157, Cond.initialized RJ3, Cond.code yJ3_checkIndex_8e157 cJ3_checkIndex_8e157 3 (some .int), Cond.methodLink RJx4a65c 123 yJx4a65c_elementData_915e3, Cond.instanceMethod yJx4a65c_elementData_915e3, Cond.selects RJx4a65c yJx4a65c_elementData_915e3 yJx4a65c_elementData_915e3, Cond.code yJx4a65c_elementData_915e3 cJx4a65c_elementData_915e3 2 (some (.object "java/lang/Object")), Cond.methodLink RX9 205 yX1_lossBy, Cond.instanceMethod yX1_lossBy, Cond.selects RX1 yX1_lossBy yX1_lossBy, Cond.code yX1_lossBy cX1_lossBy 2 (some .int), Cond.methodLink RX1 42 yX1_isWithin, Cond.instanceMethod yX1_isWithin, Cond.selects RX1 yX1_isWithin yX1_isWithin, Cond.code yX1_isWithin cX1_isWithin 6 (some .boolean), Cond.methodLink RX9 209 yX1_lessen, Cond.instanceMethod yX1_lessen]
def wsL_law0_r9 : List Cond := [Cond.selects RX1 yX1_lessen yX1_lessen, Cond.code yX1_lessen cX1_lessen 2 (some .boolean), Cond.methodLink RX9 132 yJx4a65c_add_9ea2d, Cond.instanceMethod yJx4a65c_add_9ea2d, Cond.selects RJx4a65c yJx4a65c_add_9ea2d yJx4a65c_add_9ea2d, Cond.code yJx4a65c_add_9ea2d cJx4a65c_add_9ea2d 2 (some .boolean), Cond.fieldLink RJx4a65c 63 "java/util/ArrayList" "modCount" "I", Cond.sameField "java/util/ArrayList" "java/util/AbstractList" "modCount" "I", Cond.methodLink RJx4a65c 131 yJx4a65c_add_72be8, Cond.instanceMethod yJx4a65c_add_72be8, Cond.selects RJx4a65c yJx4a65c_add_72be8 yJx4a65c_add_72be8, Cond.code yJx4a65c_add_72be8 cJx4a65c_add_72be8 4 none, Cond.methodLink RJx4a65c 129 yJx4a65c_grow_d5877, Cond.instanceMethod yJx4a65c_grow_d5877, Cond.selects RJx4a65c yJx4a65c_grow_d5877 yJx4a65c_grow_d5877, Cond.code yJx4a65c_grow_d5877 cJx4a65c_grow_d5877 1 (some (.array (.object "java/lang/Object"))), Cond.methodLink RJx4a65c 69 yJx4a65c_grow_92f84, Cond.instanceMethod yJx4a65c_grow_92f84, Cond.selects RJx4a65c yJx4a65c_grow_92f84 yJx4a65c_grow_92f84, Cond.code yJx4a65c_grow_92f84 cJx4a65c_grow_92f84 4 (some (.array (.object "java/lang/Object"))), Cond.methodLink RJx4a65c 79 Lib.Math.max.name, Cond.classLink RJx4a65c 7 "java/lang/Object", Cond.methodLink RJx4a65c 73 yJ8_newLength_cabcc, Cond.static yJ8_newLength_cabcc]
def wsL_law0_r10 : List Cond := [Cond.initialized RJ8, Cond.code yJ8_newLength_cabcc cJ8_newLength_cabcc 4 (some .int), Cond.methodLink RJ8 194 Lib.Math.max.name, Cond.constant RJ8 200 (2147483639), Cond.methodLink RJ8 201 yJ8_hugeLength_7cf53, Cond.static yJ8_hugeLength_7cf53, Cond.code yJ8_hugeLength_7cf53 cJ8_hugeLength_7cf53 3 (some .int), Cond.methodLink RJx4a65c 66 yJ7_copyOf_1904c, Cond.static yJ7_copyOf_1904c, Cond.initialized RJ7, Cond.code yJ7_copyOf_1904c cJ7_copyOf_1904c 2 (some (.array (.object "java/lang/Object"))), Cond.methodLink RJ7 86 ⟨"java/lang/Object", "getClass", "()Ljava/lang/Class;"⟩, Cond.selects "[Ljava/lang/Object;" ⟨"java/lang/Object", "getClass", "()Ljava/lang/Class;"⟩ ⟨"java/lang/Object", "getClass", "()Ljava/lang/Class;"⟩, Cond.instanceMethod ⟨"java/lang/Object", "getClass", "()Ljava/lang/Class;"⟩, Cond.native ⟨"java/lang/Object", "getClass", "()Ljava/lang/Class;"⟩, Cond.methodLink RJ7 300 yJ7_copyOf_6403c, Cond.static yJ7_copyOf_6403c, Cond.code yJ7_copyOf_6403c cJ7_copyOf_6403c 4 (some (.array (.object "java/lang/Object"))), Cond.classLink RJ7 110 "[Ljava/lang/Object;", Cond.classLink RJ7 2 "java/lang/Object", Cond.methodLink RJ7 304 Lib.Math.min.name, Cond.static Lib.Math.min.name, Cond.code Lib.Math.min.name Lib.Math.min.code 2 (some .int), Cond.methodLink RJ7 150 arraycopyName]
def wsL_law0_r11 : List Cond := [Cond.native arraycopyName, Cond.static arraycopyName, Cond.initialized "java/lang/System", Cond.methodLink RL 83 yX10_stone, Cond.instanceMethod yX10_stone, Cond.selects RX10 yX10_stone yX10_stone, Cond.code yX10_stone cX10_stone 6 (some .int), Cond.fieldLink RX10 53 "CraterclockModel" "craters" "I", Cond.methodLink RX10 67 yX10_falls, Cond.instanceMethod yX10_falls, Cond.selects RX10 yX10_falls yX10_falls, Cond.code yX10_falls cX10_falls 11 (some .int), Cond.methodLink RX10 60 yX10_square, Cond.instanceMethod yX10_square, Cond.selects RX10 yX10_square yX10_square, Cond.code yX10_square cX10_square 4 (some .int), Cond.methodLink RX10 64 yX10_lessens, Cond.instanceMethod yX10_lessens, Cond.selects RX10 yX10_lessens yX10_lessens, Cond.code yX10_lessens cX10_lessens 4 (some .boolean), Cond.methodLink RL 84 yL_draw, Cond.static yL_draw, Cond.codeWith yL_draw cL_draw 4 (some .int) [(0, 9, 12, 15)], Cond.methodLink RL 22 yX9_draw]
def wsL_law0_r12 : List Cond := [Cond.instanceMethod yX9_draw, Cond.selects RX9 yX9_draw yX9_draw, Cond.code yX9_draw cX9_draw 3 (some .int), Cond.constantLong RX9 70 (65536), Cond.methodLink RL 87 yX10_draw, Cond.instanceMethod yX10_draw, Cond.selects RX10 yX10_draw yX10_draw, Cond.code yX10_draw cX10_draw 3 (some .int), Cond.constant RX10 70 (65536), Cond.methodLink RL 88 yL_rain, Cond.static yL_rain, Cond.codeWith yL_rain cL_rain 4 (some .int) [(0, 9, 12, 15), (0, 9, 15, 20)], Cond.methodLink RL 26 yX9_rain, Cond.instanceMethod yX9_rain, Cond.selects RX9 yX9_rain yX9_rain, Cond.code yX9_rain cX9_rain 6 (some .int), Cond.constantLong RX9 72 (30), Cond.methodLink RX9 74 yX9_drawNext, Cond.instanceMethod yX9_drawNext, Cond.selects RX9 yX9_drawNext yX9_drawNext, Cond.code yX9_drawNext cX9_drawNext 1 (some .int), Cond.constant RX9 213 (65537), Cond.methodLink RX9 78 yX9_sizeDrawn, Cond.static yX9_sizeDrawn]
def wsL_law0_r13 : List Cond := [Cond.code yX9_sizeDrawn cX9_sizeDrawn 1 (some .int), Cond.methodLink RX9 82 yX9_countLeft, Cond.instanceMethod yX9_countLeft, Cond.selects RX9 yX9_countLeft yX9_countLeft, Cond.code yX9_countLeft cX9_countLeft 3 (some .int), Cond.fieldLink RX9 194 "Craterclock$Crater" "depth" "I", Cond.methodLink RL 90 yX10_rain, Cond.instanceMethod yX10_rain, Cond.selects RX10 yX10_rain yX10_rain, Cond.code yX10_rain cX10_rain 7 (some .int), Cond.methodLink RX10 72 yX10_draws, Cond.instanceMethod yX10_draws, Cond.selects RX10 yX10_draws yX10_draws, Cond.code yX10_draws cX10_draws 2 (some .int), Cond.constant RX10 71 (65537), Cond.methodLink RX10 76 yX10_sizeBy, Cond.static yX10_sizeBy, Cond.code yX10_sizeBy cX10_sizeBy 1 (some .int), Cond.methodLink RX10 79 yX10_left, Cond.instanceMethod yX10_left, Cond.selects RX10 yX10_left yX10_left, Cond.code yX10_left cX10_left 3 (some .int), Cond.methodLink RL 91 yL_flood, Cond.static yL_flood]
def wsL_law0_r14 : List Cond := [Cond.codeWith yL_flood cL_flood 8 (some .int) [(0, 16, 19, 13), (0, 16, 23, 15), (0, 16, 27, 20)], Cond.methodLink RL 29 yX9_flood, Cond.instanceMethod yX9_flood, Cond.selects RX9 yX9_flood yX9_flood, Cond.code yX9_flood cX9_flood 6 (some .int), Cond.constantLong RX9 85 (40), Cond.classLink RX9 94 RX5, Cond.instantiable RX5 3, Cond.initialized RX5, Cond.classLink RX9 99 RX4, Cond.instantiable RX4 4, Cond.initialized RX4, Cond.methodLink RX9 87 yX9_requireOrder, Cond.static yX9_requireOrder, Cond.code yX9_requireOrder cX9_requireOrder 4 none, Cond.methodLink RX9 91 yX9_requireRoomForLessening, Cond.instanceMethod yX9_requireRoomForLessening, Cond.selects RX9 yX9_requireRoomForLessening yX9_requireRoomForLessening, Cond.code yX9_requireRoomForLessening cX9_requireRoomForLessening 1 none, Cond.methodLink RX9 101 yX4_init, Cond.instanceMethod yX4_init, Cond.code yX4_init cX4_init 5 none, Cond.methodLink RX4 1 objectInit, Cond.fieldLink RX4 7 "Craterclock$Field" "x" "I"]
def wsL_law0_r15 : List Cond := [Cond.fieldLink RX4 13 "Craterclock$Field" "y" "I", Cond.fieldLink RX4 16 "Craterclock$Field" "toX" "I", Cond.fieldLink RX4 19 "Craterclock$Field" "toY" "I", Cond.methodLink RX9 103 yX5_init, Cond.instanceMethod yX5_init, Cond.code yX5_init cX5_init 4 none, Cond.fieldLink RX5 7 "Craterclock$Flood" "field" "LCraterclock$Field;", Cond.fieldLink RX5 13 "Craterclock$Flood" "thick" "I", Cond.methodLink RX5 1 yX7_init, Cond.instanceMethod yX7_init, Cond.initialized RX7, Cond.code yX7_init cX7_init 2 none, Cond.methodLink RX7 1 objectInit, Cond.fieldLink RX7 7 "Craterclock$Lessening" "cratersThen" "I", Cond.methodLink RX9 106 yX9_lessenAll, Cond.instanceMethod yX9_lessenAll, Cond.selects RX9 yX9_lessenAll yX9_lessenAll, Cond.code yX9_lessenAll cX9_lessenAll 5 (some .int), Cond.methodLink RX9 214 ⟨"Craterclock$Lessening", "lossOf", "(LCraterclock$Crater;)I"⟩, Cond.sameMethod "Craterclock$Lessening" "Craterclock$Lessening" "lossOf" "(LCraterclock$Crater;)I", Cond.selects RX5 ⟨"Craterclock$Lessening", "lossOf", "(LCraterclock$Crater;)I"⟩ yX5_lossOf, Cond.instanceMethod yX5_lossOf, Cond.code yX5_lossOf cX5_lossOf 2 (some .int), Cond.fieldLink RX5 17 "Craterclock$Crater" "x" "I"]
def wsL_law0_r16 : List Cond := [Cond.fieldLink RX5 22 "Craterclock$Crater" "y" "I", Cond.methodLink RX5 25 yX4_has, Cond.instanceMethod yX4_has, Cond.selects RX4 yX4_has yX4_has, Cond.code yX4_has cX4_has 3 (some .boolean), Cond.selects RX8 ⟨"Craterclock$Lessening", "lossOf", "(LCraterclock$Crater;)I"⟩ yX8_lossOf, Cond.instanceMethod yX8_lossOf, Cond.initialized RX8, Cond.code yX8_lossOf cX8_lossOf 2 (some .int), Cond.fieldLink RX8 9 "Craterclock$Softening" "cellsThen" "LCraterclock$Ground;", Cond.fieldLink RX8 19 "Craterclock$Crater" "x" "I", Cond.fieldLink RX8 24 "Craterclock$Crater" "y" "I", Cond.fieldLink RX8 15 "Craterclock$Softening" "steps" "I", Cond.methodLink RX8 27 yX6_kindAt, Cond.methodLink RL 94 yX10_flood, Cond.instanceMethod yX10_flood, Cond.selects RX10 yX10_flood yX10_flood, Cond.code yX10_flood cX10_flood 10 (some .int), Cond.fieldLink RX10 87 "CraterclockModel" "told" "I", Cond.methodLink RX10 83 yX10_areCells, Cond.static yX10_areCells, Cond.code yX10_areCells cX10_areCells 4 (some .boolean), Cond.methodLink RX10 90 yX10_isWithin, Cond.instanceMethod yX10_isWithin]
def wsL_law0_r17 : List Cond := [Cond.selects RX10 yX10_isWithin yX10_isWithin, Cond.code yX10_isWithin cX10_isWithin 6 (some .boolean), Cond.methodLink RL 95 yL_soften, Cond.static yL_soften, Cond.codeWith yL_soften cL_soften 4 (some .int) [(0, 9, 12, 15), (0, 9, 15, 20)], Cond.methodLink RL 33 yX9_soften, Cond.instanceMethod yX9_soften, Cond.selects RX9 yX9_soften yX9_soften, Cond.code yX9_soften cX9_soften 2 (some .int), Cond.classLink RX9 110 RX8, Cond.instantiable RX8 3, Cond.methodLink RX9 112 yX6_copy, Cond.instanceMethod yX6_copy, Cond.selects RX6 yX6_copy yX6_copy, Cond.code yX6_copy cX6_copy 1 (some (.object "Craterclock$Ground")), Cond.classLink RX6 10 RX6, Cond.methodLink RX6 15 ⟨"[I", "clone", "()Ljava/lang/Object;"⟩, Cond.sameMethod "[I" "java/lang/Object" "clone" "()Ljava/lang/Object;", Cond.native ⟨"java/lang/Object", "clone", "()Ljava/lang/Object;"⟩, Cond.instanceMethod ⟨"java/lang/Object", "clone", "()Ljava/lang/Object;"⟩, Cond.selects "[I" ⟨"[I", "clone", "()Ljava/lang/Object;"⟩ ⟨"java/lang/Object", "clone", "()Ljava/lang/Object;"⟩, Cond.classLink RX6 16 "[I", Cond.methodLink RX6 20 yX6_init, Cond.methodLink RX9 116 yX8_init]
def wsL_law0_r18 : List Cond := [Cond.instanceMethod yX8_init, Cond.code yX8_init cX8_init 4 none, Cond.methodLink RX8 3 yX7_init, Cond.methodLink RL 97 yX10_soften, Cond.instanceMethod yX10_soften, Cond.selects RX10 yX10_soften yX10_soften, Cond.code yX10_soften cX10_soften 5 (some .int), Cond.methodLink RX10 94 yX10_groundOf, Cond.instanceMethod yX10_groundOf, Cond.selects RX10 yX10_groundOf yX10_groundOf, Cond.code yX10_groundOf cX10_groundOf 2 (some .int), Cond.methodLink RL 98 yL_eye, Cond.static yL_eye, Cond.codeWith yL_eye cL_eye 4 (some .int) [(0, 9, 12, 15), (0, 9, 15, 20)], Cond.methodLink RL 36 yX9_eye, Cond.instanceMethod yX9_eye, Cond.selects RX9 yX9_eye yX9_eye, Cond.code yX9_eye cX9_eye 2 (some .int), Cond.constantLong RX9 119 (9), Cond.classLink RX9 128 RX3, Cond.instantiable RX3 1, Cond.initialized RX3, Cond.methodLink RX9 130 yX3_init, Cond.instanceMethod yX3_init]
def wsL_law0_r19 : List Cond := [Cond.code yX3_init cX3_init 2 none, Cond.methodLink RX3 1 objectInit, Cond.fieldLink RX3 7 "Craterclock$Eye" "skill" "I", Cond.methodLink RL 100 yX10_eye, Cond.instanceMethod yX10_eye, Cond.selects RX10 yX10_eye yX10_eye, Cond.code yX10_eye cX10_eye 2 (some .int), Cond.fieldLink RX10 50 "CraterclockModel" "eyes" "I", Cond.methodLink RL 103 yL_anchor, Cond.static yL_anchor, Cond.codeWith yL_anchor cL_anchor 7 (some .int) [(0, 11, 14, 15), (0, 11, 18, 20)], Cond.methodLink RL 39 yX9_anchor, Cond.instanceMethod yX9_anchor, Cond.selects RX9 yX9_anchor yX9_anchor, Cond.code yX9_anchor cX9_anchor 5 (some .int), Cond.constantLong RX9 136 (5000000000), Cond.constantLong RX9 138 (100000000), Cond.methodLink RX9 140 yX2_canTake, Cond.instanceMethod yX2_canTake, Cond.selects RX2 yX2_canTake yX2_canTake, Cond.code yX2_canTake cX2_canTake 7 (some .boolean), Cond.classLink RX2 26 "Craterclock$Anchor", Cond.fieldLink RX2 28 "Craterclock$Anchor" "years" "J", Cond.fieldLink RX2 32 "Craterclock$Anchor" "density" "J"]
def wsL_law0_r20 : List Cond := [Cond.methodLink RX2 18 yJx4a65c_size_8abf5, Cond.methodLink RX2 22 yJx4a65c_get_915e3, Cond.methodLink RX9 146 yX2_take, Cond.instanceMethod yX2_take, Cond.selects RX2 yX2_take yX2_take, Cond.code yX2_take cX2_take 5 (some .int), Cond.classLink RX2 26 RX0, Cond.instantiable RX0 2, Cond.initialized RX0, Cond.methodLink RX2 35 yX0_init, Cond.instanceMethod yX0_init, Cond.code yX0_init cX0_init 5 none, Cond.methodLink RX0 1 objectInit, Cond.fieldLink RX0 7 "Craterclock$Anchor" "years" "J", Cond.fieldLink RX0 13 "Craterclock$Anchor" "density" "J", Cond.methodLink RX2 38 yJx4a65c_add_9ea2d, Cond.methodLink RL 106 yX10_anchor, Cond.instanceMethod yX10_anchor, Cond.selects RX10 yX10_anchor yX10_anchor, Cond.code yX10_anchor cX10_anchor 7 (some .int), Cond.constantLong RX10 97 (5000000000), Cond.constantLong RX10 99 (100000000), Cond.fieldLink RX10 101 "CraterclockModel" "anchors" "I", Cond.methodLink RL 107 yL_count]
def wsL_law0_r21 : List Cond := [Cond.static yL_count, Cond.codeWith yL_count cL_count 9 (some .int) [(0, 18, 21, 13), (0, 18, 25, 15)], Cond.methodLink RL 43 yX9_count, Cond.instanceMethod yX9_count, Cond.selects RX9 yX9_count yX9_count, Cond.code yX9_count cX9_count 7 (some .int), Cond.constantLong RX9 154 (7), Cond.methodLink RX9 150 yX9_requireEyeAndCells, Cond.instanceMethod yX9_requireEyeAndCells, Cond.selects RX9 yX9_requireEyeAndCells yX9_requireEyeAndCells, Cond.code yX9_requireEyeAndCells cX9_requireEyeAndCells 6 none, Cond.methodLink RX9 156 yX9_countSeen, Cond.instanceMethod yX9_countSeen, Cond.selects RX9 yX9_countSeen yX9_countSeen, Cond.code yX9_countSeen cX9_countSeen 8 (some .int), Cond.classLink RX9 128 "Craterclock$Eye", Cond.fieldLink RX9 191 "Craterclock$Crater" "radius" "I", Cond.fieldLink RX9 185 "Craterclock$Crater" "x" "I", Cond.fieldLink RX9 188 "Craterclock$Crater" "y" "I", Cond.methodLink RX9 230 yX4_has, Cond.methodLink RX9 233 yX3_sees, Cond.instanceMethod yX3_sees, Cond.selects RX3 yX3_sees yX3_sees, Cond.code yX3_sees cX3_sees 2 (some .boolean)]
def wsL_law0_r22 : List Cond := [Cond.fieldLink RX3 13 "Craterclock$Crater" "depth" "I", Cond.methodLink RL 110 yX10_count, Cond.instanceMethod yX10_count, Cond.selects RX10 yX10_count yX10_count, Cond.code yX10_count cX10_count 9 (some .int), Cond.methodLink RX10 104 yX10_isEye, Cond.instanceMethod yX10_isEye, Cond.selects RX10 yX10_isEye yX10_isEye, Cond.code yX10_isEye cX10_isEye 2 (some .boolean), Cond.methodLink RX10 107 yX10_counts, Cond.instanceMethod yX10_counts, Cond.selects RX10 yX10_counts yX10_counts, Cond.code yX10_counts cX10_counts 10 (some .int), Cond.methodLink RL 111 yL_age, Cond.static yL_age, Cond.codeWith yL_age cL_age 8 (some .int) [(0, 15, 18, 13), (0, 15, 22, 15), (0, 15, 26, 20)], Cond.methodLink RL 47 yX9_age, Cond.instanceMethod yX9_age, Cond.selects RX9 yX9_age yX9_age, Cond.code yX9_age cX9_age 8 (some .long), Cond.methodLink RX9 160 yX9_densitySeen, Cond.instanceMethod yX9_densitySeen, Cond.selects RX9 yX9_densitySeen yX9_densitySeen, Cond.code yX9_densitySeen cX9_densitySeen 3 (some .long)]
def wsL_law0_r23 : List Cond := [Cond.constantLong RX9 237 (256000), Cond.methodLink RX9 239 yX4_cells, Cond.instanceMethod yX4_cells, Cond.selects RX4 yX4_cells yX4_cells, Cond.code yX4_cells cX4_cells 1 (some .int), Cond.methodLink RX9 241 yX2_dividedDown, Cond.static yX2_dividedDown, Cond.code yX2_dividedDown cX2_dividedDown 4 (some .long), Cond.methodLink RX9 164 yX2_lackFor, Cond.instanceMethod yX2_lackFor, Cond.selects RX2 yX2_lackFor yX2_lackFor, Cond.code yX2_lackFor cX2_lackFor 4 (some .int), Cond.methodLink RX9 170 yX2_yearsOf, Cond.instanceMethod yX2_yearsOf, Cond.selects RX2 yX2_yearsOf yX2_yearsOf, Cond.code yX2_yearsOf cX2_yearsOf 11 (some .long), Cond.methodLink RX2 42 yX2_dividedDown, Cond.methodLink RL 113 yX10_age, Cond.instanceMethod yX10_age, Cond.selects RX10 yX10_age yX10_age, Cond.code yX10_age cX10_age 8 (some .long), Cond.methodLink RX10 117 yX10_reason, Cond.instanceMethod yX10_reason, Cond.selects RX10 yX10_reason yX10_reason]
def wsL_law0_r24 : List Cond := [Cond.code yX10_reason cX10_reason 6 (some .int), Cond.methodLink RX10 113 yX10_densityOf, Cond.instanceMethod yX10_densityOf, Cond.selects RX10 yX10_densityOf yX10_densityOf, Cond.code yX10_densityOf cX10_densityOf 6 (some .long), Cond.constantLong RX10 111 (256000), Cond.methodLink RX10 121 yX10_ageBy, Cond.instanceMethod yX10_ageBy, Cond.selects RX10 yX10_ageBy yX10_ageBy, Cond.code yX10_ageBy cX10_ageBy 4 (some .long), Cond.methodLink RL 114 yL_whyNot, Cond.static yL_whyNot, Cond.codeWith yL_whyNot cL_whyNot 8 (some .int) [(0, 16, 19, 13), (0, 16, 23, 15)], Cond.methodLink RL 51 yX9_whyNot, Cond.instanceMethod yX9_whyNot, Cond.selects RX9 yX9_whyNot yX9_whyNot, Cond.code yX9_whyNot cX9_whyNot 6 (some .int), Cond.methodLink RL 116 yX10_whyNot, Cond.instanceMethod yX10_whyNot, Cond.selects RX10 yX10_whyNot yX10_whyNot, Cond.code yX10_whyNot cX10_whyNot 8 (some .int), Cond.methodLink RL 117 yX9_craters, Cond.instanceMethod yX9_craters, Cond.selects RX9 yX9_craters yX9_craters]
def wsL_law0_r25 : List Cond := [Cond.code yX9_craters cX9_craters 1 (some .int), Cond.methodLink RL 120 yX10_craters, Cond.instanceMethod yX10_craters, Cond.selects RX10 yX10_craters yX10_craters, Cond.code yX10_craters cX10_craters 1 (some .int), Cond.methodLink RL 121 yL_about, Cond.static yL_about, Cond.codeWith yL_about cL_about 5 (some .int) [(0, 10, 13, 13), (0, 10, 17, 15)], Cond.methodLink RL 54 yX9_about, Cond.instanceMethod yX9_about, Cond.selects RX9 yX9_about yX9_about, Cond.code yX9_about cX9_about 4 (some .int), Cond.constantLong RX9 177 (3), Cond.methodLink RX9 174 yX9_requireCrater, Cond.instanceMethod yX9_requireCrater, Cond.selects RX9 yX9_requireCrater yX9_requireCrater, Cond.code yX9_requireCrater cX9_requireCrater 2 none, Cond.methodLink RL 124 yX10_about, Cond.instanceMethod yX10_about, Cond.selects RX10 yX10_about yX10_about, Cond.code yX10_about cX10_about 3 (some .int), Cond.methodLink RX10 125 yX10_isCrater, Cond.instanceMethod yX10_isCrater, Cond.selects RX10 yX10_isCrater yX10_isCrater]
def wsL_law0_r26 : List Cond := [Cond.code yX10_isCrater cX10_isCrater 2 (some .boolean), Cond.methodLink RL 125 yL_depthAnew, Cond.static yL_depthAnew, Cond.codeWith yL_depthAnew cL_depthAnew 4 (some .int) [(0, 9, 12, 13)], Cond.methodLink RL 58 yX9_depthAnew, Cond.instanceMethod yX9_depthAnew, Cond.selects RX9 yX9_depthAnew yX9_depthAnew, Cond.code yX9_depthAnew cX9_depthAnew 2 (some .int), Cond.methodLink RX9 197 yX9_depthOnceMore, Cond.instanceMethod yX9_depthOnceMore, Cond.selects RX9 yX9_depthOnceMore yX9_depthOnceMore, Cond.code yX9_depthOnceMore cX9_depthOnceMore 6 (some .int), Cond.fieldLink RX9 219 "Craterclock$Crater" "firstDepth" "I", Cond.classLink RX9 215 "Craterclock$Lessening", Cond.fieldLink RX9 222 "Craterclock$Lessening" "cratersThen" "I", Cond.methodLink RX9 225 Lib.Math.max.name, Cond.methodLink RL 127 yX10_depthAnew, Cond.instanceMethod yX10_depthAnew, Cond.selects RX10 yX10_depthAnew yX10_depthAnew, Cond.code yX10_depthAnew cX10_depthAnew 2 (some .int), Cond.methodLink RL 128 yL_top, Cond.static yL_top, Cond.codeWith yL_top cL_top 5 (some .int) [(0, 10, 13, 13)], Cond.methodLink RL 61 yX9_top]
def wsL_law0_r27 : List Cond := [Cond.instanceMethod yX9_top, Cond.selects RX9 yX9_top yX9_top, Cond.code yX9_top cX9_top 5 (some .int), Cond.methodLink RX9 200 yX1_covers, Cond.instanceMethod yX1_covers, Cond.selects RX1 yX1_covers yX1_covers, Cond.code yX1_covers cX1_covers 3 (some .boolean), Cond.methodLink RL 130 yX10_top, Cond.instanceMethod yX10_top, Cond.selects RX10 yX10_top yX10_top, Cond.code yX10_top cX10_top 3 (some .int), Cond.methodLink RX10 128 yX10_topOf, Cond.instanceMethod yX10_topOf, Cond.selects RX10 yX10_topOf yX10_topOf, Cond.code yX10_topOf cX10_topOf 5 (some .int), Cond.methodLink RL 131 yL_topAnew, Cond.static yL_topAnew, Cond.codeWith yL_topAnew cL_topAnew 5 (some .int) [(0, 10, 13, 13)], Cond.methodLink RL 64 yX9_topAnew, Cond.instanceMethod yX9_topAnew, Cond.selects RX9 yX9_topAnew yX9_topAnew, Cond.code yX9_topAnew cX9_topAnew 4 (some .int), Cond.methodLink RL 133 yX10_topAnew, Cond.instanceMethod yX10_topAnew]
def wsL_law0_r28 : List Cond := [Cond.selects RX10 yX10_topAnew yX10_topAnew, Cond.code yX10_topAnew cX10_topAnew 3 (some .int)]
def wsL_law0 : List Cond := (wsL_law0_r1 ++ (wsL_law0_r2 ++ (wsL_law0_r3 ++ (wsL_law0_r4 ++ (wsL_law0_r5 ++ (wsL_law0_r6 ++ (wsL_law0_r7 ++ (wsL_law0_r8 ++ (wsL_law0_r9 ++ (wsL_law0_r10 ++ (wsL_law0_r11 ++ (wsL_law0_r12 ++ (wsL_law0_r13 ++ (wsL_law0_r14 ++ (wsL_law0_r15 ++ (wsL_law0_r16 ++ (wsL_law0_r17 ++ (wsL_law0_r18 ++ (wsL_law0_r19 ++ (wsL_law0_r20 ++ (wsL_law0_r21 ++ (wsL_law0_r22 ++ (wsL_law0_r23 ++ (wsL_law0_r24 ++ (wsL_law0_r25 ++ (wsL_law0_r26 ++ (wsL_law0_r27 ++ wsL_law0_r28))))))))))))))))))))))))))) ++ wsX90 ++ wsX100 ++ wsX60 ++ wsJx4a65c0 ++ wsX20 ++ wsX10 ++ wsX50 ++ wsX40 ++ wsX80 ++ wsX30 ++ wsX00 ++ ([] : List Cond)
def wsL_law : List Cond := wsL_law0 ++ (vx_atS RX9 249 "java/lang/IndexOutOfBoundsException" ["java/lang/RuntimeException", "java/lang/Exception"]).filter goodWord ++ (vx_atS RX9 258 "java/lang/IllegalArgumentException" ["java/lang/RuntimeException", "java/lang/Exception"]).filter goodWord ++ (vx_atS RX9 125 "java/lang/IllegalStateException" ["java/lang/RuntimeException", "java/lang/Exception"]).filter goodWord
theorem lw_app {a b c : List Cond} (h1 : ∀ w ∈ a, w ∈ c) (h2 : ∀ w ∈ b, w ∈ c) : ∀ w ∈ a ++ b, w ∈ c := fun w h => (List.mem_append.mp h).elim (h1 w) (h2 w)
set_option maxRecDepth 20000 in
theorem wsL_law_ini1 : ∀ w ∈ wsL_law0_r1, w ∈ lw_tbl := fun w h => (goodIn_p wsL_law0_r1 [62, 65] (by decide +kernel) (by decide +kernel) w h).1
set_option maxRecDepth 20000 in
theorem wsL_law_ini2 : ∀ w ∈ wsL_law0_r2, w ∈ lw_tbl := fun w h => (goodIn_p wsL_law0_r2 [70, 81, 84] (by decide +kernel) (by decide +kernel) w h).1
set_option maxRecDepth 20000 in
theorem wsL_law_ini3 : ∀ w ∈ wsL_law0_r3, w ∈ lw_tbl := fun w h => (goodIn_p wsL_law0_r3 [87, 107, 709] (by decide +kernel) (by decide +kernel) w h).1
set_option maxRecDepth 20000 in
theorem wsL_law_ini4 : ∀ w ∈ wsL_law0_r4, w ∈ lw_tbl := fun w h => (goodIn_p wsL_law0_r4 [150, 153, 225, 245] (by decide +kernel) (by decide +kernel) w h).1
set_option maxRecDepth 20000 in
theorem wsL_law_ini5 : ∀ w ∈ wsL_law0_r5, w ∈ lw_tbl := fun w h => (goodIn_p wsL_law0_r5 [249, 762, 765, 768, 772, 758] (by decide +kernel) (by decide +kernel) w h).1
set_option maxRecDepth 20000 in
theorem wsL_law_ini6 : ∀ w ∈ wsL_law0_r6, w ∈ lw_tbl := fun w h => (goodIn_p wsL_law0_r6 [257, 262, 141, 282] (by decide +kernel) (by decide +kernel) w h).1
set_option maxRecDepth 20000 in
theorem wsL_law_ini7 : ∀ w ∈ wsL_law0_r7, w ∈ lw_tbl := fun w h => (goodIn_p wsL_law0_r7 [287, 291, 294, 297] (by decide +kernel) (by decide +kernel) w h).1
set_option maxRecDepth 20000 in
theorem wsL_law_ini8 : ∀ w ∈ wsL_law0_r8, w ∈ lw_tbl := fun w h => (goodIn_p wsL_law0_r8 [330, 333, 336, 340, 344, 348] (by decide +kernel) (by decide +kernel) w h).1
set_option maxRecDepth 20000 in
theorem wsL_law_ini9 : ∀ w ∈ wsL_law0_r9, w ∈ lw_tbl := fun w h => (goodIn_p wsL_law0_r9 [352, 356, 360, 364, 368] (by decide +kernel) (by decide +kernel) w h).1
set_option maxRecDepth 20000 in
theorem wsL_law_ini10 : ∀ w ∈ wsL_law0_r10, w ∈ lw_tbl := fun w h => (goodIn_p wsL_law0_r10 [371, 376, 379, 400, 406] (by decide +kernel) (by decide +kernel) w h).1
set_option maxRecDepth 20000 in
theorem wsL_law_ini11 : ∀ w ∈ wsL_law0_r11, w ∈ lw_tbl := fun w h => (goodIn_p wsL_law0_r11 [776, 780, 784, 788] (by decide +kernel) (by decide +kernel) w h).1
set_option maxRecDepth 20000 in
theorem wsL_law_ini12 : ∀ w ∈ wsL_law0_r12, w ∈ lw_tbl := fun w h => (goodIn_p wsL_law0_r12 [418, 792, 426, 431] (by decide +kernel) (by decide +kernel) w h).1
set_option maxRecDepth 20000 in
theorem wsL_law_ini13 : ∀ w ∈ wsL_law0_r13, w ∈ lw_tbl := fun w h => (goodIn_p wsL_law0_r13 [435, 439, 797, 801, 805, 809] (by decide +kernel) (by decide +kernel) w h).1
set_option maxRecDepth 20000 in
theorem wsL_law_ini14 : ∀ w ∈ wsL_law0_r14, w ∈ lw_tbl := fun w h => (goodIn_p wsL_law0_r14 [446, 450, 455, 463] (by decide +kernel) (by decide +kernel) w h).1
set_option maxRecDepth 20000 in
theorem wsL_law_ini15 : ∀ w ∈ wsL_law0_r15, w ∈ lw_tbl := fun w h => (goodIn_p wsL_law0_r15 [480, 483, 499, 505] (by decide +kernel) (by decide +kernel) w h).1
set_option maxRecDepth 20000 in
theorem wsL_law_ini16 : ∀ w ∈ wsL_law0_r16, w ∈ lw_tbl := fun w h => (goodIn_p wsL_law0_r16 [509, 512, 813, 816] (by decide +kernel) (by decide +kernel) w h).1
set_option maxRecDepth 20000 in
theorem wsL_law_ini17 : ∀ w ∈ wsL_law0_r17, w ∈ lw_tbl := fun w h => (goodIn_p wsL_law0_r17 [820, 520, 526] (by decide +kernel) (by decide +kernel) w h).1
set_option maxRecDepth 20000 in
theorem wsL_law_ini18 : ∀ w ∈ wsL_law0_r18, w ∈ lw_tbl := fun w h => (goodIn_p wsL_law0_r18 [538, 824, 828, 554] (by decide +kernel) (by decide +kernel) w h).1
set_option maxRecDepth 20000 in
theorem wsL_law_ini19 : ∀ w ∈ wsL_law0_r19, w ∈ lw_tbl := fun w h => (goodIn_p wsL_law0_r19 [561, 832, 573, 579] (by decide +kernel) (by decide +kernel) w h).1
set_option maxRecDepth 20000 in
theorem wsL_law_ini20 : ∀ w ∈ wsL_law0_r20, w ∈ lw_tbl := fun w h => (goodIn_p wsL_law0_r20 [587, 591, 836] (by decide +kernel) (by decide +kernel) w h).1
set_option maxRecDepth 20000 in
theorem wsL_law_ini21 : ∀ w ∈ wsL_law0_r21, w ∈ lw_tbl := fun w h => (goodIn_p wsL_law0_r21 [609, 613, 619, 624] (by decide +kernel) (by decide +kernel) w h).1
set_option maxRecDepth 20000 in
theorem wsL_law_ini22 : ∀ w ∈ wsL_law0_r22, w ∈ lw_tbl := fun w h => (goodIn_p wsL_law0_r22 [842, 846, 850, 631, 635] (by decide +kernel) (by decide +kernel) w h).1
set_option maxRecDepth 20000 in
theorem wsL_law_ini23 : ∀ w ∈ wsL_law0_r23, w ∈ lw_tbl := fun w h => (goodIn_p wsL_law0_r23 [640, 643, 647, 652, 854] (by decide +kernel) (by decide +kernel) w h).1
set_option maxRecDepth 20000 in
theorem wsL_law_ini24 : ∀ w ∈ wsL_law0_r24, w ∈ lw_tbl := fun w h => (goodIn_p wsL_law0_r24 [858, 862, 867, 660, 871] (by decide +kernel) (by decide +kernel) w h).1
set_option maxRecDepth 20000 in
theorem wsL_law_ini25 : ∀ w ∈ wsL_law0_r25, w ∈ lw_tbl := fun w h => (goodIn_p wsL_law0_r25 [137, 875, 667, 671, 879] (by decide +kernel) (by decide +kernel) w h).1
set_option maxRecDepth 20000 in
theorem wsL_law_ini26 : ∀ w ∈ wsL_law0_r26, w ∈ lw_tbl := fun w h => (goodIn_p wsL_law0_r26 [883, 680, 684, 887] (by decide +kernel) (by decide +kernel) w h).1
set_option maxRecDepth 20000 in
theorem wsL_law_ini27 : ∀ w ∈ wsL_law0_r27, w ∈ lw_tbl := fun w h => (goodIn_p wsL_law0_r27 [693, 697, 891, 895, 704] (by decide +kernel) (by decide +kernel) w h).1
set_option maxRecDepth 20000 in
theorem wsL_law_ini28 : ∀ w ∈ wsL_law0_r28, w ∈ lw_tbl := fun w h => (goodIn_p wsL_law0_r28 [899] (by decide +kernel) (by decide +kernel) w h).1
set_option maxRecDepth 20000 in
theorem wsL_law_in_wsX90 : ∀ w ∈ wsX90, w ∈ lw_tbl := by decide +kernel
set_option maxRecDepth 20000 in
theorem wsL_law_in_wsX100 : ∀ w ∈ wsX100, w ∈ lw_tbl := by decide +kernel
set_option maxRecDepth 20000 in
theorem wsL_law_in_wsX60 : ∀ w ∈ wsX60, w ∈ lw_tbl := by decide +kernel
set_option maxRecDepth 20000 in
theorem wsL_law_in_wsJx4a65c0 : ∀ w ∈ wsJx4a65c0, w ∈ lw_tbl := by decide +kernel
set_option maxRecDepth 20000 in
theorem wsL_law_in_wsX20 : ∀ w ∈ wsX20, w ∈ lw_tbl := by decide +kernel
set_option maxRecDepth 20000 in
theorem wsL_law_in_wsX10 : ∀ w ∈ wsX10, w ∈ lw_tbl := by decide +kernel
set_option maxRecDepth 20000 in
theorem wsL_law_in_wsX50 : ∀ w ∈ wsX50, w ∈ lw_tbl := by decide +kernel
set_option maxRecDepth 20000 in
theorem wsL_law_in_wsX40 : ∀ w ∈ wsX40, w ∈ lw_tbl := by decide +kernel
set_option maxRecDepth 20000 in
theorem wsL_law_in_wsX80 : ∀ w ∈ wsX80, w ∈ lw_tbl := by decide +kernel
set_option maxRecDepth 20000 in
theorem wsL_law_in_wsX30 : ∀ w ∈ wsX30, w ∈ lw_tbl := by decide +kernel
set_option maxRecDepth 20000 in
theorem wsL_law_in_wsX00 : ∀ w ∈ wsX00, w ∈ lw_tbl := by decide +kernel
set_option maxRecDepth 20000 in
theorem wsL_law_in0 : ∀ w ∈ wsL_law0, w ∈ lw_tbl := (lw_app (lw_app (lw_app (lw_app (lw_app (lw_app (lw_app (lw_app (lw_app (lw_app (lw_app (lw_app (lw_app wsL_law_ini1 (lw_app wsL_law_ini2 (lw_app wsL_law_ini3 (lw_app wsL_law_ini4 (lw_app wsL_law_ini5 (lw_app wsL_law_ini6 (lw_app wsL_law_ini7 (lw_app wsL_law_ini8 (lw_app wsL_law_ini9 (lw_app wsL_law_ini10 (lw_app wsL_law_ini11 (lw_app wsL_law_ini12 (lw_app wsL_law_ini13 (lw_app wsL_law_ini14 (lw_app wsL_law_ini15 (lw_app wsL_law_ini16 (lw_app wsL_law_ini17 (lw_app wsL_law_ini18 (lw_app wsL_law_ini19 (lw_app wsL_law_ini20 (lw_app wsL_law_ini21 (lw_app wsL_law_ini22 (lw_app wsL_law_ini23 (lw_app wsL_law_ini24 (lw_app wsL_law_ini25 (lw_app wsL_law_ini26 (lw_app wsL_law_ini27 (wsL_law_ini28)))))))))))))))))))))))))))) wsL_law_in_wsX90) wsL_law_in_wsX100) wsL_law_in_wsX60) wsL_law_in_wsJx4a65c0) wsL_law_in_wsX20) wsL_law_in_wsX10) wsL_law_in_wsX50) wsL_law_in_wsX40) wsL_law_in_wsX80) wsL_law_in_wsX30) wsL_law_in_wsX00) (fun _ h => absurd h List.not_mem_nil))
theorem wsL_law_x0 : ∀ w ∈ (vx_atS RX9 249 "java/lang/IndexOutOfBoundsException" ["java/lang/RuntimeException", "java/lang/Exception"]).filter goodWord, w ∈ lw_tbl := by decide +kernel
theorem wsL_law_x1 : ∀ w ∈ (vx_atS RX9 258 "java/lang/IllegalArgumentException" ["java/lang/RuntimeException", "java/lang/Exception"]).filter goodWord, w ∈ lw_tbl := by decide +kernel
theorem wsL_law_x2 : ∀ w ∈ (vx_atS RX9 125 "java/lang/IllegalStateException" ["java/lang/RuntimeException", "java/lang/Exception"]).filter goodWord, w ∈ lw_tbl := by decide +kernel
theorem wsL_law_in : ∀ w ∈ wsL_law, w ∈ lw_tbl := fun w h => (List.mem_append.mp h).elim (fun h => (List.mem_append.mp h).elim (fun h => (List.mem_append.mp h).elim (fun h => wsL_law_in0 w h) (fun h => wsL_law_x0 w h)) (fun h => wsL_law_x1 w h)) (fun h => wsL_law_x2 w h)
theorem inlX0 : ∀ w ∈ wsX00, w ∈ wsL_law := fun _ h => List.mem_append_left _ (List.mem_append_left _ (List.mem_append_left _ (List.mem_append_left _ (List.mem_append_right _ h))))
theorem inX0 : ∀ w ∈ wsX00, w ∈ lw_tbl := fun w h => wsL_law_in w (inlX0 w h)
theorem inlX1 : ∀ w ∈ wsX10, w ∈ wsL_law := fun _ h => List.mem_append_left _ (List.mem_append_left _ (List.mem_append_left _ (List.mem_append_left _ (List.mem_append_left _ (List.mem_append_left _ (List.mem_append_left _ (List.mem_append_left _ (List.mem_append_left _ (List.mem_append_right _ h)))))))))
theorem inX1 : ∀ w ∈ wsX10, w ∈ lw_tbl := fun w h => wsL_law_in w (inlX1 w h)
theorem inlX2 : ∀ w ∈ wsX20, w ∈ wsL_law := fun _ h => List.mem_append_left _ (List.mem_append_left _ (List.mem_append_left _ (List.mem_append_left _ (List.mem_append_left _ (List.mem_append_left _ (List.mem_append_left _ (List.mem_append_left _ (List.mem_append_left _ (List.mem_append_left _ (List.mem_append_right _ h))))))))))
theorem inX2 : ∀ w ∈ wsX20, w ∈ lw_tbl := fun w h => wsL_law_in w (inlX2 w h)
theorem inlX3 : ∀ w ∈ wsX30, w ∈ wsL_law := fun _ h => List.mem_append_left _ (List.mem_append_left _ (List.mem_append_left _ (List.mem_append_left _ (List.mem_append_left _ (List.mem_append_right _ h)))))
theorem inX3 : ∀ w ∈ wsX30, w ∈ lw_tbl := fun w h => wsL_law_in w (inlX3 w h)
theorem inlX4 : ∀ w ∈ wsX40, w ∈ wsL_law := fun _ h => List.mem_append_left _ (List.mem_append_left _ (List.mem_append_left _ (List.mem_append_left _ (List.mem_append_left _ (List.mem_append_left _ (List.mem_append_left _ (List.mem_append_right _ h)))))))
theorem inX4 : ∀ w ∈ wsX40, w ∈ lw_tbl := fun w h => wsL_law_in w (inlX4 w h)
theorem inlX5 : ∀ w ∈ wsX50, w ∈ wsL_law := fun _ h => List.mem_append_left _ (List.mem_append_left _ (List.mem_append_left _ (List.mem_append_left _ (List.mem_append_left _ (List.mem_append_left _ (List.mem_append_left _ (List.mem_append_left _ (List.mem_append_right _ h))))))))
theorem inX5 : ∀ w ∈ wsX50, w ∈ lw_tbl := fun w h => wsL_law_in w (inlX5 w h)
theorem inlX6 : ∀ w ∈ wsX60, w ∈ wsL_law := fun _ h => List.mem_append_left _ (List.mem_append_left _ (List.mem_append_left _ (List.mem_append_left _ (List.mem_append_left _ (List.mem_append_left _ (List.mem_append_left _ (List.mem_append_left _ (List.mem_append_left _ (List.mem_append_left _ (List.mem_append_left _ (List.mem_append_left _ (List.mem_append_right _ h))))))))))))
theorem inX6 : ∀ w ∈ wsX60, w ∈ lw_tbl := fun w h => wsL_law_in w (inlX6 w h)
theorem inX7 : ∀ w ∈ wsX70, w ∈ lw_tbl := by decide +kernel
theorem inlX8 : ∀ w ∈ wsX80, w ∈ wsL_law := fun _ h => List.mem_append_left _ (List.mem_append_left _ (List.mem_append_left _ (List.mem_append_left _ (List.mem_append_left _ (List.mem_append_left _ (List.mem_append_right _ h))))))
theorem inX8 : ∀ w ∈ wsX80, w ∈ lw_tbl := fun w h => wsL_law_in w (inlX8 w h)
theorem inlX9 : ∀ w ∈ wsX90, w ∈ wsL_law := fun _ h => List.mem_append_left _ (List.mem_append_left _ (List.mem_append_left _ (List.mem_append_left _ (List.mem_append_left _ (List.mem_append_left _ (List.mem_append_left _ (List.mem_append_left _ (List.mem_append_left _ (List.mem_append_left _ (List.mem_append_left _ (List.mem_append_left _ (List.mem_append_left _ (List.mem_append_left _ (List.mem_append_right _ h))))))))))))))
theorem inX9 : ∀ w ∈ wsX90, w ∈ lw_tbl := fun w h => wsL_law_in w (inlX9 w h)
theorem inlX10 : ∀ w ∈ wsX100, w ∈ wsL_law := fun _ h => List.mem_append_left _ (List.mem_append_left _ (List.mem_append_left _ (List.mem_append_left _ (List.mem_append_left _ (List.mem_append_left _ (List.mem_append_left _ (List.mem_append_left _ (List.mem_append_left _ (List.mem_append_left _ (List.mem_append_left _ (List.mem_append_left _ (List.mem_append_left _ (List.mem_append_right _ h)))))))))))))
theorem inX10 : ∀ w ∈ wsX100, w ∈ lw_tbl := fun w h => wsL_law_in w (inlX10 w h)
theorem inJx145de : ∀ w ∈ wsJx145de0, w ∈ lw_tbl := by decide +kernel
theorem inJx8e188 : ∀ w ∈ wsJx8e1880, w ∈ lw_tbl := by decide +kernel
theorem inJxab1ab : ∀ w ∈ wsJxab1ab0, w ∈ lw_tbl := by decide +kernel
theorem inJ9 : ∀ w ∈ wsJ90, w ∈ lw_tbl := by decide +kernel
theorem inJ0 : ∀ w ∈ wsJ00, w ∈ lw_tbl := by decide +kernel
theorem inJ10 : ∀ w ∈ wsJ100, w ∈ lw_tbl := by decide +kernel
theorem inJxa1e45 : ∀ w ∈ wsJxa1e450, w ∈ lw_tbl := by decide +kernel
theorem inJxc12de : ∀ w ∈ wsJxc12de0, w ∈ lw_tbl := by decide +kernel
theorem inlJx4a65c : ∀ w ∈ wsJx4a65c0, w ∈ wsL_law := fun _ h => List.mem_append_left _ (List.mem_append_left _ (List.mem_append_left _ (List.mem_append_left _ (List.mem_append_left _ (List.mem_append_left _ (List.mem_append_left _ (List.mem_append_left _ (List.mem_append_left _ (List.mem_append_left _ (List.mem_append_left _ (List.mem_append_right _ h)))))))))))
theorem inJx4a65c : ∀ w ∈ wsJx4a65c0, w ∈ lw_tbl := fun w h => wsL_law_in w (inlJx4a65c w h)
theorem inJ7 : ∀ w ∈ wsJ70, w ∈ lw_tbl := by decide +kernel
theorem inJx5ef63 : ∀ w ∈ wsJx5ef630, w ∈ lw_tbl := by decide +kernel
theorem inJxbd725 : ∀ w ∈ wsJxbd7250, w ∈ lw_tbl := by decide +kernel
theorem inJ15 : ∀ w ∈ wsJ150, w ∈ lw_tbl := by decide +kernel
theorem inJxf0a74 : ∀ w ∈ wsJxf0a740, w ∈ lw_tbl := by decide +kernel
theorem inJxa66e6 : ∀ w ∈ wsJxa66e60, w ∈ lw_tbl := by decide +kernel
theorem inJ8 : ∀ w ∈ wsJ80, w ∈ lw_tbl := by decide +kernel
theorem inJ3 : ∀ w ∈ wsJ30, w ∈ lw_tbl := by decide +kernel
theorem dX0_init_0 : decode cX0_init 0 = .ok (.aload_n 0, 1) := by decide +kernel
theorem dX0_init_1 : decode cX0_init 1 = .ok (.invokespecial 1, 3) := by decide +kernel
theorem dX0_init_4 : decode cX0_init 4 = .ok (.aload_n 0, 1) := by decide +kernel
theorem dX0_init_5 : decode cX0_init 5 = .ok (.lload_n 1, 1) := by decide +kernel
theorem dX0_init_6 : decode cX0_init 6 = .ok (.putfield 7, 3) := by decide +kernel
theorem dX0_init_9 : decode cX0_init 9 = .ok (.aload_n 0, 1) := by decide +kernel
theorem dX0_init_10 : decode cX0_init 10 = .ok (.lload_n 3, 1) := by decide +kernel
theorem dX0_init_11 : decode cX0_init 11 = .ok (.putfield 13, 3) := by decide +kernel
theorem dX0_init_14 : decode cX0_init 14 = .ok (.return_, 1) := by decide +kernel
set_option maxRecDepth 20000 in
theorem ggX1_init_X1_radiusOn : GoodIn wsX1_init wsX1_radiusOn := goodIn_r _ [13, 14, 15, 16, 17] (by decide +kernel) (by decide +kernel)
end
section
set_option maxRecDepth 20000 in
theorem gX1_init_X1_radiusOn : GoodIn wsX1_init (va_wsS RX1 21 yX1_radiusOn wsX1_radiusOn) := goodIn_app (goodIn_of _ (by decide +kernel)) ggX1_init_X1_radiusOn
set_option maxRecDepth 20000 in
theorem ggX1_init_X1_depthOn : GoodIn wsX1_init wsX1_depthOn := goodIn_r _ [20] (by decide +kernel) (by decide +kernel)
set_option maxRecDepth 20000 in
theorem gX1_init_X1_depthOn : GoodIn wsX1_init (va_wsS RX1 28 yX1_depthOn wsX1_depthOn) := goodIn_app (goodIn_of _ (by decide +kernel)) ggX1_init_X1_depthOn
theorem dX1_init_0 : decode cX1_init 0 = .ok (.aload_n 0, 1) := by decide +kernel
theorem dX1_init_1 : decode cX1_init 1 = .ok (.invokespecial 3, 3) := by decide +kernel
theorem dX1_init_4 : decode cX1_init 4 = .ok (.aload_n 0, 1) := by decide +kernel
theorem dX1_init_5 : decode cX1_init 5 = .ok (.iload_n 1, 1) := by decide +kernel
theorem dX1_init_6 : decode cX1_init 6 = .ok (.putfield 9, 3) := by decide +kernel
theorem dX1_init_9 : decode cX1_init 9 = .ok (.aload_n 0, 1) := by decide +kernel
theorem dX1_init_10 : decode cX1_init 10 = .ok (.iload_n 2, 1) := by decide +kernel
theorem dX1_init_11 : decode cX1_init 11 = .ok (.putfield 15, 3) := by decide +kernel
theorem dX1_init_14 : decode cX1_init 14 = .ok (.aload_n 0, 1) := by decide +kernel
theorem dX1_init_15 : decode cX1_init 15 = .ok (.iload_n 3, 1) := by decide +kernel
theorem dX1_init_16 : decode cX1_init 16 = .ok (.putfield 18, 3) := by decide +kernel
theorem dX1_init_19 : decode cX1_init 19 = .ok (.aload_n 0, 1) := by decide +kernel
theorem dX1_init_20 : decode cX1_init 20 = .ok (.iload 4, 2) := by decide +kernel
theorem dX1_init_22 : decode cX1_init 22 = .ok (.iload_n 3, 1) := by decide +kernel
theorem dX1_init_23 : decode cX1_init 23 = .ok (.invokestatic 21, 3) := by decide +kernel
theorem dX1_init_26 : decode cX1_init 26 = .ok (.putfield 25, 3) := by decide +kernel
theorem dX1_init_29 : decode cX1_init 29 = .ok (.aload_n 0, 1) := by decide +kernel
theorem dX1_init_30 : decode cX1_init 30 = .ok (.iload 4, 2) := by decide +kernel
theorem dX1_init_32 : decode cX1_init 32 = .ok (.iload_n 3, 1) := by decide +kernel
theorem dX1_init_33 : decode cX1_init 33 = .ok (.invokestatic 28, 3) := by decide +kernel
theorem dX1_init_36 : decode cX1_init 36 = .ok (.putfield 31, 3) := by decide +kernel
theorem dX1_init_39 : decode cX1_init 39 = .ok (.aload_n 0, 1) := by decide +kernel
theorem dX1_init_40 : decode cX1_init 40 = .ok (.aload_n 0, 1) := by decide +kernel
theorem dX1_init_41 : decode cX1_init 41 = .ok (.getfield 31, 3) := by decide +kernel
theorem dX1_init_44 : decode cX1_init 44 = .ok (.putfield 34, 3) := by decide +kernel
theorem dX1_init_47 : decode cX1_init 47 = .ok (.return_, 1) := by decide +kernel
theorem dX1_radiusOn_0 : decode cX1_radiusOn 0 = .ok (.iload_n 0, 1) := by decide +kernel
theorem dX1_radiusOn_1 : decode cX1_radiusOn 1 = .ok (.lookupswitch 39 #[(1, 27), (2, 35)], 27) := by decide +kernel
theorem dX1_radiusOn_28 : decode cX1_radiusOn 28 = .ok (.iconst 1, 1) := by decide +kernel
theorem dX1_radiusOn_29 : decode cX1_radiusOn 29 = .ok (.iload_n 1, 1) := by decide +kernel
theorem dX1_radiusOn_30 : decode cX1_radiusOn 30 = .ok (.iconst 1, 1) := by decide +kernel
theorem dX1_radiusOn_31 : decode cX1_radiusOn 31 = .ok (.isub, 1) := by decide +kernel
theorem dX1_radiusOn_32 : decode cX1_radiusOn 32 = .ok (.invokestatic 37, 3) := by decide +kernel
theorem dX1_radiusOn_35 : decode cX1_radiusOn 35 = .ok (.ireturn, 1) := by decide +kernel
theorem dX1_radiusOn_36 : decode cX1_radiusOn 36 = .ok (.iload_n 1, 1) := by decide +kernel
theorem dX1_radiusOn_37 : decode cX1_radiusOn 37 = .ok (.iconst 1, 1) := by decide +kernel
theorem dX1_radiusOn_38 : decode cX1_radiusOn 38 = .ok (.iadd, 1) := by decide +kernel
theorem dX1_radiusOn_39 : decode cX1_radiusOn 39 = .ok (.ireturn, 1) := by decide +kernel
theorem dX1_radiusOn_40 : decode cX1_radiusOn 40 = .ok (.iload_n 1, 1) := by decide +kernel
theorem dX1_radiusOn_41 : decode cX1_radiusOn 41 = .ok (.ireturn, 1) := by decide +kernel
theorem dX1_depthOn_0 : decode cX1_depthOn 0 = .ok (.iload_n 0, 1) := by decide +kernel
theorem dX1_depthOn_1 : decode cX1_depthOn 1 = .ok (.lookupswitch 35 #[(1, 27), (2, 31)], 27) := by decide +kernel
theorem dX1_depthOn_28 : decode cX1_depthOn 28 = .ok (.iconst 3, 1) := by decide +kernel
theorem dX1_depthOn_29 : decode cX1_depthOn 29 = .ok (.iload_n 1, 1) := by decide +kernel
theorem dX1_depthOn_30 : decode cX1_depthOn 30 = .ok (.imul, 1) := by decide +kernel
theorem dX1_depthOn_31 : decode cX1_depthOn 31 = .ok (.ireturn, 1) := by decide +kernel
theorem dX1_depthOn_32 : decode cX1_depthOn 32 = .ok (.iconst 5, 1) := by decide +kernel
theorem dX1_depthOn_33 : decode cX1_depthOn 33 = .ok (.iload_n 1, 1) := by decide +kernel
theorem dX1_depthOn_34 : decode cX1_depthOn 34 = .ok (.imul, 1) := by decide +kernel
theorem dX1_depthOn_35 : decode cX1_depthOn 35 = .ok (.ireturn, 1) := by decide +kernel
theorem dX1_depthOn_36 : decode cX1_depthOn 36 = .ok (.iconst 4, 1) := by decide +kernel
theorem dX1_depthOn_37 : decode cX1_depthOn 37 = .ok (.iload_n 1, 1) := by decide +kernel
theorem dX1_depthOn_38 : decode cX1_depthOn 38 = .ok (.imul, 1) := by decide +kernel
theorem dX1_depthOn_39 : decode cX1_depthOn 39 = .ok (.ireturn, 1) := by decide +kernel
set_option maxRecDepth 20000 in
theorem ggX1_covers_X1_isWithin : GoodIn wsX1_covers wsX1_isWithin := goodIn_r _ [6, 7, 8, 9, 10, 11, 12, 13, 14] (by decide +kernel) (by decide +kernel)
set_option maxRecDepth 20000 in
theorem gX1_covers_X1_isWithin : GoodIn wsX1_covers (wsV RX1 42 RX1 yX1_isWithin wsX1_isWithin) := goodIn_app (goodIn_of _ (by decide +kernel)) ggX1_covers_X1_isWithin
theorem dX1_covers_0 : decode cX1_covers 0 = .ok (.aload_n 0, 1) := by decide +kernel
theorem dX1_covers_1 : decode cX1_covers 1 = .ok (.aload_n 0, 1) := by decide +kernel
theorem dX1_covers_2 : decode cX1_covers 2 = .ok (.getfield 25, 3) := by decide +kernel
theorem dX1_covers_5 : decode cX1_covers 5 = .ok (.iload_n 1, 1) := by decide +kernel
theorem dX1_covers_6 : decode cX1_covers 6 = .ok (.iload_n 2, 1) := by decide +kernel
theorem dX1_covers_7 : decode cX1_covers 7 = .ok (.invokevirtual 42, 3) := by decide +kernel
theorem dX1_covers_10 : decode cX1_covers 10 = .ok (.ireturn, 1) := by decide +kernel
theorem dX1_isWithin_0 : decode cX1_isWithin 0 = .ok (.iload_n 2, 1) := by decide +kernel
theorem dX1_isWithin_1 : decode cX1_isWithin 1 = .ok (.aload_n 0, 1) := by decide +kernel
theorem dX1_isWithin_2 : decode cX1_isWithin 2 = .ok (.getfield 9, 3) := by decide +kernel
theorem dX1_isWithin_5 : decode cX1_isWithin 5 = .ok (.isub, 1) := by decide +kernel
theorem dX1_isWithin_6 : decode cX1_isWithin 6 = .ok (.istore 4, 2) := by decide +kernel
theorem dX1_isWithin_8 : decode cX1_isWithin 8 = .ok (.iload_n 3, 1) := by decide +kernel
theorem dX1_isWithin_9 : decode cX1_isWithin 9 = .ok (.aload_n 0, 1) := by decide +kernel
theorem dX1_isWithin_10 : decode cX1_isWithin 10 = .ok (.getfield 15, 3) := by decide +kernel
theorem dX1_isWithin_13 : decode cX1_isWithin 13 = .ok (.isub, 1) := by decide +kernel
theorem dX1_isWithin_14 : decode cX1_isWithin 14 = .ok (.istore 5, 2) := by decide +kernel
theorem dX1_isWithin_16 : decode cX1_isWithin 16 = .ok (.iload 4, 2) := by decide +kernel
theorem dX1_isWithin_18 : decode cX1_isWithin 18 = .ok (.iload 4, 2) := by decide +kernel
theorem dX1_isWithin_20 : decode cX1_isWithin 20 = .ok (.imul, 1) := by decide +kernel
theorem dX1_isWithin_21 : decode cX1_isWithin 21 = .ok (.iload 5, 2) := by decide +kernel
theorem dX1_isWithin_23 : decode cX1_isWithin 23 = .ok (.iload 5, 2) := by decide +kernel
theorem dX1_isWithin_25 : decode cX1_isWithin 25 = .ok (.imul, 1) := by decide +kernel
theorem dX1_isWithin_26 : decode cX1_isWithin 26 = .ok (.iadd, 1) := by decide +kernel
theorem dX1_isWithin_27 : decode cX1_isWithin 27 = .ok (.iload_n 1, 1) := by decide +kernel
theorem dX1_isWithin_28 : decode cX1_isWithin 28 = .ok (.iload_n 1, 1) := by decide +kernel
theorem dX1_isWithin_29 : decode cX1_isWithin 29 = .ok (.imul, 1) := by decide +kernel
theorem dX1_isWithin_30 : decode cX1_isWithin 30 = .ok (.if_icmp .gt 7, 3) := by decide +kernel
theorem dX1_isWithin_33 : decode cX1_isWithin 33 = .ok (.iconst 1, 1) := by decide +kernel
theorem dX1_isWithin_34 : decode cX1_isWithin 34 = .ok (.goto 4, 3) := by decide +kernel
theorem dX1_isWithin_37 : decode cX1_isWithin 37 = .ok (.iconst 0, 1) := by decide +kernel
theorem dX1_isWithin_38 : decode cX1_isWithin 38 = .ok (.ireturn, 1) := by decide +kernel
set_option maxRecDepth 20000 in
theorem ggX1_lossBy_X1_isWithin : GoodIn wsX1_lossBy wsX1_isWithin := goodIn_r _ [10, 2, 3, 11, 12, 13, 14, 15, 16] (by decide +kernel) (by decide +kernel)
set_option maxRecDepth 20000 in
theorem gX1_lossBy_X1_isWithin : GoodIn wsX1_lossBy (wsV RX1 42 RX1 yX1_isWithin wsX1_isWithin) := goodIn_app (goodIn_of _ (by decide +kernel)) ggX1_lossBy_X1_isWithin
theorem dX1_lossBy_0 : decode cX1_lossBy 0 = .ok (.aload_n 0, 1) := by decide +kernel
theorem dX1_lossBy_1 : decode cX1_lossBy 1 = .ok (.getfield 25, 3) := by decide +kernel
theorem dX1_lossBy_4 : decode cX1_lossBy 4 = .ok (.aload_n 1, 1) := by decide +kernel
theorem dX1_lossBy_5 : decode cX1_lossBy 5 = .ok (.getfield 25, 3) := by decide +kernel
theorem dX1_lossBy_8 : decode cX1_lossBy 8 = .ok (.if_icmp .gt 27, 3) := by decide +kernel
theorem dX1_lossBy_11 : decode cX1_lossBy 11 = .ok (.aload_n 0, 1) := by decide +kernel
theorem dX1_lossBy_12 : decode cX1_lossBy 12 = .ok (.aload_n 1, 1) := by decide +kernel
theorem dX1_lossBy_13 : decode cX1_lossBy 13 = .ok (.getfield 25, 3) := by decide +kernel
theorem dX1_lossBy_16 : decode cX1_lossBy 16 = .ok (.aload_n 1, 1) := by decide +kernel
theorem dX1_lossBy_17 : decode cX1_lossBy 17 = .ok (.getfield 9, 3) := by decide +kernel
theorem dX1_lossBy_20 : decode cX1_lossBy 20 = .ok (.aload_n 1, 1) := by decide +kernel
theorem dX1_lossBy_21 : decode cX1_lossBy 21 = .ok (.getfield 15, 3) := by decide +kernel
theorem dX1_lossBy_24 : decode cX1_lossBy 24 = .ok (.invokevirtual 42, 3) := by decide +kernel
theorem dX1_lossBy_27 : decode cX1_lossBy 27 = .ok (.ifCond .eq 8, 3) := by decide +kernel
theorem dX1_lossBy_30 : decode cX1_lossBy 30 = .ok (.aload_n 0, 1) := by decide +kernel
theorem dX1_lossBy_31 : decode cX1_lossBy 31 = .ok (.getfield 31, 3) := by decide +kernel
theorem dX1_lossBy_34 : decode cX1_lossBy 34 = .ok (.ireturn, 1) := by decide +kernel
theorem dX1_lossBy_35 : decode cX1_lossBy 35 = .ok (.aload_n 0, 1) := by decide +kernel
theorem dX1_lossBy_36 : decode cX1_lossBy 36 = .ok (.aload_n 0, 1) := by decide +kernel
theorem dX1_lossBy_37 : decode cX1_lossBy 37 = .ok (.getfield 25, 3) := by decide +kernel
theorem dX1_lossBy_40 : decode cX1_lossBy 40 = .ok (.aload_n 1, 1) := by decide +kernel
theorem dX1_lossBy_41 : decode cX1_lossBy 41 = .ok (.getfield 25, 3) := by decide +kernel
theorem dX1_lossBy_44 : decode cX1_lossBy 44 = .ok (.iadd, 1) := by decide +kernel
theorem dX1_lossBy_45 : decode cX1_lossBy 45 = .ok (.aload_n 1, 1) := by decide +kernel
theorem dX1_lossBy_46 : decode cX1_lossBy 46 = .ok (.getfield 9, 3) := by decide +kernel
theorem dX1_lossBy_49 : decode cX1_lossBy 49 = .ok (.aload_n 1, 1) := by decide +kernel
theorem dX1_lossBy_50 : decode cX1_lossBy 50 = .ok (.getfield 15, 3) := by decide +kernel
theorem dX1_lossBy_53 : decode cX1_lossBy 53 = .ok (.invokevirtual 42, 3) := by decide +kernel
theorem dX1_lossBy_56 : decode cX1_lossBy 56 = .ok (.ifCond .eq 10, 3) := by decide +kernel
theorem dX1_lossBy_59 : decode cX1_lossBy 59 = .ok (.aload_n 1, 1) := by decide +kernel
theorem dX1_lossBy_60 : decode cX1_lossBy 60 = .ok (.getfield 18, 3) := by decide +kernel
theorem dX1_lossBy_63 : decode cX1_lossBy 63 = .ok (.goto 4, 3) := by decide +kernel
theorem dX1_lossBy_66 : decode cX1_lossBy 66 = .ok (.iconst 0, 1) := by decide +kernel
theorem dX1_lossBy_67 : decode cX1_lossBy 67 = .ok (.ireturn, 1) := by decide +kernel
theorem dX1_lessen_0 : decode cX1_lessen 0 = .ok (.aload_n 0, 1) := by decide +kernel
theorem dX1_lessen_1 : decode cX1_lessen 1 = .ok (.getfield 34, 3) := by decide +kernel
theorem dX1_lessen_4 : decode cX1_lessen 4 = .ok (.ifCond .gt 5, 3) := by decide +kernel
theorem dX1_lessen_7 : decode cX1_lessen 7 = .ok (.iconst 0, 1) := by decide +kernel
theorem dX1_lessen_8 : decode cX1_lessen 8 = .ok (.ireturn, 1) := by decide +kernel
theorem dX1_lessen_9 : decode cX1_lessen 9 = .ok (.aload_n 0, 1) := by decide +kernel
theorem dX1_lessen_10 : decode cX1_lessen 10 = .ok (.iconst 0, 1) := by decide +kernel
theorem dX1_lessen_11 : decode cX1_lessen 11 = .ok (.aload_n 0, 1) := by decide +kernel
theorem dX1_lessen_12 : decode cX1_lessen 12 = .ok (.getfield 34, 3) := by decide +kernel
theorem dX1_lessen_15 : decode cX1_lessen 15 = .ok (.iload_n 1, 1) := by decide +kernel
theorem dX1_lessen_16 : decode cX1_lessen 16 = .ok (.isub, 1) := by decide +kernel
theorem dX1_lessen_17 : decode cX1_lessen 17 = .ok (.invokestatic 37, 3) := by decide +kernel
theorem dX1_lessen_20 : decode cX1_lessen 20 = .ok (.putfield 34, 3) := by decide +kernel
theorem dX1_lessen_23 : decode cX1_lessen 23 = .ok (.aload_n 0, 1) := by decide +kernel
theorem dX1_lessen_24 : decode cX1_lessen 24 = .ok (.getfield 34, 3) := by decide +kernel
theorem dX1_lessen_27 : decode cX1_lessen 27 = .ok (.ifCond .ne 7, 3) := by decide +kernel
theorem dX1_lessen_30 : decode cX1_lessen 30 = .ok (.iconst 1, 1) := by decide +kernel
theorem dX1_lessen_31 : decode cX1_lessen 31 = .ok (.goto 4, 3) := by decide +kernel
theorem dX1_lessen_34 : decode cX1_lessen 34 = .ok (.iconst 0, 1) := by decide +kernel
theorem dX1_lessen_35 : decode cX1_lessen 35 = .ok (.ireturn, 1) := by decide +kernel
set_option maxRecDepth 20000 in
theorem ggX2_init_Jx4a65c_init_da8c8 : GoodIn wsX2_init wsJx4a65c_init_da8c8 := goodIn_r _ [10, 11, 12, 13, 14, 15, 16, 17, 18, 19, 20, 21, 22, 2, 3, 23, 24, 25] (by decide +kernel) (by decide +kernel)
set_option maxRecDepth 20000 in
theorem gX2_init_Jx4a65c_init_da8c8 : GoodIn wsX2_init (wsJx4a65c_init_da8c8) := ggX2_init_Jx4a65c_init_da8c8
theorem dX2_init_0 : decode cX2_init 0 = .ok (.aload_n 0, 1) := by decide +kernel
theorem dX2_init_1 : decode cX2_init 1 = .ok (.invokespecial 3, 3) := by decide +kernel
theorem dX2_init_4 : decode cX2_init 4 = .ok (.aload_n 0, 1) := by decide +kernel
theorem dX2_init_5 : decode cX2_init 5 = .ok (.new 9, 3) := by decide +kernel
theorem dX2_init_8 : decode cX2_init 8 = .ok (.dup, 1) := by decide +kernel
theorem dX2_init_9 : decode cX2_init 9 = .ok (.invokespecial 11, 3) := by decide +kernel
theorem dX2_init_12 : decode cX2_init 12 = .ok (.putfield 12, 3) := by decide +kernel
theorem dX2_init_15 : decode cX2_init 15 = .ok (.return_, 1) := by decide +kernel
set_option maxRecDepth 20000 in
theorem ggX2_canTake_Jx4a65c_size_8abf5 : GoodIn wsX2_canTake wsJx4a65c_size_8abf5 := goodIn_r _ [9, 10, 31, 32, 33] (by decide +kernel) (by decide +kernel)
set_option maxRecDepth 20000 in
theorem gX2_canTake_Jx4a65c_size_8abf5 : GoodIn wsX2_canTake (wsV RX2 18 RJx4a65c yJx4a65c_size_8abf5 wsJx4a65c_size_8abf5) := goodIn_app (goodIn_of _ (by decide +kernel)) ggX2_canTake_Jx4a65c_size_8abf5
set_option maxRecDepth 20000 in
theorem ggX2_canTake_Jx4a65c_get_915e3 : GoodIn wsX2_canTake wsJx4a65c_get_915e3 := goodIn_r _ [14, 10, 15, 16, 17, 18, 19, 20, 21, 22, 23, 24, 25, 8, 26, 27, 31, 32, 33] (by decide +kernel) (by decide +kernel)
set_option maxRecDepth 20000 in
theorem gX2_canTake_Jx4a65c_get_915e3 : GoodIn wsX2_canTake (wsV RX2 22 RJx4a65c yJx4a65c_get_915e3 wsJx4a65c_get_915e3) := goodIn_app (goodIn_of _ (by decide +kernel)) ggX2_canTake_Jx4a65c_get_915e3
theorem dX2_canTake_0 : decode cX2_canTake 0 = .ok (.aload_n 0, 1) := by decide +kernel
theorem dX2_canTake_1 : decode cX2_canTake 1 = .ok (.getfield 12, 3) := by decide +kernel
theorem dX2_canTake_4 : decode cX2_canTake 4 = .ok (.invokevirtual 18, 3) := by decide +kernel
theorem dX2_canTake_7 : decode cX2_canTake 7 = .ok (.istore 5, 2) := by decide +kernel
theorem dX2_canTake_9 : decode cX2_canTake 9 = .ok (.iload 5, 2) := by decide +kernel
theorem dX2_canTake_11 : decode cX2_canTake 11 = .ok (.ifCond .ne 5, 3) := by decide +kernel
theorem dX2_canTake_14 : decode cX2_canTake 14 = .ok (.iconst 1, 1) := by decide +kernel
theorem dX2_canTake_15 : decode cX2_canTake 15 = .ok (.ireturn, 1) := by decide +kernel
theorem dX2_canTake_16 : decode cX2_canTake 16 = .ok (.aload_n 0, 1) := by decide +kernel
theorem dX2_canTake_17 : decode cX2_canTake 17 = .ok (.getfield 12, 3) := by decide +kernel
theorem dX2_canTake_20 : decode cX2_canTake 20 = .ok (.iload 5, 2) := by decide +kernel
theorem dX2_canTake_22 : decode cX2_canTake 22 = .ok (.iconst 1, 1) := by decide +kernel
theorem dX2_canTake_23 : decode cX2_canTake 23 = .ok (.isub, 1) := by decide +kernel
theorem dX2_canTake_24 : decode cX2_canTake 24 = .ok (.invokevirtual 22, 3) := by decide +kernel
theorem dX2_canTake_27 : decode cX2_canTake 27 = .ok (.checkcast 26, 3) := by decide +kernel
theorem dX2_canTake_30 : decode cX2_canTake 30 = .ok (.astore 6, 2) := by decide +kernel
theorem dX2_canTake_32 : decode cX2_canTake 32 = .ok (.iload 5, 2) := by decide +kernel
theorem dX2_canTake_34 : decode cX2_canTake 34 = .ok (.bipush 8, 2) := by decide +kernel
theorem dX2_canTake_36 : decode cX2_canTake 36 = .ok (.if_icmp .ge 27, 3) := by decide +kernel
theorem dX2_canTake_39 : decode cX2_canTake 39 = .ok (.lload_n 1, 1) := by decide +kernel
theorem dX2_canTake_40 : decode cX2_canTake 40 = .ok (.aload 6, 2) := by decide +kernel
theorem dX2_canTake_42 : decode cX2_canTake 42 = .ok (.getfield 28, 3) := by decide +kernel
theorem dX2_canTake_45 : decode cX2_canTake 45 = .ok (.lcmp, 1) := by decide +kernel
theorem dX2_canTake_46 : decode cX2_canTake 46 = .ok (.ifCond .le 17, 3) := by decide +kernel
theorem dX2_canTake_49 : decode cX2_canTake 49 = .ok (.lload_n 3, 1) := by decide +kernel
theorem dX2_canTake_50 : decode cX2_canTake 50 = .ok (.aload 6, 2) := by decide +kernel
theorem dX2_canTake_52 : decode cX2_canTake 52 = .ok (.getfield 32, 3) := by decide +kernel
theorem dX2_canTake_55 : decode cX2_canTake 55 = .ok (.lcmp, 1) := by decide +kernel
theorem dX2_canTake_56 : decode cX2_canTake 56 = .ok (.ifCond .le 7, 3) := by decide +kernel
theorem dX2_canTake_59 : decode cX2_canTake 59 = .ok (.iconst 1, 1) := by decide +kernel
theorem dX2_canTake_60 : decode cX2_canTake 60 = .ok (.goto 4, 3) := by decide +kernel
theorem dX2_canTake_63 : decode cX2_canTake 63 = .ok (.iconst 0, 1) := by decide +kernel
theorem dX2_canTake_64 : decode cX2_canTake 64 = .ok (.ireturn, 1) := by decide +kernel
set_option maxRecDepth 20000 in
theorem ggX2_take_X0_init : GoodIn wsX2_take wsX0_init := goodIn_r _ [7, 8, 9, 10, 11, 12, 74, 75] (by decide +kernel) (by decide +kernel)
set_option maxRecDepth 20000 in
theorem gX2_take_X0_init : GoodIn wsX2_take (wsX0_init) := ggX2_take_X0_init
set_option maxRecDepth 20000 in
theorem ggX2_take_Jx4a65c_add_9ea2d : GoodIn wsX2_take wsJx4a65c_add_9ea2d := goodIn_r _ [17, 18, 19, 20, 21, 22, 23, 24, 16, 25, 26, 27, 28, 29, 30, 31, 32, 33, 34, 35, 36, 37, 38, 39, 40, 41, 42, 43, 44, 45, 46, 47, 48, 49, 50, 51, 52, 53, 54, 55, 56, 57, 58, 59, 60, 61, 62, 63, 64, 65, 66, 67, 68, 76, 77, 78] (by decide +kernel) (by decide +kernel)
set_option maxRecDepth 20000 in
theorem gX2_take_Jx4a65c_add_9ea2d : GoodIn wsX2_take (wsV RX2 38 RJx4a65c yJx4a65c_add_9ea2d wsJx4a65c_add_9ea2d) := goodIn_app (goodIn_of _ (by decide +kernel)) ggX2_take_Jx4a65c_add_9ea2d
set_option maxRecDepth 20000 in
theorem ggX2_take_Jx4a65c_size_8abf5 : GoodIn wsX2_take wsJx4a65c_size_8abf5 := goodIn_r _ [72, 21, 76, 77, 78] (by decide +kernel) (by decide +kernel)
set_option maxRecDepth 20000 in
theorem gX2_take_Jx4a65c_size_8abf5 : GoodIn wsX2_take (wsV RX2 18 RJx4a65c yJx4a65c_size_8abf5 wsJx4a65c_size_8abf5) := goodIn_app (goodIn_of _ (by decide +kernel)) ggX2_take_Jx4a65c_size_8abf5
theorem dX2_take_0 : decode cX2_take 0 = .ok (.aload_n 0, 1) := by decide +kernel
theorem dX2_take_1 : decode cX2_take 1 = .ok (.getfield 12, 3) := by decide +kernel
theorem dX2_take_4 : decode cX2_take 4 = .ok (.new 26, 3) := by decide +kernel
theorem dX2_take_7 : decode cX2_take 7 = .ok (.dup, 1) := by decide +kernel
theorem dX2_take_8 : decode cX2_take 8 = .ok (.lload_n 1, 1) := by decide +kernel
theorem dX2_take_9 : decode cX2_take 9 = .ok (.lload_n 3, 1) := by decide +kernel
theorem dX2_take_10 : decode cX2_take 10 = .ok (.invokespecial 35, 3) := by decide +kernel
theorem dX2_take_13 : decode cX2_take 13 = .ok (.invokevirtual 38, 3) := by decide +kernel
theorem dX2_take_16 : decode cX2_take 16 = .ok (.pop, 1) := by decide +kernel
theorem dX2_take_17 : decode cX2_take 17 = .ok (.aload_n 0, 1) := by decide +kernel
theorem dX2_take_18 : decode cX2_take 18 = .ok (.getfield 12, 3) := by decide +kernel
theorem dX2_take_21 : decode cX2_take 21 = .ok (.invokevirtual 18, 3) := by decide +kernel
theorem dX2_take_24 : decode cX2_take 24 = .ok (.ireturn, 1) := by decide +kernel
set_option maxRecDepth 20000 in
theorem ggX2_lackFor_Jx4a65c_size_8abf5 : GoodIn wsX2_lackFor wsJx4a65c_size_8abf5 := goodIn_r _ [8, 9, 30, 31, 32] (by decide +kernel) (by decide +kernel)
set_option maxRecDepth 20000 in
theorem gX2_lackFor_Jx4a65c_size_8abf5 : GoodIn wsX2_lackFor (wsV RX2 18 RJx4a65c yJx4a65c_size_8abf5 wsJx4a65c_size_8abf5) := goodIn_app (goodIn_of _ (by decide +kernel)) ggX2_lackFor_Jx4a65c_size_8abf5
set_option maxRecDepth 20000 in
theorem ggX2_lackFor_Jx4a65c_get_915e3 : GoodIn wsX2_lackFor wsJx4a65c_get_915e3 := goodIn_r _ [13, 9, 14, 15, 16, 17, 18, 19, 20, 21, 22, 23, 24, 7, 25, 26, 30, 31, 32] (by decide +kernel) (by decide +kernel)
set_option maxRecDepth 20000 in
theorem gX2_lackFor_Jx4a65c_get_915e3 : GoodIn wsX2_lackFor (wsV RX2 22 RJx4a65c yJx4a65c_get_915e3 wsJx4a65c_get_915e3) := goodIn_app (goodIn_of _ (by decide +kernel)) ggX2_lackFor_Jx4a65c_get_915e3
theorem dX2_lackFor_0 : decode cX2_lackFor 0 = .ok (.aload_n 0, 1) := by decide +kernel
theorem dX2_lackFor_1 : decode cX2_lackFor 1 = .ok (.getfield 12, 3) := by decide +kernel
theorem dX2_lackFor_4 : decode cX2_lackFor 4 = .ok (.invokevirtual 18, 3) := by decide +kernel
theorem dX2_lackFor_7 : decode cX2_lackFor 7 = .ok (.istore_n 3, 1) := by decide +kernel
theorem dX2_lackFor_8 : decode cX2_lackFor 8 = .ok (.iload_n 3, 1) := by decide +kernel
theorem dX2_lackFor_9 : decode cX2_lackFor 9 = .ok (.iconst 2, 1) := by decide +kernel
theorem dX2_lackFor_10 : decode cX2_lackFor 10 = .ok (.if_icmp .ge 5, 3) := by decide +kernel
theorem dX2_lackFor_13 : decode cX2_lackFor 13 = .ok (.iconst 1, 1) := by decide +kernel
theorem dX2_lackFor_14 : decode cX2_lackFor 14 = .ok (.ireturn, 1) := by decide +kernel
theorem dX2_lackFor_15 : decode cX2_lackFor 15 = .ok (.lload_n 1, 1) := by decide +kernel
theorem dX2_lackFor_16 : decode cX2_lackFor 16 = .ok (.aload_n 0, 1) := by decide +kernel
theorem dX2_lackFor_17 : decode cX2_lackFor 17 = .ok (.getfield 12, 3) := by decide +kernel
theorem dX2_lackFor_20 : decode cX2_lackFor 20 = .ok (.iload_n 3, 1) := by decide +kernel
theorem dX2_lackFor_21 : decode cX2_lackFor 21 = .ok (.iconst 1, 1) := by decide +kernel
theorem dX2_lackFor_22 : decode cX2_lackFor 22 = .ok (.isub, 1) := by decide +kernel
theorem dX2_lackFor_23 : decode cX2_lackFor 23 = .ok (.invokevirtual 22, 3) := by decide +kernel
theorem dX2_lackFor_26 : decode cX2_lackFor 26 = .ok (.checkcast 26, 3) := by decide +kernel
theorem dX2_lackFor_29 : decode cX2_lackFor 29 = .ok (.getfield 32, 3) := by decide +kernel
theorem dX2_lackFor_32 : decode cX2_lackFor 32 = .ok (.lcmp, 1) := by decide +kernel
theorem dX2_lackFor_33 : decode cX2_lackFor 33 = .ok (.ifCond .le 7, 3) := by decide +kernel
theorem dX2_lackFor_36 : decode cX2_lackFor 36 = .ok (.iconst 2, 1) := by decide +kernel
theorem dX2_lackFor_37 : decode cX2_lackFor 37 = .ok (.goto 4, 3) := by decide +kernel
theorem dX2_lackFor_40 : decode cX2_lackFor 40 = .ok (.iconst 0, 1) := by decide +kernel
theorem dX2_lackFor_41 : decode cX2_lackFor 41 = .ok (.ireturn, 1) := by decide +kernel
set_option maxRecDepth 20000 in
theorem ggX2_yearsOf_Jx4a65c_size_8abf5 : GoodIn wsX2_yearsOf wsJx4a65c_size_8abf5 := goodIn_r _ [9, 10, 35, 36, 37] (by decide +kernel) (by decide +kernel)
set_option maxRecDepth 20000 in
theorem gX2_yearsOf_Jx4a65c_size_8abf5 : GoodIn wsX2_yearsOf (wsV RX2 18 RJx4a65c yJx4a65c_size_8abf5 wsJx4a65c_size_8abf5) := goodIn_app (goodIn_of _ (by decide +kernel)) ggX2_yearsOf_Jx4a65c_size_8abf5
set_option maxRecDepth 20000 in
theorem ggX2_yearsOf_Jx4a65c_get_915e3 : GoodIn wsX2_yearsOf wsJx4a65c_get_915e3 := goodIn_r _ [14, 10, 15, 16, 17, 18, 19, 20, 21, 22, 23, 24, 25, 8, 26, 27, 35, 36, 37] (by decide +kernel) (by decide +kernel)
set_option maxRecDepth 20000 in
theorem gX2_yearsOf_Jx4a65c_get_915e3 : GoodIn wsX2_yearsOf (wsV RX2 22 RJx4a65c yJx4a65c_get_915e3 wsJx4a65c_get_915e3) := goodIn_app (goodIn_of _ (by decide +kernel)) ggX2_yearsOf_Jx4a65c_get_915e3
set_option maxRecDepth 20000 in
theorem ggX2_yearsOf_X2_dividedDown : GoodIn wsX2_yearsOf wsX2_dividedDown := goodIn_r _ [31] (by decide +kernel) (by decide +kernel)
set_option maxRecDepth 20000 in
theorem gX2_yearsOf_X2_dividedDown : GoodIn wsX2_yearsOf (va_wsS RX2 42 yX2_dividedDown wsX2_dividedDown) := goodIn_app (goodIn_of _ (by decide +kernel)) ggX2_yearsOf_X2_dividedDown
theorem dX2_yearsOf_0 : decode cX2_yearsOf 0 = .ok (.lconst 0, 1) := by decide +kernel
theorem dX2_yearsOf_1 : decode cX2_yearsOf 1 = .ok (.lstore_n 3, 1) := by decide +kernel
theorem dX2_yearsOf_2 : decode cX2_yearsOf 2 = .ok (.lconst 0, 1) := by decide +kernel
theorem dX2_yearsOf_3 : decode cX2_yearsOf 3 = .ok (.lstore 5, 2) := by decide +kernel
theorem dX2_yearsOf_5 : decode cX2_yearsOf 5 = .ok (.iconst 0, 1) := by decide +kernel
theorem dX2_yearsOf_6 : decode cX2_yearsOf 6 = .ok (.istore 7, 2) := by decide +kernel
theorem dX2_yearsOf_8 : decode cX2_yearsOf 8 = .ok (.iload 7, 2) := by decide +kernel
theorem dX2_yearsOf_10 : decode cX2_yearsOf 10 = .ok (.aload_n 0, 1) := by decide +kernel
theorem dX2_yearsOf_11 : decode cX2_yearsOf 11 = .ok (.getfield 12, 3) := by decide +kernel
theorem dX2_yearsOf_14 : decode cX2_yearsOf 14 = .ok (.invokevirtual 18, 3) := by decide +kernel
theorem dX2_yearsOf_17 : decode cX2_yearsOf 17 = .ok (.if_icmp .ge 76, 3) := by decide +kernel
theorem dX2_yearsOf_20 : decode cX2_yearsOf 20 = .ok (.aload_n 0, 1) := by decide +kernel
theorem dX2_yearsOf_21 : decode cX2_yearsOf 21 = .ok (.getfield 12, 3) := by decide +kernel
theorem dX2_yearsOf_24 : decode cX2_yearsOf 24 = .ok (.iload 7, 2) := by decide +kernel
theorem dX2_yearsOf_26 : decode cX2_yearsOf 26 = .ok (.invokevirtual 22, 3) := by decide +kernel
theorem dX2_yearsOf_29 : decode cX2_yearsOf 29 = .ok (.checkcast 26, 3) := by decide +kernel
theorem dX2_yearsOf_32 : decode cX2_yearsOf 32 = .ok (.astore 8, 2) := by decide +kernel
theorem dX2_yearsOf_34 : decode cX2_yearsOf 34 = .ok (.lload_n 1, 1) := by decide +kernel
theorem dX2_yearsOf_35 : decode cX2_yearsOf 35 = .ok (.aload 8, 2) := by decide +kernel
theorem dX2_yearsOf_37 : decode cX2_yearsOf 37 = .ok (.getfield 32, 3) := by decide +kernel
theorem dX2_yearsOf_40 : decode cX2_yearsOf 40 = .ok (.lcmp, 1) := by decide +kernel
theorem dX2_yearsOf_41 : decode cX2_yearsOf 41 = .ok (.ifCond .gt 33, 3) := by decide +kernel
theorem dX2_yearsOf_44 : decode cX2_yearsOf 44 = .ok (.aload 8, 2) := by decide +kernel
theorem dX2_yearsOf_46 : decode cX2_yearsOf 46 = .ok (.getfield 28, 3) := by decide +kernel
theorem dX2_yearsOf_49 : decode cX2_yearsOf 49 = .ok (.lload_n 3, 1) := by decide +kernel
theorem dX2_yearsOf_50 : decode cX2_yearsOf 50 = .ok (.lsub, 1) := by decide +kernel
theorem dX2_yearsOf_51 : decode cX2_yearsOf 51 = .ok (.lload_n 1, 1) := by decide +kernel
theorem dX2_yearsOf_52 : decode cX2_yearsOf 52 = .ok (.lload 5, 2) := by decide +kernel
theorem dX2_yearsOf_54 : decode cX2_yearsOf 54 = .ok (.lsub, 1) := by decide +kernel
theorem dX2_yearsOf_55 : decode cX2_yearsOf 55 = .ok (.lmul, 1) := by decide +kernel
theorem dX2_yearsOf_56 : decode cX2_yearsOf 56 = .ok (.lstore 9, 2) := by decide +kernel
theorem dX2_yearsOf_58 : decode cX2_yearsOf 58 = .ok (.lload_n 3, 1) := by decide +kernel
theorem dX2_yearsOf_59 : decode cX2_yearsOf 59 = .ok (.lload 9, 2) := by decide +kernel
theorem dX2_yearsOf_61 : decode cX2_yearsOf 61 = .ok (.aload 8, 2) := by decide +kernel
theorem dX2_yearsOf_63 : decode cX2_yearsOf 63 = .ok (.getfield 32, 3) := by decide +kernel
theorem dX2_yearsOf_66 : decode cX2_yearsOf 66 = .ok (.lload 5, 2) := by decide +kernel
theorem dX2_yearsOf_68 : decode cX2_yearsOf 68 = .ok (.lsub, 1) := by decide +kernel
theorem dX2_yearsOf_69 : decode cX2_yearsOf 69 = .ok (.invokestatic 42, 3) := by decide +kernel
theorem dX2_yearsOf_72 : decode cX2_yearsOf 72 = .ok (.ladd, 1) := by decide +kernel
theorem dX2_yearsOf_73 : decode cX2_yearsOf 73 = .ok (.lreturn, 1) := by decide +kernel
theorem dX2_yearsOf_74 : decode cX2_yearsOf 74 = .ok (.aload 8, 2) := by decide +kernel
theorem dX2_yearsOf_76 : decode cX2_yearsOf 76 = .ok (.getfield 28, 3) := by decide +kernel
theorem dX2_yearsOf_79 : decode cX2_yearsOf 79 = .ok (.lstore_n 3, 1) := by decide +kernel
theorem dX2_yearsOf_80 : decode cX2_yearsOf 80 = .ok (.aload 8, 2) := by decide +kernel
theorem dX2_yearsOf_82 : decode cX2_yearsOf 82 = .ok (.getfield 32, 3) := by decide +kernel
theorem dX2_yearsOf_85 : decode cX2_yearsOf 85 = .ok (.lstore 5, 2) := by decide +kernel
theorem dX2_yearsOf_87 : decode cX2_yearsOf 87 = .ok (.iinc 7 1, 3) := by decide +kernel
theorem dX2_yearsOf_90 : decode cX2_yearsOf 90 = .ok (.goto (-82), 3) := by decide +kernel
theorem dX2_yearsOf_93 : decode cX2_yearsOf 93 = .ok (.lload_n 3, 1) := by decide +kernel
theorem dX2_yearsOf_94 : decode cX2_yearsOf 94 = .ok (.lreturn, 1) := by decide +kernel
theorem dX2_dividedDown_0 : decode cX2_dividedDown 0 = .ok (.lload_n 2, 1) := by decide +kernel
theorem dX2_dividedDown_1 : decode cX2_dividedDown 1 = .ok (.lconst 0, 1) := by decide +kernel
theorem dX2_dividedDown_2 : decode cX2_dividedDown 2 = .ok (.lcmp, 1) := by decide +kernel
theorem dX2_dividedDown_3 : decode cX2_dividedDown 3 = .ok (.ifCond .le 9, 3) := by decide +kernel
theorem dX2_dividedDown_6 : decode cX2_dividedDown 6 = .ok (.lload_n 0, 1) := by decide +kernel
theorem dX2_dividedDown_7 : decode cX2_dividedDown 7 = .ok (.lload_n 2, 1) := by decide +kernel
theorem dX2_dividedDown_8 : decode cX2_dividedDown 8 = .ok (.ldiv, 1) := by decide +kernel
theorem dX2_dividedDown_9 : decode cX2_dividedDown 9 = .ok (.goto 4, 3) := by decide +kernel
theorem dX2_dividedDown_12 : decode cX2_dividedDown 12 = .ok (.lconst 0, 1) := by decide +kernel
theorem dX2_dividedDown_13 : decode cX2_dividedDown 13 = .ok (.lreturn, 1) := by decide +kernel
theorem dX3_init_0 : decode cX3_init 0 = .ok (.aload_n 0, 1) := by decide +kernel
theorem dX3_init_1 : decode cX3_init 1 = .ok (.invokespecial 1, 3) := by decide +kernel
theorem dX3_init_4 : decode cX3_init 4 = .ok (.aload_n 0, 1) := by decide +kernel
theorem dX3_init_5 : decode cX3_init 5 = .ok (.iload_n 1, 1) := by decide +kernel
theorem dX3_init_6 : decode cX3_init 6 = .ok (.putfield 7, 3) := by decide +kernel
theorem dX3_init_9 : decode cX3_init 9 = .ok (.return_, 1) := by decide +kernel
theorem dX3_sees_0 : decode cX3_sees 0 = .ok (.aload_n 1, 1) := by decide +kernel
theorem dX3_sees_1 : decode cX3_sees 1 = .ok (.getfield 13, 3) := by decide +kernel
theorem dX3_sees_4 : decode cX3_sees 4 = .ok (.ifCond .le 21, 3) := by decide +kernel
theorem dX3_sees_7 : decode cX3_sees 7 = .ok (.aload_n 1, 1) := by decide +kernel
theorem dX3_sees_8 : decode cX3_sees 8 = .ok (.getfield 13, 3) := by decide +kernel
theorem dX3_sees_11 : decode cX3_sees 11 = .ok (.bipush 10, 2) := by decide +kernel
theorem dX3_sees_13 : decode cX3_sees 13 = .ok (.aload_n 0, 1) := by decide +kernel
theorem dX3_sees_14 : decode cX3_sees 14 = .ok (.getfield 7, 3) := by decide +kernel
theorem dX3_sees_17 : decode cX3_sees 17 = .ok (.isub, 1) := by decide +kernel
theorem dX3_sees_18 : decode cX3_sees 18 = .ok (.if_icmp .lt 7, 3) := by decide +kernel
theorem dX3_sees_21 : decode cX3_sees 21 = .ok (.iconst 1, 1) := by decide +kernel
theorem dX3_sees_22 : decode cX3_sees 22 = .ok (.goto 4, 3) := by decide +kernel
theorem dX3_sees_25 : decode cX3_sees 25 = .ok (.iconst 0, 1) := by decide +kernel
theorem dX3_sees_26 : decode cX3_sees 26 = .ok (.ireturn, 1) := by decide +kernel
theorem dX4_init_0 : decode cX4_init 0 = .ok (.aload_n 0, 1) := by decide +kernel
theorem dX4_init_1 : decode cX4_init 1 = .ok (.invokespecial 1, 3) := by decide +kernel
theorem dX4_init_4 : decode cX4_init 4 = .ok (.aload_n 0, 1) := by decide +kernel
theorem dX4_init_5 : decode cX4_init 5 = .ok (.iload_n 1, 1) := by decide +kernel
theorem dX4_init_6 : decode cX4_init 6 = .ok (.putfield 7, 3) := by decide +kernel
theorem dX4_init_9 : decode cX4_init 9 = .ok (.aload_n 0, 1) := by decide +kernel
theorem dX4_init_10 : decode cX4_init 10 = .ok (.iload_n 2, 1) := by decide +kernel
theorem dX4_init_11 : decode cX4_init 11 = .ok (.putfield 13, 3) := by decide +kernel
theorem dX4_init_14 : decode cX4_init 14 = .ok (.aload_n 0, 1) := by decide +kernel
theorem dX4_init_15 : decode cX4_init 15 = .ok (.iload_n 3, 1) := by decide +kernel
theorem dX4_init_16 : decode cX4_init 16 = .ok (.putfield 16, 3) := by decide +kernel
theorem dX4_init_19 : decode cX4_init 19 = .ok (.aload_n 0, 1) := by decide +kernel
theorem dX4_init_20 : decode cX4_init 20 = .ok (.iload 4, 2) := by decide +kernel
theorem dX4_init_22 : decode cX4_init 22 = .ok (.putfield 19, 3) := by decide +kernel
theorem dX4_init_25 : decode cX4_init 25 = .ok (.return_, 1) := by decide +kernel
theorem dX4_has_0 : decode cX4_has 0 = .ok (.iload_n 1, 1) := by decide +kernel
theorem dX4_has_1 : decode cX4_has 1 = .ok (.aload_n 0, 1) := by decide +kernel
theorem dX4_has_2 : decode cX4_has 2 = .ok (.getfield 7, 3) := by decide +kernel
theorem dX4_has_5 : decode cX4_has 5 = .ok (.if_icmp .lt 31, 3) := by decide +kernel
theorem dX4_has_8 : decode cX4_has 8 = .ok (.iload_n 1, 1) := by decide +kernel
theorem dX4_has_9 : decode cX4_has 9 = .ok (.aload_n 0, 1) := by decide +kernel
theorem dX4_has_10 : decode cX4_has 10 = .ok (.getfield 16, 3) := by decide +kernel
theorem dX4_has_13 : decode cX4_has 13 = .ok (.if_icmp .gt 23, 3) := by decide +kernel
theorem dX4_has_16 : decode cX4_has 16 = .ok (.iload_n 2, 1) := by decide +kernel
theorem dX4_has_17 : decode cX4_has 17 = .ok (.aload_n 0, 1) := by decide +kernel
theorem dX4_has_18 : decode cX4_has 18 = .ok (.getfield 13, 3) := by decide +kernel
theorem dX4_has_21 : decode cX4_has 21 = .ok (.if_icmp .lt 15, 3) := by decide +kernel
theorem dX4_has_24 : decode cX4_has 24 = .ok (.iload_n 2, 1) := by decide +kernel
theorem dX4_has_25 : decode cX4_has 25 = .ok (.aload_n 0, 1) := by decide +kernel
theorem dX4_has_26 : decode cX4_has 26 = .ok (.getfield 19, 3) := by decide +kernel
theorem dX4_has_29 : decode cX4_has 29 = .ok (.if_icmp .gt 7, 3) := by decide +kernel
theorem dX4_has_32 : decode cX4_has 32 = .ok (.iconst 1, 1) := by decide +kernel
theorem dX4_has_33 : decode cX4_has 33 = .ok (.goto 4, 3) := by decide +kernel
theorem dX4_has_36 : decode cX4_has 36 = .ok (.iconst 0, 1) := by decide +kernel
theorem dX4_has_37 : decode cX4_has 37 = .ok (.ireturn, 1) := by decide +kernel
theorem dX4_cells_0 : decode cX4_cells 0 = .ok (.aload_n 0, 1) := by decide +kernel
theorem dX4_cells_1 : decode cX4_cells 1 = .ok (.getfield 16, 3) := by decide +kernel
theorem dX4_cells_4 : decode cX4_cells 4 = .ok (.aload_n 0, 1) := by decide +kernel
theorem dX4_cells_5 : decode cX4_cells 5 = .ok (.getfield 7, 3) := by decide +kernel
theorem dX4_cells_8 : decode cX4_cells 8 = .ok (.isub, 1) := by decide +kernel
theorem dX4_cells_9 : decode cX4_cells 9 = .ok (.iconst 1, 1) := by decide +kernel
theorem dX4_cells_10 : decode cX4_cells 10 = .ok (.iadd, 1) := by decide +kernel
theorem dX4_cells_11 : decode cX4_cells 11 = .ok (.aload_n 0, 1) := by decide +kernel
theorem dX4_cells_12 : decode cX4_cells 12 = .ok (.getfield 19, 3) := by decide +kernel
theorem dX4_cells_15 : decode cX4_cells 15 = .ok (.aload_n 0, 1) := by decide +kernel
theorem dX4_cells_16 : decode cX4_cells 16 = .ok (.getfield 13, 3) := by decide +kernel
theorem dX4_cells_19 : decode cX4_cells 19 = .ok (.isub, 1) := by decide +kernel
theorem dX4_cells_20 : decode cX4_cells 20 = .ok (.iconst 1, 1) := by decide +kernel
theorem dX4_cells_21 : decode cX4_cells 21 = .ok (.iadd, 1) := by decide +kernel
theorem dX4_cells_22 : decode cX4_cells 22 = .ok (.imul, 1) := by decide +kernel
theorem dX4_cells_23 : decode cX4_cells 23 = .ok (.ireturn, 1) := by decide +kernel
set_option maxRecDepth 20000 in
theorem ggX5_init_X7_init : GoodIn wsX5_init wsX7_init := goodIn_r _ [6, 7, 8, 9, 10, 11, 12, 13, 14, 15, 16] (by decide +kernel) (by decide +kernel)
set_option maxRecDepth 20000 in
theorem gX5_init_X7_init : GoodIn wsX5_init (wsX7_init) := ggX5_init_X7_init
theorem dX5_init_0 : decode cX5_init 0 = .ok (.aload_n 0, 1) := by decide +kernel
theorem dX5_init_1 : decode cX5_init 1 = .ok (.iload_n 1, 1) := by decide +kernel
theorem dX5_init_2 : decode cX5_init 2 = .ok (.invokespecial 1, 3) := by decide +kernel
theorem dX5_init_5 : decode cX5_init 5 = .ok (.aload_n 0, 1) := by decide +kernel
theorem dX5_init_6 : decode cX5_init 6 = .ok (.aload_n 2, 1) := by decide +kernel
theorem dX5_init_7 : decode cX5_init 7 = .ok (.putfield 7, 3) := by decide +kernel
theorem dX5_init_10 : decode cX5_init 10 = .ok (.aload_n 0, 1) := by decide +kernel
theorem dX5_init_11 : decode cX5_init 11 = .ok (.iload_n 3, 1) := by decide +kernel
theorem dX5_init_12 : decode cX5_init 12 = .ok (.putfield 13, 3) := by decide +kernel
theorem dX5_init_15 : decode cX5_init 15 = .ok (.return_, 1) := by decide +kernel
set_option maxRecDepth 20000 in
theorem ggX5_lossOf_X4_has : GoodIn wsX5_lossOf wsX4_has := goodIn_r _ [9, 10, 11, 12, 13, 23, 24, 25, 26] (by decide +kernel) (by decide +kernel)
set_option maxRecDepth 20000 in
theorem gX5_lossOf_X4_has : GoodIn wsX5_lossOf (wsV RX5 25 RX4 yX4_has wsX4_has) := goodIn_app (goodIn_of _ (by decide +kernel)) ggX5_lossOf_X4_has
theorem dX5_lossOf_0 : decode cX5_lossOf 0 = .ok (.aload_n 0, 1) := by decide +kernel
theorem dX5_lossOf_1 : decode cX5_lossOf 1 = .ok (.getfield 7, 3) := by decide +kernel
theorem dX5_lossOf_4 : decode cX5_lossOf 4 = .ok (.aload_n 1, 1) := by decide +kernel
theorem dX5_lossOf_5 : decode cX5_lossOf 5 = .ok (.getfield 17, 3) := by decide +kernel
theorem dX5_lossOf_8 : decode cX5_lossOf 8 = .ok (.aload_n 1, 1) := by decide +kernel
theorem dX5_lossOf_9 : decode cX5_lossOf 9 = .ok (.getfield 22, 3) := by decide +kernel
theorem dX5_lossOf_12 : decode cX5_lossOf 12 = .ok (.invokevirtual 25, 3) := by decide +kernel
theorem dX5_lossOf_15 : decode cX5_lossOf 15 = .ok (.ifCond .eq 10, 3) := by decide +kernel
theorem dX5_lossOf_18 : decode cX5_lossOf 18 = .ok (.aload_n 0, 1) := by decide +kernel
theorem dX5_lossOf_19 : decode cX5_lossOf 19 = .ok (.getfield 13, 3) := by decide +kernel
theorem dX5_lossOf_22 : decode cX5_lossOf 22 = .ok (.goto 4, 3) := by decide +kernel
theorem dX5_lossOf_25 : decode cX5_lossOf 25 = .ok (.iconst 0, 1) := by decide +kernel
theorem dX5_lossOf_26 : decode cX5_lossOf 26 = .ok (.ireturn, 1) := by decide +kernel
theorem dX6_init_0 : decode cX6_init 0 = .ok (.aload_n 0, 1) := by decide +kernel
theorem dX6_init_1 : decode cX6_init 1 = .ok (.invokespecial 3, 3) := by decide +kernel
theorem dX6_init_4 : decode cX6_init 4 = .ok (.aload_n 0, 1) := by decide +kernel
theorem dX6_init_5 : decode cX6_init 5 = .ok (.aload_n 1, 1) := by decide +kernel
theorem dX6_init_6 : decode cX6_init 6 = .ok (.putfield 9, 3) := by decide +kernel
theorem dX6_init_9 : decode cX6_init 9 = .ok (.return_, 1) := by decide +kernel
set_option maxRecDepth 20000 in
theorem ggX6_copy_X6_init : GoodIn wsX6_copy wsX6_init := goodIn_r _ [13, 14, 15, 16, 4, 17] (by decide +kernel) (by decide +kernel)
set_option maxRecDepth 20000 in
theorem gX6_copy_X6_init : GoodIn wsX6_copy (wsX6_init) := ggX6_copy_X6_init
theorem dX6_copy_0 : decode cX6_copy 0 = .ok (.new 10, 3) := by decide +kernel
theorem dX6_copy_3 : decode cX6_copy 3 = .ok (.dup, 1) := by decide +kernel
theorem dX6_copy_4 : decode cX6_copy 4 = .ok (.aload_n 0, 1) := by decide +kernel
theorem dX6_copy_5 : decode cX6_copy 5 = .ok (.getfield 9, 3) := by decide +kernel
theorem dX6_copy_8 : decode cX6_copy 8 = .ok (.invokevirtual 15, 3) := by decide +kernel
theorem dX6_copy_11 : decode cX6_copy 11 = .ok (.checkcast 16, 3) := by decide +kernel
theorem dX6_copy_14 : decode cX6_copy 14 = .ok (.invokespecial 20, 3) := by decide +kernel
theorem dX6_copy_17 : decode cX6_copy 17 = .ok (.areturn, 1) := by decide +kernel
theorem dX6_kindAt_0 : decode cX6_kindAt 0 = .ok (.iload_n 2, 1) := by decide +kernel
theorem dX6_kindAt_1 : decode cX6_kindAt 1 = .ok (.ifCond .lt 12, 3) := by decide +kernel
theorem dX6_kindAt_4 : decode cX6_kindAt 4 = .ok (.iload_n 2, 1) := by decide +kernel
theorem dX6_kindAt_5 : decode cX6_kindAt 5 = .ok (.aload_n 0, 1) := by decide +kernel
theorem dX6_kindAt_6 : decode cX6_kindAt 6 = .ok (.getfield 9, 3) := by decide +kernel
theorem dX6_kindAt_9 : decode cX6_kindAt 9 = .ok (.arraylength, 1) := by decide +kernel
theorem dX6_kindAt_10 : decode cX6_kindAt 10 = .ok (.if_icmp .lt 5, 3) := by decide +kernel
theorem dX6_kindAt_13 : decode cX6_kindAt 13 = .ok (.iconst 0, 1) := by decide +kernel
theorem dX6_kindAt_14 : decode cX6_kindAt 14 = .ok (.ireturn, 1) := by decide +kernel
theorem dX6_kindAt_15 : decode cX6_kindAt 15 = .ok (.aload_n 0, 1) := by decide +kernel
theorem dX6_kindAt_16 : decode cX6_kindAt 16 = .ok (.getfield 9, 3) := by decide +kernel
theorem dX6_kindAt_19 : decode cX6_kindAt 19 = .ok (.iload_n 2, 1) := by decide +kernel
theorem dX6_kindAt_20 : decode cX6_kindAt 20 = .ok (.iaload, 1) := by decide +kernel
theorem dX6_kindAt_21 : decode cX6_kindAt 21 = .ok (.iconst 2, 1) := by decide +kernel
theorem dX6_kindAt_22 : decode cX6_kindAt 22 = .ok (.iload_n 1, 1) := by decide +kernel
theorem dX6_kindAt_23 : decode cX6_kindAt 23 = .ok (.imul, 1) := by decide +kernel
theorem dX6_kindAt_24 : decode cX6_kindAt 24 = .ok (.iushr, 1) := by decide +kernel
theorem dX6_kindAt_25 : decode cX6_kindAt 25 = .ok (.iconst 3, 1) := by decide +kernel
theorem dX6_kindAt_26 : decode cX6_kindAt 26 = .ok (.iand, 1) := by decide +kernel
theorem dX6_kindAt_27 : decode cX6_kindAt 27 = .ok (.ireturn, 1) := by decide +kernel
theorem dX6_setKind_0 : decode cX6_setKind 0 = .ok (.iload_n 2, 1) := by decide +kernel
theorem dX6_setKind_1 : decode cX6_setKind 1 = .ok (.ifCond .lt 38, 3) := by decide +kernel
theorem dX6_setKind_4 : decode cX6_setKind 4 = .ok (.iload_n 2, 1) := by decide +kernel
theorem dX6_setKind_5 : decode cX6_setKind 5 = .ok (.aload_n 0, 1) := by decide +kernel
theorem dX6_setKind_6 : decode cX6_setKind 6 = .ok (.getfield 9, 3) := by decide +kernel
theorem dX6_setKind_9 : decode cX6_setKind 9 = .ok (.arraylength, 1) := by decide +kernel
theorem dX6_setKind_10 : decode cX6_setKind 10 = .ok (.if_icmp .ge 29, 3) := by decide +kernel
theorem dX6_setKind_13 : decode cX6_setKind 13 = .ok (.aload_n 0, 1) := by decide +kernel
theorem dX6_setKind_14 : decode cX6_setKind 14 = .ok (.getfield 9, 3) := by decide +kernel
theorem dX6_setKind_17 : decode cX6_setKind 17 = .ok (.iload_n 2, 1) := by decide +kernel
theorem dX6_setKind_18 : decode cX6_setKind 18 = .ok (.aload_n 0, 1) := by decide +kernel
theorem dX6_setKind_19 : decode cX6_setKind 19 = .ok (.getfield 9, 3) := by decide +kernel
theorem dX6_setKind_22 : decode cX6_setKind 22 = .ok (.iload_n 2, 1) := by decide +kernel
theorem dX6_setKind_23 : decode cX6_setKind 23 = .ok (.iaload, 1) := by decide +kernel
theorem dX6_setKind_24 : decode cX6_setKind 24 = .ok (.iconst 3, 1) := by decide +kernel
theorem dX6_setKind_25 : decode cX6_setKind 25 = .ok (.iconst 2, 1) := by decide +kernel
theorem dX6_setKind_26 : decode cX6_setKind 26 = .ok (.iload_n 1, 1) := by decide +kernel
theorem dX6_setKind_27 : decode cX6_setKind 27 = .ok (.imul, 1) := by decide +kernel
theorem dX6_setKind_28 : decode cX6_setKind 28 = .ok (.ishl, 1) := by decide +kernel
theorem dX6_setKind_29 : decode cX6_setKind 29 = .ok (.iconst (-1), 1) := by decide +kernel
theorem dX6_setKind_30 : decode cX6_setKind 30 = .ok (.ixor, 1) := by decide +kernel
theorem dX6_setKind_31 : decode cX6_setKind 31 = .ok (.iand, 1) := by decide +kernel
theorem dX6_setKind_32 : decode cX6_setKind 32 = .ok (.iload_n 3, 1) := by decide +kernel
theorem dX6_setKind_33 : decode cX6_setKind 33 = .ok (.iconst 2, 1) := by decide +kernel
theorem dX6_setKind_34 : decode cX6_setKind 34 = .ok (.iload_n 1, 1) := by decide +kernel
theorem dX6_setKind_35 : decode cX6_setKind 35 = .ok (.imul, 1) := by decide +kernel
theorem dX6_setKind_36 : decode cX6_setKind 36 = .ok (.ishl, 1) := by decide +kernel
theorem dX6_setKind_37 : decode cX6_setKind 37 = .ok (.ior, 1) := by decide +kernel
theorem dX6_setKind_38 : decode cX6_setKind 38 = .ok (.iastore, 1) := by decide +kernel
theorem dX6_setKind_39 : decode cX6_setKind 39 = .ok (.return_, 1) := by decide +kernel
theorem dX7_init_0 : decode cX7_init 0 = .ok (.aload_n 0, 1) := by decide +kernel
theorem dX7_init_1 : decode cX7_init 1 = .ok (.invokespecial 1, 3) := by decide +kernel
theorem dX7_init_4 : decode cX7_init 4 = .ok (.aload_n 0, 1) := by decide +kernel
theorem dX7_init_5 : decode cX7_init 5 = .ok (.iload_n 1, 1) := by decide +kernel
theorem dX7_init_6 : decode cX7_init 6 = .ok (.putfield 7, 3) := by decide +kernel
theorem dX7_init_9 : decode cX7_init 9 = .ok (.return_, 1) := by decide +kernel
set_option maxRecDepth 20000 in
theorem ggX8_init_X7_init : GoodIn wsX8_init wsX7_init := goodIn_r _ [6, 7, 8, 9, 10, 14, 15, 16, 11, 12, 13] (by decide +kernel) (by decide +kernel)
set_option maxRecDepth 20000 in
theorem gX8_init_X7_init : GoodIn wsX8_init (wsX7_init) := ggX8_init_X7_init
theorem dX8_init_0 : decode cX8_init 0 = .ok (.aload_n 0, 1) := by decide +kernel
theorem dX8_init_1 : decode cX8_init 1 = .ok (.iload_n 1, 1) := by decide +kernel
theorem dX8_init_2 : decode cX8_init 2 = .ok (.invokespecial 3, 3) := by decide +kernel
theorem dX8_init_5 : decode cX8_init 5 = .ok (.aload_n 0, 1) := by decide +kernel
theorem dX8_init_6 : decode cX8_init 6 = .ok (.aload_n 2, 1) := by decide +kernel
theorem dX8_init_7 : decode cX8_init 7 = .ok (.putfield 9, 3) := by decide +kernel
theorem dX8_init_10 : decode cX8_init 10 = .ok (.aload_n 0, 1) := by decide +kernel
theorem dX8_init_11 : decode cX8_init 11 = .ok (.iload_n 3, 1) := by decide +kernel
theorem dX8_init_12 : decode cX8_init 12 = .ok (.putfield 15, 3) := by decide +kernel
theorem dX8_init_15 : decode cX8_init 15 = .ok (.return_, 1) := by decide +kernel
set_option maxRecDepth 20000 in
theorem ggX8_lossOf_X6_kindAt : GoodIn wsX8_lossOf wsX6_kindAt := goodIn_r _ [9, 10, 20] (by decide +kernel) (by decide +kernel)
set_option maxRecDepth 20000 in
theorem gX8_lossOf_X6_kindAt : GoodIn wsX8_lossOf (wsV RX8 27 RX6 yX6_kindAt wsX6_kindAt) := goodIn_app (goodIn_of _ (by decide +kernel)) ggX8_lossOf_X6_kindAt
theorem dX8_lossOf_0 : decode cX8_lossOf 0 = .ok (.aload_n 0, 1) := by decide +kernel
theorem dX8_lossOf_1 : decode cX8_lossOf 1 = .ok (.getfield 9, 3) := by decide +kernel
theorem dX8_lossOf_4 : decode cX8_lossOf 4 = .ok (.aload_n 1, 1) := by decide +kernel
theorem dX8_lossOf_5 : decode cX8_lossOf 5 = .ok (.getfield 19, 3) := by decide +kernel
theorem dX8_lossOf_8 : decode cX8_lossOf 8 = .ok (.aload_n 1, 1) := by decide +kernel
theorem dX8_lossOf_9 : decode cX8_lossOf 9 = .ok (.getfield 24, 3) := by decide +kernel
theorem dX8_lossOf_12 : decode cX8_lossOf 12 = .ok (.invokevirtual 27, 3) := by decide +kernel
theorem dX8_lossOf_15 : decode cX8_lossOf 15 = .ok (.lookupswitch 37 #[(1, 25), (2, 30)], 25) := by decide +kernel
theorem dX8_lossOf_40 : decode cX8_lossOf 40 = .ok (.aload_n 0, 1) := by decide +kernel
theorem dX8_lossOf_41 : decode cX8_lossOf 41 = .ok (.getfield 15, 3) := by decide +kernel
theorem dX8_lossOf_44 : decode cX8_lossOf 44 = .ok (.ireturn, 1) := by decide +kernel
theorem dX8_lossOf_45 : decode cX8_lossOf 45 = .ok (.iconst 2, 1) := by decide +kernel
theorem dX8_lossOf_46 : decode cX8_lossOf 46 = .ok (.aload_n 0, 1) := by decide +kernel
theorem dX8_lossOf_47 : decode cX8_lossOf 47 = .ok (.getfield 15, 3) := by decide +kernel
theorem dX8_lossOf_50 : decode cX8_lossOf 50 = .ok (.imul, 1) := by decide +kernel
theorem dX8_lossOf_51 : decode cX8_lossOf 51 = .ok (.ireturn, 1) := by decide +kernel
theorem dX8_lossOf_52 : decode cX8_lossOf 52 = .ok (.aload_n 0, 1) := by decide +kernel
theorem dX8_lossOf_53 : decode cX8_lossOf 53 = .ok (.getfield 15, 3) := by decide +kernel
theorem dX8_lossOf_56 : decode cX8_lossOf 56 = .ok (.iconst 2, 1) := by decide +kernel
theorem dX8_lossOf_57 : decode cX8_lossOf 57 = .ok (.idiv, 1) := by decide +kernel
theorem dX8_lossOf_58 : decode cX8_lossOf 58 = .ok (.ireturn, 1) := by decide +kernel
set_option maxRecDepth 20000 in
theorem ggX9_init_X6_init : GoodIn wsX9_init wsX6_init := goodIn_r _ [22, 23, 2, 3, 24, 47] (by decide +kernel) (by decide +kernel)
set_option maxRecDepth 20000 in
theorem gX9_init_X6_init : GoodIn wsX9_init (wsX6_init) := ggX9_init_X6_init
set_option maxRecDepth 20000 in
theorem ggX9_init_Jx4a65c_init_da8c8 : GoodIn wsX9_init wsJx4a65c_init_da8c8 := goodIn_r _ [27, 28, 29, 30, 31, 32, 33, 34, 35, 36, 37, 38, 39, 2, 3, 54, 55, 56] (by decide +kernel) (by decide +kernel)
set_option maxRecDepth 20000 in
theorem gX9_init_Jx4a65c_init_da8c8 : GoodIn wsX9_init (wsJx4a65c_init_da8c8) := ggX9_init_Jx4a65c_init_da8c8
set_option maxRecDepth 20000 in
theorem ggX9_init_X2_init : GoodIn wsX9_init wsX2_init := goodIn_r _ [42, 43, 2, 3, 44, 10, 11, 45, 46, 26, 27, 28, 29, 30, 31, 32, 33, 34, 35, 36, 37, 38, 39, 54, 55, 56, 57] (by decide +kernel) (by decide +kernel)
set_option maxRecDepth 20000 in
theorem gX9_init_X2_init : GoodIn wsX9_init (wsX2_init) := ggX9_init_X2_init
theorem dX9_init_0 : decode cX9_init 0 = .ok (.aload_n 0, 1) := by decide +kernel
theorem dX9_init_1 : decode cX9_init 1 = .ok (.invokespecial 1, 3) := by decide +kernel
theorem dX9_init_4 : decode cX9_init 4 = .ok (.aload_n 0, 1) := by decide +kernel
theorem dX9_init_5 : decode cX9_init 5 = .ok (.new 7, 3) := by decide +kernel
theorem dX9_init_8 : decode cX9_init 8 = .ok (.dup, 1) := by decide +kernel
theorem dX9_init_9 : decode cX9_init 9 = .ok (.bipush 16, 2) := by decide +kernel
theorem dX9_init_11 : decode cX9_init 11 = .ok (.newarray .int, 2) := by decide +kernel
theorem dX9_init_13 : decode cX9_init 13 = .ok (.invokespecial 11, 3) := by decide +kernel
theorem dX9_init_16 : decode cX9_init 16 = .ok (.putfield 14, 3) := by decide +kernel
theorem dX9_init_19 : decode cX9_init 19 = .ok (.aload_n 0, 1) := by decide +kernel
theorem dX9_init_20 : decode cX9_init 20 = .ok (.new 18, 3) := by decide +kernel
theorem dX9_init_23 : decode cX9_init 23 = .ok (.dup, 1) := by decide +kernel
theorem dX9_init_24 : decode cX9_init 24 = .ok (.invokespecial 20, 3) := by decide +kernel
theorem dX9_init_27 : decode cX9_init 27 = .ok (.putfield 21, 3) := by decide +kernel
theorem dX9_init_30 : decode cX9_init 30 = .ok (.aload_n 0, 1) := by decide +kernel
theorem dX9_init_31 : decode cX9_init 31 = .ok (.new 18, 3) := by decide +kernel
theorem dX9_init_34 : decode cX9_init 34 = .ok (.dup, 1) := by decide +kernel
theorem dX9_init_35 : decode cX9_init 35 = .ok (.invokespecial 20, 3) := by decide +kernel
theorem dX9_init_38 : decode cX9_init 38 = .ok (.putfield 25, 3) := by decide +kernel
theorem dX9_init_41 : decode cX9_init 41 = .ok (.aload_n 0, 1) := by decide +kernel
theorem dX9_init_42 : decode cX9_init 42 = .ok (.new 18, 3) := by decide +kernel
theorem dX9_init_45 : decode cX9_init 45 = .ok (.dup, 1) := by decide +kernel
theorem dX9_init_46 : decode cX9_init 46 = .ok (.invokespecial 20, 3) := by decide +kernel
theorem dX9_init_49 : decode cX9_init 49 = .ok (.putfield 28, 3) := by decide +kernel
theorem dX9_init_52 : decode cX9_init 52 = .ok (.aload_n 0, 1) := by decide +kernel
theorem dX9_init_53 : decode cX9_init 53 = .ok (.new 31, 3) := by decide +kernel
theorem dX9_init_56 : decode cX9_init 56 = .ok (.dup, 1) := by decide +kernel
theorem dX9_init_57 : decode cX9_init 57 = .ok (.invokespecial 33, 3) := by decide +kernel
theorem dX9_init_60 : decode cX9_init 60 = .ok (.putfield 34, 3) := by decide +kernel
theorem dX9_init_63 : decode cX9_init 63 = .ok (.aload_n 0, 1) := by decide +kernel
theorem dX9_init_64 : decode cX9_init 64 = .ok (.iconst 1, 1) := by decide +kernel
theorem dX9_init_65 : decode cX9_init 65 = .ok (.putfield 38, 3) := by decide +kernel
theorem dX9_init_68 : decode cX9_init 68 = .ok (.return_, 1) := by decide +kernel
set_option maxRecDepth 20000 in
theorem ggX9_ground_X9_requireCell : GoodIn wsX9_ground wsX9_requireCell := goodIn_ca (goodIn_r _ [6, 7, 8] (by decide +kernel) (by decide +kernel)) (goodIn_sub (fun _ h => List.mem_cons_of_mem _ (List.mem_append_left _ (List.mem_append_right _ h))) (by decide +kernel))
set_option maxRecDepth 20000 in
theorem gX9_ground_X9_requireCell : GoodIn wsX9_ground (va_wsS RX9 42 yX9_requireCell wsX9_requireCell) := goodIn_app (goodIn_of _ (by decide +kernel)) ggX9_ground_X9_requireCell
set_option maxRecDepth 20000 in
theorem ggX9_ground_X9_requireRange : GoodIn wsX9_ground wsX9_requireRange := goodIn_ca (goodIn_r _ [11, 12, 13] (by decide +kernel) (by decide +kernel)) (goodIn_sub (fun _ h => List.mem_cons_of_mem _ (List.mem_append_right _ h)) (by decide +kernel))
set_option maxRecDepth 20000 in
theorem gX9_ground_X9_requireRange : GoodIn wsX9_ground (va_wsS RX9 48 yX9_requireRange wsX9_requireRange) := goodIn_app (goodIn_of _ (by decide +kernel)) ggX9_ground_X9_requireRange
set_option maxRecDepth 20000 in
theorem ggX9_ground_X6_kindAt : GoodIn wsX9_ground wsX6_kindAt := goodIn_r _ [18, 19, 30] (by decide +kernel) (by decide +kernel)
set_option maxRecDepth 20000 in
theorem gX9_ground_X6_kindAt : GoodIn wsX9_ground (wsV RX9 52 RX6 yX6_kindAt wsX6_kindAt) := goodIn_app (goodIn_of _ (by decide +kernel)) ggX9_ground_X6_kindAt
set_option maxRecDepth 20000 in
theorem ggX9_ground_X6_setKind : GoodIn wsX9_ground wsX6_setKind := goodIn_r _ [23, 19, 30] (by decide +kernel) (by decide +kernel)
set_option maxRecDepth 20000 in
theorem gX9_ground_X6_setKind : GoodIn wsX9_ground (wsV RX9 56 RX6 yX6_setKind wsX6_setKind) := goodIn_app (goodIn_of _ (by decide +kernel)) ggX9_ground_X6_setKind
theorem dX9_ground_0 : decode cX9_ground 0 = .ok (.iload_n 1, 1) := by decide +kernel
theorem dX9_ground_1 : decode cX9_ground 1 = .ok (.iload_n 2, 1) := by decide +kernel
theorem dX9_ground_2 : decode cX9_ground 2 = .ok (.invokestatic 42, 3) := by decide +kernel
theorem dX9_ground_5 : decode cX9_ground 5 = .ok (.iload_n 3, 1) := by decide +kernel
theorem dX9_ground_6 : decode cX9_ground 6 = .ok (.i2l, 1) := by decide +kernel
theorem dX9_ground_7 : decode cX9_ground 7 = .ok (.lconst 0, 1) := by decide +kernel
theorem dX9_ground_8 : decode cX9_ground 8 = .ok (.ldc2_w 46, 3) := by decide +kernel
theorem dX9_ground_11 : decode cX9_ground 11 = .ok (.invokestatic 48, 3) := by decide +kernel
theorem dX9_ground_14 : decode cX9_ground 14 = .ok (.aload_n 0, 1) := by decide +kernel
theorem dX9_ground_15 : decode cX9_ground 15 = .ok (.getfield 14, 3) := by decide +kernel
theorem dX9_ground_18 : decode cX9_ground 18 = .ok (.iload_n 1, 1) := by decide +kernel
theorem dX9_ground_19 : decode cX9_ground 19 = .ok (.iload_n 2, 1) := by decide +kernel
theorem dX9_ground_20 : decode cX9_ground 20 = .ok (.invokevirtual 52, 3) := by decide +kernel
theorem dX9_ground_23 : decode cX9_ground 23 = .ok (.istore 4, 2) := by decide +kernel
theorem dX9_ground_25 : decode cX9_ground 25 = .ok (.aload_n 0, 1) := by decide +kernel
theorem dX9_ground_26 : decode cX9_ground 26 = .ok (.getfield 14, 3) := by decide +kernel
theorem dX9_ground_29 : decode cX9_ground 29 = .ok (.iload_n 1, 1) := by decide +kernel
theorem dX9_ground_30 : decode cX9_ground 30 = .ok (.iload_n 2, 1) := by decide +kernel
theorem dX9_ground_31 : decode cX9_ground 31 = .ok (.iload_n 3, 1) := by decide +kernel
theorem dX9_ground_32 : decode cX9_ground 32 = .ok (.invokevirtual 56, 3) := by decide +kernel
theorem dX9_ground_35 : decode cX9_ground 35 = .ok (.iload 4, 2) := by decide +kernel
theorem dX9_ground_37 : decode cX9_ground 37 = .ok (.ireturn, 1) := by decide +kernel
set_option maxRecDepth 20000 in
theorem ggX9_stone_X9_requireCell : GoodIn wsX9_stone wsX9_requireCell := goodIn_ca (goodIn_r _ [5, 6, 7] (by decide +kernel) (by decide +kernel)) (goodIn_sub (fun _ h => List.mem_cons_of_mem _ (List.mem_append_left _ (List.mem_append_left _ (List.mem_append_right _ h)))) (by decide +kernel))
set_option maxRecDepth 20000 in
theorem gX9_stone_X9_requireCell : GoodIn wsX9_stone (va_wsS RX9 42 yX9_requireCell wsX9_requireCell) := goodIn_app (goodIn_of _ (by decide +kernel)) ggX9_stone_X9_requireCell
set_option maxRecDepth 20000 in
theorem ggX9_stone_X9_requireRange : GoodIn wsX9_stone wsX9_requireRange := goodIn_ca (goodIn_r _ [10, 11, 12] (by decide +kernel) (by decide +kernel)) (goodIn_sub (fun _ h => List.mem_cons_of_mem _ (List.mem_append_left _ (List.mem_append_right _ h))) (by decide +kernel))
set_option maxRecDepth 20000 in
theorem gX9_stone_X9_requireRange : GoodIn wsX9_stone (va_wsS RX9 48 yX9_requireRange wsX9_requireRange) := goodIn_app (goodIn_of _ (by decide +kernel)) ggX9_stone_X9_requireRange
set_option maxRecDepth 20000 in
theorem ggX9_stone_X9_requireRoomForCraters : GoodIn wsX9_stone wsX9_requireRoomForCraters := goodIn_ca (goodIn_r _ [16, 17, 18, 19, 20, 21, 22, 23, 24, 25, 142, 143, 144, 145, 146, 147, 148, 149, 150] (by decide +kernel) (by decide +kernel)) (goodIn_sub (fun _ h => List.mem_cons_of_mem _ (List.mem_append_right _ h)) (by decide +kernel))
set_option maxRecDepth 20000 in
theorem gX9_stone_X9_requireRoomForCraters : GoodIn wsX9_stone (wsV RX9 62 RX9 yX9_requireRoomForCraters wsX9_requireRoomForCraters) := goodIn_app (goodIn_of _ (by decide +kernel)) ggX9_stone_X9_requireRoomForCraters
set_option maxRecDepth 20000 in
theorem ggX9_stone_X9_dropStone : GoodIn wsX9_stone wsX9_dropStone := goodIn_r _ [29, 30, 31, 32, 33, 19, 34, 35, 36, 37, 38, 39, 40, 41, 42, 43, 44, 45, 46, 47, 48, 49, 50, 51, 52, 53, 54, 55, 56, 57, 58, 59, 60, 61, 62, 20, 21, 22, 23, 24, 25, 63, 64, 65, 66, 67, 68, 69, 70, 71, 72, 73, 74, 75, 76, 77, 78, 79, 80, 81, 82, 83, 84, 85, 86, 87, 88, 89, 90, 91, 92, 93, 94, 95, 96, 97, 98, 99, 100, 101, 102, 103, 104, 105, 106, 107, 108, 109, 110, 111, 112, 113, 114, 115, 116, 117, 118, 119, 120, 121, 122, 123, 124, 125, 126, 127, 128, 129, 130, 131, 132, 133, 134, 135, 136, 137, 138, 139, 140, 141, 151, 152, 153, 154, 155, 156, 142, 143, 144, 145, 146, 147, 157, 148, 149, 150] (by decide +kernel) (by decide +kernel)
set_option maxRecDepth 20000 in
theorem gX9_stone_X9_dropStone : GoodIn wsX9_stone (wsV RX9 66 RX9 yX9_dropStone wsX9_dropStone) := goodIn_app (goodIn_of _ (by decide +kernel)) ggX9_stone_X9_dropStone
theorem dX9_stone_0 : decode cX9_stone 0 = .ok (.iload_n 1, 1) := by decide +kernel
theorem dX9_stone_1 : decode cX9_stone 1 = .ok (.iload_n 2, 1) := by decide +kernel
theorem dX9_stone_2 : decode cX9_stone 2 = .ok (.invokestatic 42, 3) := by decide +kernel
theorem dX9_stone_5 : decode cX9_stone 5 = .ok (.iload_n 3, 1) := by decide +kernel
theorem dX9_stone_6 : decode cX9_stone 6 = .ok (.i2l, 1) := by decide +kernel
theorem dX9_stone_7 : decode cX9_stone 7 = .ok (.lconst 1, 1) := by decide +kernel
theorem dX9_stone_8 : decode cX9_stone 8 = .ok (.ldc2_w 60, 3) := by decide +kernel
theorem dX9_stone_11 : decode cX9_stone 11 = .ok (.invokestatic 48, 3) := by decide +kernel
theorem dX9_stone_14 : decode cX9_stone 14 = .ok (.aload_n 0, 1) := by decide +kernel
theorem dX9_stone_15 : decode cX9_stone 15 = .ok (.iconst 1, 1) := by decide +kernel
theorem dX9_stone_16 : decode cX9_stone 16 = .ok (.invokevirtual 62, 3) := by decide +kernel
theorem dX9_stone_19 : decode cX9_stone 19 = .ok (.aload_n 0, 1) := by decide +kernel
theorem dX9_stone_20 : decode cX9_stone 20 = .ok (.iload_n 1, 1) := by decide +kernel
theorem dX9_stone_21 : decode cX9_stone 21 = .ok (.iload_n 2, 1) := by decide +kernel
theorem dX9_stone_22 : decode cX9_stone 22 = .ok (.iload_n 3, 1) := by decide +kernel
theorem dX9_stone_23 : decode cX9_stone 23 = .ok (.invokevirtual 66, 3) := by decide +kernel
theorem dX9_stone_26 : decode cX9_stone 26 = .ok (.ireturn, 1) := by decide +kernel
set_option maxRecDepth 20000 in
theorem ggX9_draw_X9_requireRange : GoodIn wsX9_draw wsX9_requireRange := goodIn_ca (goodIn_r _ [6, 7, 8] (by decide +kernel) (by decide +kernel)) (goodIn_sub (fun _ h => List.mem_cons_of_mem _ (List.mem_append_right _ h)) (by decide +kernel))
set_option maxRecDepth 20000 in
theorem gX9_draw_X9_requireRange : GoodIn wsX9_draw (va_wsS RX9 48 yX9_requireRange wsX9_requireRange) := goodIn_app (goodIn_of _ (by decide +kernel)) ggX9_draw_X9_requireRange
theorem dX9_draw_0 : decode cX9_draw 0 = .ok (.iload_n 1, 1) := by decide +kernel
theorem dX9_draw_1 : decode cX9_draw 1 = .ok (.i2l, 1) := by decide +kernel
theorem dX9_draw_2 : decode cX9_draw 2 = .ok (.lconst 1, 1) := by decide +kernel
theorem dX9_draw_3 : decode cX9_draw 3 = .ok (.ldc2_w 70, 3) := by decide +kernel
theorem dX9_draw_6 : decode cX9_draw 6 = .ok (.invokestatic 48, 3) := by decide +kernel
theorem dX9_draw_9 : decode cX9_draw 9 = .ok (.aload_n 0, 1) := by decide +kernel
theorem dX9_draw_10 : decode cX9_draw 10 = .ok (.getfield 38, 3) := by decide +kernel
theorem dX9_draw_13 : decode cX9_draw 13 = .ok (.istore_n 2, 1) := by decide +kernel
theorem dX9_draw_14 : decode cX9_draw 14 = .ok (.aload_n 0, 1) := by decide +kernel
theorem dX9_draw_15 : decode cX9_draw 15 = .ok (.iload_n 1, 1) := by decide +kernel
theorem dX9_draw_16 : decode cX9_draw 16 = .ok (.putfield 38, 3) := by decide +kernel
theorem dX9_draw_19 : decode cX9_draw 19 = .ok (.iload_n 2, 1) := by decide +kernel
theorem dX9_draw_20 : decode cX9_draw 20 = .ok (.ireturn, 1) := by decide +kernel
set_option maxRecDepth 20000 in
theorem ggX9_rain_X9_requireRange : GoodIn wsX9_rain wsX9_requireRange := goodIn_ca (goodIn_r _ [5, 6, 7] (by decide +kernel) (by decide +kernel)) (goodIn_sub (fun _ h => List.mem_cons_of_mem _ (List.mem_append_left _ (List.mem_append_right _ h))) (by decide +kernel))
set_option maxRecDepth 20000 in
theorem gX9_rain_X9_requireRange : GoodIn wsX9_rain (va_wsS RX9 48 yX9_requireRange wsX9_requireRange) := goodIn_app (goodIn_of _ (by decide +kernel)) ggX9_rain_X9_requireRange
set_option maxRecDepth 20000 in
theorem ggX9_rain_X9_requireRoomForCraters : GoodIn wsX9_rain wsX9_requireRoomForCraters := goodIn_ca (goodIn_r _ [11, 12, 13, 14, 15, 16, 17, 18, 19, 20, 151, 152, 153, 154, 155, 156, 157, 158, 159] (by decide +kernel) (by decide +kernel)) (goodIn_sub (fun _ h => List.mem_cons_of_mem _ (List.mem_append_right _ h)) (by decide +kernel))
set_option maxRecDepth 20000 in
theorem gX9_rain_X9_requireRoomForCraters : GoodIn wsX9_rain (wsV RX9 62 RX9 yX9_requireRoomForCraters wsX9_requireRoomForCraters) := goodIn_app (goodIn_of _ (by decide +kernel)) ggX9_rain_X9_requireRoomForCraters
set_option maxRecDepth 20000 in
theorem ggX9_rain_X9_drawNext : GoodIn wsX9_rain wsX9_drawNext := goodIn_r _ [24, 25, 26, 151, 152, 153, 154, 155, 156] (by decide +kernel) (by decide +kernel)
set_option maxRecDepth 20000 in
theorem gX9_rain_X9_drawNext : GoodIn wsX9_rain (wsV RX9 74 RX9 yX9_drawNext wsX9_drawNext) := goodIn_app (goodIn_of _ (by decide +kernel)) ggX9_rain_X9_drawNext
set_option maxRecDepth 20000 in
theorem ggX9_rain_X9_sizeDrawn : GoodIn wsX9_rain wsX9_sizeDrawn := goodIn_r _ [29] (by decide +kernel) (by decide +kernel)
set_option maxRecDepth 20000 in
theorem gX9_rain_X9_sizeDrawn : GoodIn wsX9_rain (va_wsS RX9 78 yX9_sizeDrawn wsX9_sizeDrawn) := goodIn_app (goodIn_of _ (by decide +kernel)) ggX9_rain_X9_sizeDrawn
set_option maxRecDepth 20000 in
theorem ggX9_rain_X9_dropStone : GoodIn wsX9_rain wsX9_dropStone := goodIn_r _ [33, 34, 35, 36, 37, 14, 38, 39, 40, 41, 42, 43, 44, 45, 46, 47, 48, 49, 50, 51, 52, 53, 54, 55, 56, 57, 58, 59, 60, 61, 62, 63, 64, 65, 66, 15, 16, 17, 18, 19, 20, 67, 68, 69, 70, 71, 72, 73, 74, 75, 76, 77, 78, 79, 80, 81, 82, 83, 84, 85, 86, 87, 88, 89, 90, 91, 92, 93, 94, 95, 96, 97, 98, 99, 100, 101, 102, 103, 104, 105, 106, 107, 108, 109, 110, 111, 112, 113, 114, 115, 116, 117, 118, 119, 120, 121, 122, 123, 124, 125, 126, 127, 128, 129, 130, 131, 132, 133, 134, 135, 136, 137, 138, 139, 140, 141, 142, 143, 144, 145, 160, 161, 162, 163, 164, 165, 151, 152, 153, 154, 155, 156, 166, 157, 158, 159] (by decide +kernel) (by decide +kernel)
set_option maxRecDepth 20000 in
theorem gX9_rain_X9_dropStone : GoodIn wsX9_rain (wsV RX9 66 RX9 yX9_dropStone wsX9_dropStone) := goodIn_app (goodIn_of _ (by decide +kernel)) ggX9_rain_X9_dropStone
set_option maxRecDepth 20000 in
theorem ggX9_rain_X9_countLeft : GoodIn wsX9_rain wsX9_countLeft := goodIn_r _ [149, 14, 38, 150, 15, 16, 17, 18, 19, 20, 67, 68, 69, 70, 71, 72, 73, 74, 75, 76, 77, 78, 79, 80, 81, 82, 83, 151, 152, 153, 154, 155, 156, 160, 161, 162, 163, 164, 165, 157, 158, 159] (by decide +kernel) (by decide +kernel)
set_option maxRecDepth 20000 in
theorem gX9_rain_X9_countLeft : GoodIn wsX9_rain (wsV RX9 82 RX9 yX9_countLeft wsX9_countLeft) := goodIn_app (goodIn_of _ (by decide +kernel)) ggX9_rain_X9_countLeft
theorem dX9_rain_0 : decode cX9_rain 0 = .ok (.iload_n 1, 1) := by decide +kernel
theorem dX9_rain_1 : decode cX9_rain 1 = .ok (.i2l, 1) := by decide +kernel
theorem dX9_rain_2 : decode cX9_rain 2 = .ok (.lconst 1, 1) := by decide +kernel
theorem dX9_rain_3 : decode cX9_rain 3 = .ok (.ldc2_w 72, 3) := by decide +kernel
theorem dX9_rain_6 : decode cX9_rain 6 = .ok (.invokestatic 48, 3) := by decide +kernel
theorem dX9_rain_9 : decode cX9_rain 9 = .ok (.aload_n 0, 1) := by decide +kernel
theorem dX9_rain_10 : decode cX9_rain 10 = .ok (.iload_n 1, 1) := by decide +kernel
theorem dX9_rain_11 : decode cX9_rain 11 = .ok (.invokevirtual 62, 3) := by decide +kernel
theorem dX9_rain_14 : decode cX9_rain 14 = .ok (.iconst 0, 1) := by decide +kernel
theorem dX9_rain_15 : decode cX9_rain 15 = .ok (.istore_n 2, 1) := by decide +kernel
theorem dX9_rain_16 : decode cX9_rain 16 = .ok (.iload_n 2, 1) := by decide +kernel
theorem dX9_rain_17 : decode cX9_rain 17 = .ok (.iload_n 1, 1) := by decide +kernel
theorem dX9_rain_18 : decode cX9_rain 18 = .ok (.if_icmp .ge 48, 3) := by decide +kernel
theorem dX9_rain_21 : decode cX9_rain 21 = .ok (.aload_n 0, 1) := by decide +kernel
theorem dX9_rain_22 : decode cX9_rain 22 = .ok (.invokevirtual 74, 3) := by decide +kernel
theorem dX9_rain_25 : decode cX9_rain 25 = .ok (.bipush 16, 2) := by decide +kernel
theorem dX9_rain_27 : decode cX9_rain 27 = .ok (.irem, 1) := by decide +kernel
theorem dX9_rain_28 : decode cX9_rain 28 = .ok (.istore_n 3, 1) := by decide +kernel
theorem dX9_rain_29 : decode cX9_rain 29 = .ok (.aload_n 0, 1) := by decide +kernel
theorem dX9_rain_30 : decode cX9_rain 30 = .ok (.invokevirtual 74, 3) := by decide +kernel
theorem dX9_rain_33 : decode cX9_rain 33 = .ok (.bipush 16, 2) := by decide +kernel
theorem dX9_rain_35 : decode cX9_rain 35 = .ok (.irem, 1) := by decide +kernel
theorem dX9_rain_36 : decode cX9_rain 36 = .ok (.istore 4, 2) := by decide +kernel
theorem dX9_rain_38 : decode cX9_rain 38 = .ok (.aload_n 0, 1) := by decide +kernel
theorem dX9_rain_39 : decode cX9_rain 39 = .ok (.invokevirtual 74, 3) := by decide +kernel
theorem dX9_rain_42 : decode cX9_rain 42 = .ok (.bipush 64, 2) := by decide +kernel
theorem dX9_rain_44 : decode cX9_rain 44 = .ok (.irem, 1) := by decide +kernel
theorem dX9_rain_45 : decode cX9_rain 45 = .ok (.invokestatic 78, 3) := by decide +kernel
theorem dX9_rain_48 : decode cX9_rain 48 = .ok (.istore 5, 2) := by decide +kernel
theorem dX9_rain_50 : decode cX9_rain 50 = .ok (.aload_n 0, 1) := by decide +kernel
theorem dX9_rain_51 : decode cX9_rain 51 = .ok (.iload_n 3, 1) := by decide +kernel
theorem dX9_rain_52 : decode cX9_rain 52 = .ok (.iload 4, 2) := by decide +kernel
theorem dX9_rain_54 : decode cX9_rain 54 = .ok (.iload 5, 2) := by decide +kernel
theorem dX9_rain_56 : decode cX9_rain 56 = .ok (.invokevirtual 66, 3) := by decide +kernel
theorem dX9_rain_59 : decode cX9_rain 59 = .ok (.pop, 1) := by decide +kernel
theorem dX9_rain_60 : decode cX9_rain 60 = .ok (.iinc 2 1, 3) := by decide +kernel
theorem dX9_rain_63 : decode cX9_rain 63 = .ok (.goto (-47), 3) := by decide +kernel
theorem dX9_rain_66 : decode cX9_rain 66 = .ok (.aload_n 0, 1) := by decide +kernel
theorem dX9_rain_67 : decode cX9_rain 67 = .ok (.invokevirtual 82, 3) := by decide +kernel
theorem dX9_rain_70 : decode cX9_rain 70 = .ok (.ireturn, 1) := by decide +kernel
set_option maxRecDepth 20000 in
theorem ggX9_flood_X9_requireCell : GoodIn wsX9_flood wsX9_requireCell := goodIn_ca (goodIn_r _ [12, 13, 14] (by decide +kernel) (by decide +kernel)) (goodIn_sub (fun _ h => List.mem_cons_of_mem _ (List.mem_append_left _ (List.mem_append_left _ (List.mem_append_right _ h)))) (by decide +kernel))
set_option maxRecDepth 20000 in
theorem gX9_flood_X9_requireCell : GoodIn wsX9_flood (va_wsS RX9 42 yX9_requireCell wsX9_requireCell) := goodIn_app (goodIn_of _ (by decide +kernel)) ggX9_flood_X9_requireCell
set_option maxRecDepth 20000 in
theorem ggX9_flood_X9_requireRange : GoodIn wsX9_flood wsX9_requireRange := goodIn_ca (goodIn_r _ [17, 18, 19] (by decide +kernel) (by decide +kernel)) (goodIn_sub (fun _ h => List.mem_cons_of_mem _ (List.mem_append_left _ (List.mem_append_right _ h))) (by decide +kernel))
set_option maxRecDepth 20000 in
theorem gX9_flood_X9_requireRange : GoodIn wsX9_flood (va_wsS RX9 48 yX9_requireRange wsX9_requireRange) := goodIn_app (goodIn_of _ (by decide +kernel)) ggX9_flood_X9_requireRange
set_option maxRecDepth 20000 in
theorem ggX9_flood_X9_requireOrder : GoodIn wsX9_flood wsX9_requireOrder := goodIn_ca (goodIn_r _ [22, 18, 19] (by decide +kernel) (by decide +kernel)) (goodIn_sub (fun _ h => List.mem_cons_of_mem _ (List.mem_append_left _ (List.mem_append_right _ h))) (by decide +kernel))
set_option maxRecDepth 20000 in
theorem gX9_flood_X9_requireOrder : GoodIn wsX9_flood (va_wsS RX9 87 yX9_requireOrder wsX9_requireOrder) := goodIn_app (goodIn_of _ (by decide +kernel)) ggX9_flood_X9_requireOrder
set_option maxRecDepth 20000 in
theorem ggX9_flood_X9_requireRoomForLessening : GoodIn wsX9_flood wsX9_requireRoomForLessening := goodIn_ca (goodIn_r _ [26, 27, 28, 29, 30, 31, 32, 33, 34, 35, 167, 168, 169, 170, 171, 172, 177, 178, 179] (by decide +kernel) (by decide +kernel)) (goodIn_sub (fun _ h => List.mem_cons_of_mem _ (List.mem_append_right _ h)) (by decide +kernel))
set_option maxRecDepth 20000 in
theorem gX9_flood_X9_requireRoomForLessening : GoodIn wsX9_flood (wsV RX9 91 RX9 yX9_requireRoomForLessening wsX9_requireRoomForLessening) := goodIn_app (goodIn_of _ (by decide +kernel)) ggX9_flood_X9_requireRoomForLessening
set_option maxRecDepth 20000 in
theorem ggX9_flood_Jx4a65c_size_8abf5 : GoodIn wsX9_flood wsJx4a65c_size_8abf5 := goodIn_r _ [34, 35, 177, 178, 179] (by decide +kernel) (by decide +kernel)
set_option maxRecDepth 20000 in
theorem gX9_flood_Jx4a65c_size_8abf5 : GoodIn wsX9_flood (wsV RX9 96 RJx4a65c yJx4a65c_size_8abf5 wsJx4a65c_size_8abf5) := goodIn_app (goodIn_of _ (by decide +kernel)) ggX9_flood_Jx4a65c_size_8abf5
set_option maxRecDepth 20000 in
theorem ggX9_flood_X4_init : GoodIn wsX9_flood wsX4_init := goodIn_r _ [38, 39, 40, 41, 42, 43, 44, 45, 173, 174, 175, 176] (by decide +kernel) (by decide +kernel)
set_option maxRecDepth 20000 in
theorem gX9_flood_X4_init : GoodIn wsX9_flood (wsX4_init) := ggX9_flood_X4_init
set_option maxRecDepth 20000 in
theorem ggX9_flood_X5_init : GoodIn wsX9_flood wsX5_init := goodIn_r _ [48, 49, 50, 51, 52, 53, 54, 55, 40, 41, 56, 164, 165, 166, 180, 181, 182] (by decide +kernel) (by decide +kernel)
set_option maxRecDepth 20000 in
theorem gX9_flood_X5_init : GoodIn wsX9_flood (wsX5_init) := ggX9_flood_X5_init
set_option maxRecDepth 20000 in
theorem ggX9_flood_X9_lessenAll : GoodIn wsX9_flood wsX9_lessenAll := goodIn_r _ [60, 29, 5, 61, 62, 63, 64, 33, 65, 66, 67, 68, 35, 69, 70, 71, 72, 73, 74, 75, 76, 77, 78, 79, 80, 81, 82, 83, 84, 85, 86, 87, 88, 89, 90, 91, 92, 93, 94, 95, 96, 97, 98, 99, 100, 101, 102, 103, 104, 105, 106, 107, 108, 109, 110, 111, 112, 113, 114, 115, 30, 31, 32, 34, 116, 117, 118, 119, 120, 121, 122, 123, 124, 125, 126, 127, 128, 129, 130, 131, 132, 133, 134, 135, 4, 136, 49, 137, 138, 50, 139, 140, 141, 8, 142, 42, 44, 43, 45, 143, 144, 145, 146, 147, 148, 149, 150, 151, 152, 153, 154, 155, 156, 157, 158, 159, 160, 161, 162, 163, 167, 168, 169, 170, 171, 172, 177, 178, 179, 164, 165, 166, 183, 184, 185, 186, 187, 188, 173, 174, 175, 176, 180, 181, 182, 189] (by decide +kernel) (by decide +kernel)
set_option maxRecDepth 20000 in
theorem gX9_flood_X9_lessenAll : GoodIn wsX9_flood (wsV RX9 106 RX9 yX9_lessenAll wsX9_lessenAll) := goodIn_app (goodIn_of _ (by decide +kernel)) ggX9_flood_X9_lessenAll
theorem dX9_flood_0 : decode cX9_flood 0 = .ok (.iload_n 1, 1) := by decide +kernel
theorem dX9_flood_1 : decode cX9_flood 1 = .ok (.iload_n 2, 1) := by decide +kernel
theorem dX9_flood_2 : decode cX9_flood 2 = .ok (.invokestatic 42, 3) := by decide +kernel
theorem dX9_flood_5 : decode cX9_flood 5 = .ok (.iload_n 3, 1) := by decide +kernel
theorem dX9_flood_6 : decode cX9_flood 6 = .ok (.iload 4, 2) := by decide +kernel
theorem dX9_flood_8 : decode cX9_flood 8 = .ok (.invokestatic 42, 3) := by decide +kernel
theorem dX9_flood_11 : decode cX9_flood 11 = .ok (.iload 5, 2) := by decide +kernel
theorem dX9_flood_13 : decode cX9_flood 13 = .ok (.i2l, 1) := by decide +kernel
theorem dX9_flood_14 : decode cX9_flood 14 = .ok (.lconst 1, 1) := by decide +kernel
theorem dX9_flood_15 : decode cX9_flood 15 = .ok (.ldc2_w 85, 3) := by decide +kernel
theorem dX9_flood_18 : decode cX9_flood 18 = .ok (.invokestatic 48, 3) := by decide +kernel
theorem dX9_flood_21 : decode cX9_flood 21 = .ok (.iload_n 1, 1) := by decide +kernel
theorem dX9_flood_22 : decode cX9_flood 22 = .ok (.iload_n 2, 1) := by decide +kernel
theorem dX9_flood_23 : decode cX9_flood 23 = .ok (.iload_n 3, 1) := by decide +kernel
theorem dX9_flood_24 : decode cX9_flood 24 = .ok (.iload 4, 2) := by decide +kernel
theorem dX9_flood_26 : decode cX9_flood 26 = .ok (.invokestatic 87, 3) := by decide +kernel
theorem dX9_flood_29 : decode cX9_flood 29 = .ok (.aload_n 0, 1) := by decide +kernel
theorem dX9_flood_30 : decode cX9_flood 30 = .ok (.invokevirtual 91, 3) := by decide +kernel
theorem dX9_flood_33 : decode cX9_flood 33 = .ok (.aload_n 0, 1) := by decide +kernel
theorem dX9_flood_34 : decode cX9_flood 34 = .ok (.new 94, 3) := by decide +kernel
theorem dX9_flood_37 : decode cX9_flood 37 = .ok (.dup, 1) := by decide +kernel
theorem dX9_flood_38 : decode cX9_flood 38 = .ok (.aload_n 0, 1) := by decide +kernel
theorem dX9_flood_39 : decode cX9_flood 39 = .ok (.getfield 21, 3) := by decide +kernel
theorem dX9_flood_42 : decode cX9_flood 42 = .ok (.invokevirtual 96, 3) := by decide +kernel
theorem dX9_flood_45 : decode cX9_flood 45 = .ok (.new 99, 3) := by decide +kernel
theorem dX9_flood_48 : decode cX9_flood 48 = .ok (.dup, 1) := by decide +kernel
theorem dX9_flood_49 : decode cX9_flood 49 = .ok (.iload_n 1, 1) := by decide +kernel
theorem dX9_flood_50 : decode cX9_flood 50 = .ok (.iload_n 2, 1) := by decide +kernel
theorem dX9_flood_51 : decode cX9_flood 51 = .ok (.iload_n 3, 1) := by decide +kernel
theorem dX9_flood_52 : decode cX9_flood 52 = .ok (.iload 4, 2) := by decide +kernel
theorem dX9_flood_54 : decode cX9_flood 54 = .ok (.invokespecial 101, 3) := by decide +kernel
theorem dX9_flood_57 : decode cX9_flood 57 = .ok (.iload 5, 2) := by decide +kernel
theorem dX9_flood_59 : decode cX9_flood 59 = .ok (.invokespecial 103, 3) := by decide +kernel
theorem dX9_flood_62 : decode cX9_flood 62 = .ok (.invokevirtual 106, 3) := by decide +kernel
theorem dX9_flood_65 : decode cX9_flood 65 = .ok (.ireturn, 1) := by decide +kernel
set_option maxRecDepth 20000 in
theorem ggX9_soften_X9_requireRange : GoodIn wsX9_soften wsX9_requireRange := goodIn_ca (goodIn_r _ [10, 11, 12] (by decide +kernel) (by decide +kernel)) (goodIn_sub (fun _ h => List.mem_cons_of_mem _ (List.mem_append_left _ (List.mem_append_right _ h))) (by decide +kernel))
set_option maxRecDepth 20000 in
theorem gX9_soften_X9_requireRange : GoodIn wsX9_soften (va_wsS RX9 48 yX9_requireRange wsX9_requireRange) := goodIn_app (goodIn_of _ (by decide +kernel)) ggX9_soften_X9_requireRange
set_option maxRecDepth 20000 in
theorem ggX9_soften_X9_requireRoomForLessening : GoodIn wsX9_soften wsX9_requireRoomForLessening := goodIn_ca (goodIn_r _ [16, 17, 18, 19, 20, 21, 22, 23, 24, 25, 170, 171, 172, 173, 174, 175, 176, 177, 178] (by decide +kernel) (by decide +kernel)) (goodIn_sub (fun _ h => List.mem_cons_of_mem _ (List.mem_append_right _ h)) (by decide +kernel))
set_option maxRecDepth 20000 in
theorem gX9_soften_X9_requireRoomForLessening : GoodIn wsX9_soften (wsV RX9 91 RX9 yX9_requireRoomForLessening wsX9_requireRoomForLessening) := goodIn_app (goodIn_of _ (by decide +kernel)) ggX9_soften_X9_requireRoomForLessening
set_option maxRecDepth 20000 in
theorem ggX9_soften_Jx4a65c_size_8abf5 : GoodIn wsX9_soften wsJx4a65c_size_8abf5 := goodIn_r _ [24, 25, 176, 177, 178] (by decide +kernel) (by decide +kernel)
set_option maxRecDepth 20000 in
theorem gX9_soften_Jx4a65c_size_8abf5 : GoodIn wsX9_soften (wsV RX9 96 RJx4a65c yJx4a65c_size_8abf5 wsJx4a65c_size_8abf5) := goodIn_app (goodIn_of _ (by decide +kernel)) ggX9_soften_Jx4a65c_size_8abf5
set_option maxRecDepth 20000 in
theorem ggX9_soften_X6_copy : GoodIn wsX9_soften wsX6_copy := goodIn_r _ [30, 31, 32, 29, 33, 34, 35, 36, 37, 38, 39, 40, 41, 42, 43, 44, 45, 179] (by decide +kernel) (by decide +kernel)
set_option maxRecDepth 20000 in
theorem gX9_soften_X6_copy : GoodIn wsX9_soften (wsV RX9 112 RX6 yX6_copy wsX6_copy) := goodIn_app (goodIn_of _ (by decide +kernel)) ggX9_soften_X6_copy
set_option maxRecDepth 20000 in
theorem ggX9_soften_X8_init : GoodIn wsX9_soften wsX8_init := goodIn_r _ [48, 49, 50, 51, 52, 53, 54, 55, 44, 45, 56, 167, 168, 169, 180, 181, 182] (by decide +kernel) (by decide +kernel)
set_option maxRecDepth 20000 in
theorem gX9_soften_X8_init : GoodIn wsX9_soften (wsX8_init) := ggX9_soften_X8_init
set_option maxRecDepth 20000 in
theorem ggX9_soften_X9_lessenAll : GoodIn wsX9_soften wsX9_lessenAll := goodIn_r _ [60, 19, 5, 61, 62, 63, 64, 23, 65, 66, 67, 68, 25, 69, 70, 71, 72, 73, 74, 75, 76, 77, 78, 79, 80, 81, 82, 83, 84, 85, 86, 87, 88, 89, 90, 91, 92, 93, 94, 95, 96, 97, 98, 99, 100, 101, 102, 103, 104, 105, 106, 107, 108, 109, 110, 111, 112, 113, 114, 115, 20, 21, 22, 24, 116, 117, 118, 119, 120, 121, 122, 123, 124, 125, 126, 127, 128, 129, 130, 131, 132, 133, 134, 135, 136, 137, 138, 139, 140, 141, 142, 143, 144, 145, 146, 147, 148, 149, 150, 151, 152, 4, 153, 49, 154, 155, 50, 156, 157, 158, 29, 159, 33, 160, 161, 162, 163, 164, 165, 166, 170, 171, 172, 173, 174, 175, 176, 177, 178, 180, 181, 182, 183, 184, 185, 186, 187, 188, 189, 190, 191, 192, 167, 168, 169, 179] (by decide +kernel) (by decide +kernel)
set_option maxRecDepth 20000 in
theorem gX9_soften_X9_lessenAll : GoodIn wsX9_soften (wsV RX9 106 RX9 yX9_lessenAll wsX9_lessenAll) := goodIn_app (goodIn_of _ (by decide +kernel)) ggX9_soften_X9_lessenAll
theorem dX9_soften_0 : decode cX9_soften 0 = .ok (.iload_n 1, 1) := by decide +kernel
theorem dX9_soften_1 : decode cX9_soften 1 = .ok (.i2l, 1) := by decide +kernel
theorem dX9_soften_2 : decode cX9_soften 2 = .ok (.lconst 1, 1) := by decide +kernel
theorem dX9_soften_3 : decode cX9_soften 3 = .ok (.ldc2_w 85, 3) := by decide +kernel
theorem dX9_soften_6 : decode cX9_soften 6 = .ok (.invokestatic 48, 3) := by decide +kernel
theorem dX9_soften_9 : decode cX9_soften 9 = .ok (.aload_n 0, 1) := by decide +kernel
theorem dX9_soften_10 : decode cX9_soften 10 = .ok (.invokevirtual 91, 3) := by decide +kernel
theorem dX9_soften_13 : decode cX9_soften 13 = .ok (.aload_n 0, 1) := by decide +kernel
theorem dX9_soften_14 : decode cX9_soften 14 = .ok (.new 110, 3) := by decide +kernel
theorem dX9_soften_17 : decode cX9_soften 17 = .ok (.dup, 1) := by decide +kernel
theorem dX9_soften_18 : decode cX9_soften 18 = .ok (.aload_n 0, 1) := by decide +kernel
theorem dX9_soften_19 : decode cX9_soften 19 = .ok (.getfield 21, 3) := by decide +kernel
theorem dX9_soften_22 : decode cX9_soften 22 = .ok (.invokevirtual 96, 3) := by decide +kernel
theorem dX9_soften_25 : decode cX9_soften 25 = .ok (.aload_n 0, 1) := by decide +kernel
theorem dX9_soften_26 : decode cX9_soften 26 = .ok (.getfield 14, 3) := by decide +kernel
theorem dX9_soften_29 : decode cX9_soften 29 = .ok (.invokevirtual 112, 3) := by decide +kernel
theorem dX9_soften_32 : decode cX9_soften 32 = .ok (.iload_n 1, 1) := by decide +kernel
theorem dX9_soften_33 : decode cX9_soften 33 = .ok (.invokespecial 116, 3) := by decide +kernel
theorem dX9_soften_36 : decode cX9_soften 36 = .ok (.invokevirtual 106, 3) := by decide +kernel
theorem dX9_soften_39 : decode cX9_soften 39 = .ok (.ireturn, 1) := by decide +kernel
set_option maxRecDepth 20000 in
theorem ggX9_eye_X9_requireRange : GoodIn wsX9_eye wsX9_requireRange := goodIn_ca (goodIn_r _ [11, 12, 13] (by decide +kernel) (by decide +kernel)) (goodIn_sub (fun _ h => List.mem_cons_of_mem _ (List.mem_append_right _ h)) (by decide +kernel))
set_option maxRecDepth 20000 in
theorem gX9_eye_X9_requireRange : GoodIn wsX9_eye (va_wsS RX9 48 yX9_requireRange wsX9_requireRange) := goodIn_app (goodIn_of _ (by decide +kernel)) ggX9_eye_X9_requireRange
set_option maxRecDepth 20000 in
theorem ggX9_eye_Jx4a65c_size_8abf5 : GoodIn wsX9_eye wsJx4a65c_size_8abf5 := goodIn_r _ [18, 19, 88, 89, 90] (by decide +kernel) (by decide +kernel)
set_option maxRecDepth 20000 in
theorem gX9_eye_Jx4a65c_size_8abf5 : GoodIn wsX9_eye (wsV RX9 96 RJx4a65c yJx4a65c_size_8abf5 wsJx4a65c_size_8abf5) := goodIn_app (goodIn_of _ (by decide +kernel)) ggX9_eye_Jx4a65c_size_8abf5
set_option maxRecDepth 20000 in
theorem ggX9_eye_X3_init : GoodIn wsX9_eye wsX3_init := goodIn_r _ [22, 23, 24, 25, 26, 87] (by decide +kernel) (by decide +kernel)
set_option maxRecDepth 20000 in
theorem gX9_eye_X3_init : GoodIn wsX9_eye (wsX3_init) := ggX9_eye_X3_init
set_option maxRecDepth 20000 in
theorem ggX9_eye_Jx4a65c_add_9ea2d : GoodIn wsX9_eye wsJx4a65c_add_9ea2d := goodIn_r _ [30, 31, 32, 33, 19, 34, 35, 36, 17, 37, 38, 39, 40, 41, 42, 43, 44, 45, 46, 47, 48, 49, 50, 51, 52, 53, 54, 55, 56, 57, 58, 59, 60, 61, 62, 63, 64, 65, 66, 67, 68, 69, 70, 71, 72, 73, 74, 75, 76, 77, 78, 79, 80, 88, 89, 90] (by decide +kernel) (by decide +kernel)
set_option maxRecDepth 20000 in
theorem gX9_eye_Jx4a65c_add_9ea2d : GoodIn wsX9_eye (wsV RX9 132 RJx4a65c yJx4a65c_add_9ea2d wsJx4a65c_add_9ea2d) := goodIn_app (goodIn_of _ (by decide +kernel)) ggX9_eye_Jx4a65c_add_9ea2d
theorem dX9_eye_0 : decode cX9_eye 0 = .ok (.iload_n 1, 1) := by decide +kernel
theorem dX9_eye_1 : decode cX9_eye 1 = .ok (.i2l, 1) := by decide +kernel
theorem dX9_eye_2 : decode cX9_eye 2 = .ok (.lconst 1, 1) := by decide +kernel
theorem dX9_eye_3 : decode cX9_eye 3 = .ok (.ldc2_w 119, 3) := by decide +kernel
theorem dX9_eye_6 : decode cX9_eye 6 = .ok (.invokestatic 48, 3) := by decide +kernel
theorem dX9_eye_9 : decode cX9_eye 9 = .ok (.aload_n 0, 1) := by decide +kernel
theorem dX9_eye_10 : decode cX9_eye 10 = .ok (.getfield 28, 3) := by decide +kernel
theorem dX9_eye_13 : decode cX9_eye 13 = .ok (.invokevirtual 96, 3) := by decide +kernel
theorem dX9_eye_16 : decode cX9_eye 16 = .ok (.bipush 6, 2) := by decide +kernel
theorem dX9_eye_18 : decode cX9_eye 18 = .ok (.if_icmp .lt 13, 3) := by decide +kernel
theorem dX9_eye_21 : decode cX9_eye 21 = .ok (.new 121, 3) := by decide +kernel
theorem dX9_eye_24 : decode cX9_eye 24 = .ok (.dup, 1) := by decide +kernel
theorem dX9_eye_25 : decode cX9_eye 25 = .ok (.ldc 123, 2) := by decide +kernel
theorem dX9_eye_27 : decode cX9_eye 27 = .ok (.invokespecial 125, 3) := by decide +kernel
theorem dX9_eye_30 : decode cX9_eye 30 = .ok (.athrow, 1) := by decide +kernel
theorem dX9_eye_31 : decode cX9_eye 31 = .ok (.aload_n 0, 1) := by decide +kernel
theorem dX9_eye_32 : decode cX9_eye 32 = .ok (.getfield 28, 3) := by decide +kernel
theorem dX9_eye_35 : decode cX9_eye 35 = .ok (.new 128, 3) := by decide +kernel
theorem dX9_eye_38 : decode cX9_eye 38 = .ok (.dup, 1) := by decide +kernel
theorem dX9_eye_39 : decode cX9_eye 39 = .ok (.iload_n 1, 1) := by decide +kernel
theorem dX9_eye_40 : decode cX9_eye 40 = .ok (.invokespecial 130, 3) := by decide +kernel
theorem dX9_eye_43 : decode cX9_eye 43 = .ok (.invokevirtual 132, 3) := by decide +kernel
theorem dX9_eye_46 : decode cX9_eye 46 = .ok (.pop, 1) := by decide +kernel
theorem dX9_eye_47 : decode cX9_eye 47 = .ok (.aload_n 0, 1) := by decide +kernel
theorem dX9_eye_48 : decode cX9_eye 48 = .ok (.getfield 28, 3) := by decide +kernel
theorem dX9_eye_51 : decode cX9_eye 51 = .ok (.invokevirtual 96, 3) := by decide +kernel
theorem dX9_eye_54 : decode cX9_eye 54 = .ok (.iconst 1, 1) := by decide +kernel
theorem dX9_eye_55 : decode cX9_eye 55 = .ok (.isub, 1) := by decide +kernel
theorem dX9_eye_56 : decode cX9_eye 56 = .ok (.ireturn, 1) := by decide +kernel
set_option maxRecDepth 20000 in
theorem ggX9_anchor_X9_requireRange : GoodIn wsX9_anchor wsX9_requireRange := goodIn_ca (goodIn_r _ [9, 10, 11] (by decide +kernel) (by decide +kernel)) (goodIn_sub (fun _ h => List.mem_cons_of_mem _ (List.mem_append_right _ h)) (by decide +kernel))
set_option maxRecDepth 20000 in
theorem gX9_anchor_X9_requireRange : GoodIn wsX9_anchor (va_wsS RX9 48 yX9_requireRange wsX9_requireRange) := goodIn_app (goodIn_of _ (by decide +kernel)) ggX9_anchor_X9_requireRange
set_option maxRecDepth 20000 in
theorem ggX9_anchor_X2_canTake : GoodIn wsX9_anchor wsX2_canTake := goodIn_r _ [16, 17, 18, 19, 20, 21, 22, 23, 24, 25, 26, 27, 28, 29, 30, 31, 32, 33, 34, 35, 36, 37, 38, 39, 40, 41, 42, 43, 118, 119, 120, 121, 122, 123] (by decide +kernel) (by decide +kernel)
set_option maxRecDepth 20000 in
theorem gX9_anchor_X2_canTake : GoodIn wsX9_anchor (wsV RX9 140 RX2 yX2_canTake wsX2_canTake) := goodIn_app (goodIn_of _ (by decide +kernel)) ggX9_anchor_X2_canTake
set_option maxRecDepth 20000 in
theorem ggX9_anchor_X2_take : GoodIn wsX9_anchor wsX2_take := goodIn_r _ [47, 17, 48, 49, 50, 51, 52, 53, 54, 55, 56, 57, 58, 59, 60, 61, 24, 62, 63, 64, 43, 26, 65, 66, 67, 68, 69, 70, 71, 72, 73, 74, 75, 76, 77, 78, 79, 80, 81, 82, 83, 84, 85, 86, 87, 88, 89, 90, 91, 92, 93, 94, 95, 96, 97, 98, 99, 100, 101, 102, 103, 104, 105, 106, 107, 108, 109, 110, 111, 21, 22, 23, 25, 118, 119, 120, 121, 122, 123] (by decide +kernel) (by decide +kernel)
set_option maxRecDepth 20000 in
theorem gX9_anchor_X2_take : GoodIn wsX9_anchor (wsV RX9 146 RX2 yX2_take wsX2_take) := goodIn_app (goodIn_of _ (by decide +kernel)) ggX9_anchor_X2_take
theorem dX9_anchor_0 : decode cX9_anchor 0 = .ok (.lload_n 1, 1) := by decide +kernel
theorem dX9_anchor_1 : decode cX9_anchor 1 = .ok (.lconst 1, 1) := by decide +kernel
theorem dX9_anchor_2 : decode cX9_anchor 2 = .ok (.ldc2_w 136, 3) := by decide +kernel
theorem dX9_anchor_5 : decode cX9_anchor 5 = .ok (.invokestatic 48, 3) := by decide +kernel
theorem dX9_anchor_8 : decode cX9_anchor 8 = .ok (.lload_n 3, 1) := by decide +kernel
theorem dX9_anchor_9 : decode cX9_anchor 9 = .ok (.lconst 1, 1) := by decide +kernel
theorem dX9_anchor_10 : decode cX9_anchor 10 = .ok (.ldc2_w 138, 3) := by decide +kernel
theorem dX9_anchor_13 : decode cX9_anchor 13 = .ok (.invokestatic 48, 3) := by decide +kernel
theorem dX9_anchor_16 : decode cX9_anchor 16 = .ok (.aload_n 0, 1) := by decide +kernel
theorem dX9_anchor_17 : decode cX9_anchor 17 = .ok (.getfield 34, 3) := by decide +kernel
theorem dX9_anchor_20 : decode cX9_anchor 20 = .ok (.lload_n 1, 1) := by decide +kernel
theorem dX9_anchor_21 : decode cX9_anchor 21 = .ok (.lload_n 3, 1) := by decide +kernel
theorem dX9_anchor_22 : decode cX9_anchor 22 = .ok (.invokevirtual 140, 3) := by decide +kernel
theorem dX9_anchor_25 : decode cX9_anchor 25 = .ok (.ifCond .ne 13, 3) := by decide +kernel
theorem dX9_anchor_28 : decode cX9_anchor 28 = .ok (.new 121, 3) := by decide +kernel
theorem dX9_anchor_31 : decode cX9_anchor 31 = .ok (.dup, 1) := by decide +kernel
theorem dX9_anchor_32 : decode cX9_anchor 32 = .ok (.ldc 144, 2) := by decide +kernel
theorem dX9_anchor_34 : decode cX9_anchor 34 = .ok (.invokespecial 125, 3) := by decide +kernel
theorem dX9_anchor_37 : decode cX9_anchor 37 = .ok (.athrow, 1) := by decide +kernel
theorem dX9_anchor_38 : decode cX9_anchor 38 = .ok (.aload_n 0, 1) := by decide +kernel
theorem dX9_anchor_39 : decode cX9_anchor 39 = .ok (.getfield 34, 3) := by decide +kernel
theorem dX9_anchor_42 : decode cX9_anchor 42 = .ok (.lload_n 1, 1) := by decide +kernel
theorem dX9_anchor_43 : decode cX9_anchor 43 = .ok (.lload_n 3, 1) := by decide +kernel
theorem dX9_anchor_44 : decode cX9_anchor 44 = .ok (.invokevirtual 146, 3) := by decide +kernel
theorem dX9_anchor_47 : decode cX9_anchor 47 = .ok (.ireturn, 1) := by decide +kernel
set_option maxRecDepth 20000 in
theorem ggX9_count_X9_requireEyeAndCells : GoodIn wsX9_count wsX9_requireEyeAndCells := goodIn_ca (goodIn_r _ [9, 10, 11, 12, 13, 14, 15, 16, 17, 18, 19, 20, 8, 21, 82, 83, 84, 85, 86, 87, 88, 89, 90] (by decide +kernel) (by decide +kernel)) (goodIn_sub (fun _ h => List.mem_cons_of_mem _ (List.mem_append_left _ (List.mem_append_right _ h))) (by decide +kernel))
set_option maxRecDepth 20000 in
theorem gX9_count_X9_requireEyeAndCells : GoodIn wsX9_count (wsV RX9 150 RX9 yX9_requireEyeAndCells wsX9_requireEyeAndCells) := goodIn_app (goodIn_of _ (by decide +kernel)) ggX9_count_X9_requireEyeAndCells
set_option maxRecDepth 20000 in
theorem ggX9_count_X9_requireRange : GoodIn wsX9_count wsX9_requireRange := goodIn_ca (goodIn_r _ [24, 25, 26] (by decide +kernel) (by decide +kernel)) (goodIn_sub (fun _ h => List.mem_cons_of_mem _ (List.mem_append_right _ h)) (by decide +kernel))
set_option maxRecDepth 20000 in
theorem gX9_count_X9_requireRange : GoodIn wsX9_count (va_wsS RX9 48 yX9_requireRange wsX9_requireRange) := goodIn_app (goodIn_of _ (by decide +kernel)) ggX9_count_X9_requireRange
set_option maxRecDepth 20000 in
theorem ggX9_count_X9_requireOrder : GoodIn wsX9_count wsX9_requireOrder := goodIn_ca (goodIn_r _ [29, 25, 26] (by decide +kernel) (by decide +kernel)) (goodIn_sub (fun _ h => List.mem_cons_of_mem _ (List.mem_append_right _ h)) (by decide +kernel))
set_option maxRecDepth 20000 in
theorem gX9_count_X9_requireOrder : GoodIn wsX9_count (va_wsS RX9 87 yX9_requireOrder wsX9_requireOrder) := goodIn_app (goodIn_of _ (by decide +kernel)) ggX9_count_X9_requireOrder
set_option maxRecDepth 20000 in
theorem ggX9_count_X4_init : GoodIn wsX9_count wsX4_init := goodIn_r _ [32, 33, 34, 35, 36, 37, 38, 39, 78, 79, 80, 81] (by decide +kernel) (by decide +kernel)
set_option maxRecDepth 20000 in
theorem gX9_count_X4_init : GoodIn wsX9_count (wsX4_init) := ggX9_count_X4_init
set_option maxRecDepth 20000 in
theorem ggX9_count_X9_countSeen : GoodIn wsX9_count wsX9_countSeen := goodIn_r _ [43, 12, 44, 45, 46, 47, 48, 49, 13, 14, 15, 16, 17, 18, 50, 51, 52, 53, 54, 55, 56, 57, 58, 59, 60, 61, 62, 63, 64, 65, 66, 67, 68, 69, 4, 70, 36, 38, 37, 39, 71, 72, 73, 74, 75, 76, 77, 82, 83, 84, 85, 86, 87, 91, 92, 93, 94, 95, 96, 88, 89, 90, 78, 79, 80, 81, 97] (by decide +kernel) (by decide +kernel)
set_option maxRecDepth 20000 in
theorem gX9_count_X9_countSeen : GoodIn wsX9_count (wsV RX9 156 RX9 yX9_countSeen wsX9_countSeen) := goodIn_app (goodIn_of _ (by decide +kernel)) ggX9_count_X9_countSeen
theorem dX9_count_0 : decode cX9_count 0 = .ok (.aload_n 0, 1) := by decide +kernel
theorem dX9_count_1 : decode cX9_count 1 = .ok (.iload_n 1, 1) := by decide +kernel
theorem dX9_count_2 : decode cX9_count 2 = .ok (.iload_n 2, 1) := by decide +kernel
theorem dX9_count_3 : decode cX9_count 3 = .ok (.iload_n 3, 1) := by decide +kernel
theorem dX9_count_4 : decode cX9_count 4 = .ok (.iload 4, 2) := by decide +kernel
theorem dX9_count_6 : decode cX9_count 6 = .ok (.iload 5, 2) := by decide +kernel
theorem dX9_count_8 : decode cX9_count 8 = .ok (.invokevirtual 150, 3) := by decide +kernel
theorem dX9_count_11 : decode cX9_count 11 = .ok (.iload 6, 2) := by decide +kernel
theorem dX9_count_13 : decode cX9_count 13 = .ok (.i2l, 1) := by decide +kernel
theorem dX9_count_14 : decode cX9_count 14 = .ok (.lconst 1, 1) := by decide +kernel
theorem dX9_count_15 : decode cX9_count 15 = .ok (.ldc2_w 154, 3) := by decide +kernel
theorem dX9_count_18 : decode cX9_count 18 = .ok (.invokestatic 48, 3) := by decide +kernel
theorem dX9_count_21 : decode cX9_count 21 = .ok (.iload_n 2, 1) := by decide +kernel
theorem dX9_count_22 : decode cX9_count 22 = .ok (.iload_n 3, 1) := by decide +kernel
theorem dX9_count_23 : decode cX9_count 23 = .ok (.iload 4, 2) := by decide +kernel
theorem dX9_count_25 : decode cX9_count 25 = .ok (.iload 5, 2) := by decide +kernel
theorem dX9_count_27 : decode cX9_count 27 = .ok (.invokestatic 87, 3) := by decide +kernel
theorem dX9_count_30 : decode cX9_count 30 = .ok (.aload_n 0, 1) := by decide +kernel
theorem dX9_count_31 : decode cX9_count 31 = .ok (.iload_n 1, 1) := by decide +kernel
theorem dX9_count_32 : decode cX9_count 32 = .ok (.new 99, 3) := by decide +kernel
theorem dX9_count_35 : decode cX9_count 35 = .ok (.dup, 1) := by decide +kernel
theorem dX9_count_36 : decode cX9_count 36 = .ok (.iload_n 2, 1) := by decide +kernel
theorem dX9_count_37 : decode cX9_count 37 = .ok (.iload_n 3, 1) := by decide +kernel
theorem dX9_count_38 : decode cX9_count 38 = .ok (.iload 4, 2) := by decide +kernel
theorem dX9_count_40 : decode cX9_count 40 = .ok (.iload 5, 2) := by decide +kernel
theorem dX9_count_42 : decode cX9_count 42 = .ok (.invokespecial 101, 3) := by decide +kernel
theorem dX9_count_45 : decode cX9_count 45 = .ok (.iload 6, 2) := by decide +kernel
theorem dX9_count_47 : decode cX9_count 47 = .ok (.invokevirtual 156, 3) := by decide +kernel
theorem dX9_count_50 : decode cX9_count 50 = .ok (.ireturn, 1) := by decide +kernel
set_option maxRecDepth 20000 in
theorem ggX9_age_X9_requireEyeAndCells : GoodIn wsX9_age wsX9_requireEyeAndCells := goodIn_ca (goodIn_r _ [11, 12, 13, 14, 15, 16, 17, 18, 19, 20, 21, 22, 10, 23, 109, 110, 111, 112, 113, 114, 115, 116, 117] (by decide +kernel) (by decide +kernel)) (goodIn_sub (fun _ h => List.mem_cons_of_mem _ (List.mem_append_left _ (List.mem_append_right _ h))) (by decide +kernel))
set_option maxRecDepth 20000 in
theorem gX9_age_X9_requireEyeAndCells : GoodIn wsX9_age (wsV RX9 150 RX9 yX9_requireEyeAndCells wsX9_requireEyeAndCells) := goodIn_app (goodIn_of _ (by decide +kernel)) ggX9_age_X9_requireEyeAndCells
set_option maxRecDepth 20000 in
theorem ggX9_age_X9_requireOrder : GoodIn wsX9_age wsX9_requireOrder := goodIn_ca (goodIn_r _ [26, 27, 28] (by decide +kernel) (by decide +kernel)) (goodIn_sub (fun _ h => List.mem_cons_of_mem _ (List.mem_append_right _ h)) (by decide +kernel))
set_option maxRecDepth 20000 in
theorem gX9_age_X9_requireOrder : GoodIn wsX9_age (va_wsS RX9 87 yX9_requireOrder wsX9_requireOrder) := goodIn_app (goodIn_of _ (by decide +kernel)) ggX9_age_X9_requireOrder
set_option maxRecDepth 20000 in
theorem ggX9_age_X4_init : GoodIn wsX9_age wsX4_init := goodIn_r _ [31, 32, 33, 34, 35, 36, 37, 38, 105, 106, 107, 108] (by decide +kernel) (by decide +kernel)
set_option maxRecDepth 20000 in
theorem gX9_age_X4_init : GoodIn wsX9_age (wsX4_init) := ggX9_age_X4_init
set_option maxRecDepth 20000 in
theorem ggX9_age_X9_densitySeen : GoodIn wsX9_age wsX9_densitySeen := goodIn_r _ [42, 43, 44, 45, 46, 10, 47, 14, 48, 49, 50, 51, 52, 53, 15, 16, 17, 18, 19, 20, 54, 55, 56, 57, 58, 59, 60, 61, 62, 63, 64, 65, 66, 67, 68, 69, 70, 71, 72, 73, 5, 74, 35, 37, 36, 38, 75, 76, 77, 78, 79, 80, 81, 82, 83, 84, 85, 86, 87, 88, 89, 109, 110, 111, 112, 113, 114, 118, 119, 120, 121, 122, 123, 115, 116, 117, 105, 106, 107, 108, 124] (by decide +kernel) (by decide +kernel)
set_option maxRecDepth 20000 in
theorem gX9_age_X9_densitySeen : GoodIn wsX9_age (wsV RX9 160 RX9 yX9_densitySeen wsX9_densitySeen) := goodIn_app (goodIn_of _ (by decide +kernel)) ggX9_age_X9_densitySeen
set_option maxRecDepth 20000 in
theorem ggX9_age_X2_lackFor : GoodIn wsX9_age wsX2_lackFor := goodIn_r _ [93, 94, 95, 96, 97, 16, 17, 18, 19, 20, 98, 55, 56, 57, 58, 59, 60, 61, 62, 63, 64, 65, 66, 67, 68, 69, 70, 125, 126, 127, 115, 116, 117] (by decide +kernel) (by decide +kernel)
set_option maxRecDepth 20000 in
theorem gX9_age_X2_lackFor : GoodIn wsX9_age (wsV RX9 164 RX2 yX2_lackFor wsX2_lackFor) := goodIn_app (goodIn_of _ (by decide +kernel)) ggX9_age_X2_lackFor
set_option maxRecDepth 20000 in
theorem ggX9_age_X2_yearsOf : GoodIn wsX9_age wsX2_yearsOf := goodIn_r _ [102, 94, 95, 96, 103, 97, 16, 17, 18, 19, 20, 98, 55, 56, 57, 58, 59, 60, 61, 62, 63, 64, 65, 66, 67, 68, 69, 70, 104, 87, 88, 89, 125, 126, 127, 115, 116, 117] (by decide +kernel) (by decide +kernel)
set_option maxRecDepth 20000 in
theorem gX9_age_X2_yearsOf : GoodIn wsX9_age (wsV RX9 170 RX2 yX2_yearsOf wsX2_yearsOf) := goodIn_app (goodIn_of _ (by decide +kernel)) ggX9_age_X2_yearsOf
theorem dX9_age_0 : decode cX9_age 0 = .ok (.aload_n 0, 1) := by decide +kernel
theorem dX9_age_1 : decode cX9_age 1 = .ok (.iload_n 1, 1) := by decide +kernel
theorem dX9_age_2 : decode cX9_age 2 = .ok (.iload_n 2, 1) := by decide +kernel
theorem dX9_age_3 : decode cX9_age 3 = .ok (.iload_n 3, 1) := by decide +kernel
theorem dX9_age_4 : decode cX9_age 4 = .ok (.iload 4, 2) := by decide +kernel
theorem dX9_age_6 : decode cX9_age 6 = .ok (.iload 5, 2) := by decide +kernel
theorem dX9_age_8 : decode cX9_age 8 = .ok (.invokevirtual 150, 3) := by decide +kernel
theorem dX9_age_11 : decode cX9_age 11 = .ok (.iload_n 2, 1) := by decide +kernel
theorem dX9_age_12 : decode cX9_age 12 = .ok (.iload_n 3, 1) := by decide +kernel
theorem dX9_age_13 : decode cX9_age 13 = .ok (.iload 4, 2) := by decide +kernel
theorem dX9_age_15 : decode cX9_age 15 = .ok (.iload 5, 2) := by decide +kernel
theorem dX9_age_17 : decode cX9_age 17 = .ok (.invokestatic 87, 3) := by decide +kernel
theorem dX9_age_20 : decode cX9_age 20 = .ok (.aload_n 0, 1) := by decide +kernel
theorem dX9_age_21 : decode cX9_age 21 = .ok (.iload_n 1, 1) := by decide +kernel
theorem dX9_age_22 : decode cX9_age 22 = .ok (.new 99, 3) := by decide +kernel
theorem dX9_age_25 : decode cX9_age 25 = .ok (.dup, 1) := by decide +kernel
theorem dX9_age_26 : decode cX9_age 26 = .ok (.iload_n 2, 1) := by decide +kernel
theorem dX9_age_27 : decode cX9_age 27 = .ok (.iload_n 3, 1) := by decide +kernel
theorem dX9_age_28 : decode cX9_age 28 = .ok (.iload 4, 2) := by decide +kernel
theorem dX9_age_30 : decode cX9_age 30 = .ok (.iload 5, 2) := by decide +kernel
theorem dX9_age_32 : decode cX9_age 32 = .ok (.invokespecial 101, 3) := by decide +kernel
theorem dX9_age_35 : decode cX9_age 35 = .ok (.invokevirtual 160, 3) := by decide +kernel
theorem dX9_age_38 : decode cX9_age 38 = .ok (.lstore 6, 2) := by decide +kernel
theorem dX9_age_40 : decode cX9_age 40 = .ok (.aload_n 0, 1) := by decide +kernel
theorem dX9_age_41 : decode cX9_age 41 = .ok (.getfield 34, 3) := by decide +kernel
theorem dX9_age_44 : decode cX9_age 44 = .ok (.lload 6, 2) := by decide +kernel
end
section
theorem dX9_age_46 : decode cX9_age 46 = .ok (.invokevirtual 164, 3) := by decide +kernel
theorem dX9_age_49 : decode cX9_age 49 = .ok (.ifCond .eq 13, 3) := by decide +kernel
theorem dX9_age_52 : decode cX9_age 52 = .ok (.new 121, 3) := by decide +kernel
theorem dX9_age_55 : decode cX9_age 55 = .ok (.dup, 1) := by decide +kernel
theorem dX9_age_56 : decode cX9_age 56 = .ok (.ldc 168, 2) := by decide +kernel
theorem dX9_age_58 : decode cX9_age 58 = .ok (.invokespecial 125, 3) := by decide +kernel
theorem dX9_age_61 : decode cX9_age 61 = .ok (.athrow, 1) := by decide +kernel
theorem dX9_age_62 : decode cX9_age 62 = .ok (.aload_n 0, 1) := by decide +kernel
theorem dX9_age_63 : decode cX9_age 63 = .ok (.getfield 34, 3) := by decide +kernel
theorem dX9_age_66 : decode cX9_age 66 = .ok (.lload 6, 2) := by decide +kernel
theorem dX9_age_68 : decode cX9_age 68 = .ok (.invokevirtual 170, 3) := by decide +kernel
theorem dX9_age_71 : decode cX9_age 71 = .ok (.lreturn, 1) := by decide +kernel
set_option maxRecDepth 20000 in
theorem ggX9_whyNot_X9_requireEyeAndCells : GoodIn wsX9_whyNot wsX9_requireEyeAndCells := goodIn_ca (goodIn_r _ [9, 10, 11, 12, 13, 14, 15, 16, 17, 18, 19, 20, 8, 21, 97, 98, 99, 100, 101, 102, 107, 108, 109] (by decide +kernel) (by decide +kernel)) (goodIn_sub (fun _ h => List.mem_cons_of_mem _ (List.mem_append_left _ (List.mem_append_right _ h))) (by decide +kernel))
set_option maxRecDepth 20000 in
theorem gX9_whyNot_X9_requireEyeAndCells : GoodIn wsX9_whyNot (wsV RX9 150 RX9 yX9_requireEyeAndCells wsX9_requireEyeAndCells) := goodIn_app (goodIn_of _ (by decide +kernel)) ggX9_whyNot_X9_requireEyeAndCells
set_option maxRecDepth 20000 in
theorem ggX9_whyNot_X9_requireOrder : GoodIn wsX9_whyNot wsX9_requireOrder := goodIn_ca (goodIn_r _ [24, 25, 26] (by decide +kernel) (by decide +kernel)) (goodIn_sub (fun _ h => List.mem_cons_of_mem _ (List.mem_append_right _ h)) (by decide +kernel))
set_option maxRecDepth 20000 in
theorem gX9_whyNot_X9_requireOrder : GoodIn wsX9_whyNot (va_wsS RX9 87 yX9_requireOrder wsX9_requireOrder) := goodIn_app (goodIn_of _ (by decide +kernel)) ggX9_whyNot_X9_requireOrder
set_option maxRecDepth 20000 in
theorem ggX9_whyNot_X4_init : GoodIn wsX9_whyNot wsX4_init := goodIn_r _ [29, 30, 31, 32, 33, 34, 35, 36, 103, 104, 105, 106] (by decide +kernel) (by decide +kernel)
set_option maxRecDepth 20000 in
theorem gX9_whyNot_X4_init : GoodIn wsX9_whyNot (wsX4_init) := ggX9_whyNot_X4_init
set_option maxRecDepth 20000 in
theorem ggX9_whyNot_X9_densitySeen : GoodIn wsX9_whyNot wsX9_densitySeen := goodIn_r _ [40, 41, 42, 43, 44, 8, 45, 12, 46, 47, 48, 49, 50, 51, 13, 14, 15, 16, 17, 18, 52, 53, 54, 55, 56, 57, 58, 59, 60, 61, 62, 63, 64, 65, 66, 67, 68, 69, 70, 71, 4, 72, 33, 35, 34, 36, 73, 74, 75, 76, 77, 78, 79, 80, 81, 82, 83, 84, 85, 86, 87, 97, 98, 99, 100, 101, 102, 110, 111, 112, 113, 114, 115, 107, 108, 109, 103, 104, 105, 106, 116] (by decide +kernel) (by decide +kernel)
set_option maxRecDepth 20000 in
theorem gX9_whyNot_X9_densitySeen : GoodIn wsX9_whyNot (wsV RX9 160 RX9 yX9_densitySeen wsX9_densitySeen) := goodIn_app (goodIn_of _ (by decide +kernel)) ggX9_whyNot_X9_densitySeen
set_option maxRecDepth 20000 in
theorem ggX9_whyNot_X2_lackFor : GoodIn wsX9_whyNot wsX2_lackFor := goodIn_r _ [91, 92, 93, 94, 95, 14, 15, 16, 17, 18, 96, 53, 54, 55, 56, 57, 58, 59, 60, 61, 62, 63, 64, 65, 66, 67, 68, 117, 118, 119, 107, 108, 109] (by decide +kernel) (by decide +kernel)
set_option maxRecDepth 20000 in
theorem gX9_whyNot_X2_lackFor : GoodIn wsX9_whyNot (wsV RX9 164 RX2 yX2_lackFor wsX2_lackFor) := goodIn_app (goodIn_of _ (by decide +kernel)) ggX9_whyNot_X2_lackFor
theorem dX9_whyNot_0 : decode cX9_whyNot 0 = .ok (.aload_n 0, 1) := by decide +kernel
theorem dX9_whyNot_1 : decode cX9_whyNot 1 = .ok (.iload_n 1, 1) := by decide +kernel
theorem dX9_whyNot_2 : decode cX9_whyNot 2 = .ok (.iload_n 2, 1) := by decide +kernel
theorem dX9_whyNot_3 : decode cX9_whyNot 3 = .ok (.iload_n 3, 1) := by decide +kernel
theorem dX9_whyNot_4 : decode cX9_whyNot 4 = .ok (.iload 4, 2) := by decide +kernel
theorem dX9_whyNot_6 : decode cX9_whyNot 6 = .ok (.iload 5, 2) := by decide +kernel
theorem dX9_whyNot_8 : decode cX9_whyNot 8 = .ok (.invokevirtual 150, 3) := by decide +kernel
theorem dX9_whyNot_11 : decode cX9_whyNot 11 = .ok (.iload_n 2, 1) := by decide +kernel
theorem dX9_whyNot_12 : decode cX9_whyNot 12 = .ok (.iload_n 3, 1) := by decide +kernel
theorem dX9_whyNot_13 : decode cX9_whyNot 13 = .ok (.iload 4, 2) := by decide +kernel
theorem dX9_whyNot_15 : decode cX9_whyNot 15 = .ok (.iload 5, 2) := by decide +kernel
theorem dX9_whyNot_17 : decode cX9_whyNot 17 = .ok (.invokestatic 87, 3) := by decide +kernel
theorem dX9_whyNot_20 : decode cX9_whyNot 20 = .ok (.aload_n 0, 1) := by decide +kernel
theorem dX9_whyNot_21 : decode cX9_whyNot 21 = .ok (.getfield 34, 3) := by decide +kernel
theorem dX9_whyNot_24 : decode cX9_whyNot 24 = .ok (.aload_n 0, 1) := by decide +kernel
theorem dX9_whyNot_25 : decode cX9_whyNot 25 = .ok (.iload_n 1, 1) := by decide +kernel
theorem dX9_whyNot_26 : decode cX9_whyNot 26 = .ok (.new 99, 3) := by decide +kernel
theorem dX9_whyNot_29 : decode cX9_whyNot 29 = .ok (.dup, 1) := by decide +kernel
theorem dX9_whyNot_30 : decode cX9_whyNot 30 = .ok (.iload_n 2, 1) := by decide +kernel
theorem dX9_whyNot_31 : decode cX9_whyNot 31 = .ok (.iload_n 3, 1) := by decide +kernel
theorem dX9_whyNot_32 : decode cX9_whyNot 32 = .ok (.iload 4, 2) := by decide +kernel
theorem dX9_whyNot_34 : decode cX9_whyNot 34 = .ok (.iload 5, 2) := by decide +kernel
theorem dX9_whyNot_36 : decode cX9_whyNot 36 = .ok (.invokespecial 101, 3) := by decide +kernel
theorem dX9_whyNot_39 : decode cX9_whyNot 39 = .ok (.invokevirtual 160, 3) := by decide +kernel
theorem dX9_whyNot_42 : decode cX9_whyNot 42 = .ok (.invokevirtual 164, 3) := by decide +kernel
theorem dX9_whyNot_45 : decode cX9_whyNot 45 = .ok (.ireturn, 1) := by decide +kernel
set_option maxRecDepth 20000 in
theorem ggX9_craters_Jx4a65c_size_8abf5 : GoodIn wsX9_craters wsJx4a65c_size_8abf5 := goodIn_r _ [6, 7, 14, 15, 16] (by decide +kernel) (by decide +kernel)
set_option maxRecDepth 20000 in
theorem gX9_craters_Jx4a65c_size_8abf5 : GoodIn wsX9_craters (wsV RX9 96 RJx4a65c yJx4a65c_size_8abf5 wsJx4a65c_size_8abf5) := goodIn_app (goodIn_of _ (by decide +kernel)) ggX9_craters_Jx4a65c_size_8abf5
theorem dX9_craters_0 : decode cX9_craters 0 = .ok (.aload_n 0, 1) := by decide +kernel
theorem dX9_craters_1 : decode cX9_craters 1 = .ok (.getfield 21, 3) := by decide +kernel
theorem dX9_craters_4 : decode cX9_craters 4 = .ok (.invokevirtual 96, 3) := by decide +kernel
theorem dX9_craters_7 : decode cX9_craters 7 = .ok (.ireturn, 1) := by decide +kernel
set_option maxRecDepth 20000 in
theorem ggX9_about_X9_requireCrater : GoodIn wsX9_about wsX9_requireCrater := goodIn_ca (goodIn_r _ [12, 13, 14, 2, 15, 16, 17, 18, 19, 20, 43, 44, 45, 46, 47, 48, 55, 56, 57] (by decide +kernel) (by decide +kernel)) (goodIn_sub (fun _ h => List.mem_cons_of_mem _ (List.mem_append_left _ (List.mem_append_right _ h))) (by decide +kernel))
set_option maxRecDepth 20000 in
theorem gX9_about_X9_requireCrater : GoodIn wsX9_about (wsV RX9 174 RX9 yX9_requireCrater wsX9_requireCrater) := goodIn_app (goodIn_of _ (by decide +kernel)) ggX9_about_X9_requireCrater
set_option maxRecDepth 20000 in
theorem ggX9_about_X9_requireRange : GoodIn wsX9_about wsX9_requireRange := goodIn_ca (goodIn_r _ [23, 24, 25] (by decide +kernel) (by decide +kernel)) (goodIn_sub (fun _ h => List.mem_cons_of_mem _ (List.mem_append_right _ h)) (by decide +kernel))
set_option maxRecDepth 20000 in
theorem gX9_about_X9_requireRange : GoodIn wsX9_about (va_wsS RX9 48 yX9_requireRange wsX9_requireRange) := goodIn_app (goodIn_of _ (by decide +kernel)) ggX9_about_X9_requireRange
set_option maxRecDepth 20000 in
theorem ggX9_about_Jx4a65c_get_915e3 : GoodIn wsX9_about wsJx4a65c_get_915e3 := goodIn_r _ [29, 20, 30, 31, 32, 33, 34, 35, 36, 37, 38, 39, 40, 18, 41, 42, 55, 56, 57] (by decide +kernel) (by decide +kernel)
set_option maxRecDepth 20000 in
theorem gX9_about_Jx4a65c_get_915e3 : GoodIn wsX9_about (wsV RX9 179 RJx4a65c yJx4a65c_get_915e3 wsJx4a65c_get_915e3) := goodIn_app (goodIn_of _ (by decide +kernel)) ggX9_about_Jx4a65c_get_915e3
theorem dX9_about_0 : decode cX9_about 0 = .ok (.aload_n 0, 1) := by decide +kernel
theorem dX9_about_1 : decode cX9_about 1 = .ok (.iload_n 1, 1) := by decide +kernel
theorem dX9_about_2 : decode cX9_about 2 = .ok (.invokevirtual 174, 3) := by decide +kernel
theorem dX9_about_5 : decode cX9_about 5 = .ok (.iload_n 2, 1) := by decide +kernel
theorem dX9_about_6 : decode cX9_about 6 = .ok (.i2l, 1) := by decide +kernel
theorem dX9_about_7 : decode cX9_about 7 = .ok (.lconst 0, 1) := by decide +kernel
theorem dX9_about_8 : decode cX9_about 8 = .ok (.ldc2_w 177, 3) := by decide +kernel
theorem dX9_about_11 : decode cX9_about 11 = .ok (.invokestatic 48, 3) := by decide +kernel
theorem dX9_about_14 : decode cX9_about 14 = .ok (.aload_n 0, 1) := by decide +kernel
theorem dX9_about_15 : decode cX9_about 15 = .ok (.getfield 21, 3) := by decide +kernel
theorem dX9_about_18 : decode cX9_about 18 = .ok (.iload_n 1, 1) := by decide +kernel
theorem dX9_about_19 : decode cX9_about 19 = .ok (.invokevirtual 179, 3) := by decide +kernel
theorem dX9_about_22 : decode cX9_about 22 = .ok (.checkcast 183, 3) := by decide +kernel
theorem dX9_about_25 : decode cX9_about 25 = .ok (.astore_n 3, 1) := by decide +kernel
theorem dX9_about_26 : decode cX9_about 26 = .ok (.iload_n 2, 1) := by decide +kernel
theorem dX9_about_27 : decode cX9_about 27 = .ok (.tableswitch 40 0 2 #[25, 30, 35], 25) := by decide +kernel
theorem dX9_about_52 : decode cX9_about 52 = .ok (.aload_n 3, 1) := by decide +kernel
theorem dX9_about_53 : decode cX9_about 53 = .ok (.getfield 185, 3) := by decide +kernel
theorem dX9_about_56 : decode cX9_about 56 = .ok (.ireturn, 1) := by decide +kernel
theorem dX9_about_57 : decode cX9_about 57 = .ok (.aload_n 3, 1) := by decide +kernel
theorem dX9_about_58 : decode cX9_about 58 = .ok (.getfield 188, 3) := by decide +kernel
theorem dX9_about_61 : decode cX9_about 61 = .ok (.ireturn, 1) := by decide +kernel
theorem dX9_about_62 : decode cX9_about 62 = .ok (.aload_n 3, 1) := by decide +kernel
theorem dX9_about_63 : decode cX9_about 63 = .ok (.getfield 191, 3) := by decide +kernel
theorem dX9_about_66 : decode cX9_about 66 = .ok (.ireturn, 1) := by decide +kernel
theorem dX9_about_67 : decode cX9_about 67 = .ok (.aload_n 3, 1) := by decide +kernel
theorem dX9_about_68 : decode cX9_about 68 = .ok (.getfield 194, 3) := by decide +kernel
theorem dX9_about_71 : decode cX9_about 71 = .ok (.ireturn, 1) := by decide +kernel
set_option maxRecDepth 20000 in
theorem ggX9_depthAnew_X9_requireCrater : GoodIn wsX9_depthAnew wsX9_requireCrater := goodIn_ca (goodIn_r _ [5, 6, 7, 8, 9, 10, 11, 12, 13, 14, 92, 93, 94, 95, 96, 97, 98, 99, 100] (by decide +kernel) (by decide +kernel)) (goodIn_sub (fun _ h => List.mem_cons_of_mem _ (List.mem_append_right _ h)) (by decide +kernel))
set_option maxRecDepth 20000 in
theorem gX9_depthAnew_X9_requireCrater : GoodIn wsX9_depthAnew (wsV RX9 174 RX9 yX9_requireCrater wsX9_requireCrater) := goodIn_app (goodIn_of _ (by decide +kernel)) ggX9_depthAnew_X9_requireCrater
set_option maxRecDepth 20000 in
theorem ggX9_depthAnew_X9_depthOnceMore : GoodIn wsX9_depthAnew wsX9_depthOnceMore := goodIn_r _ [18, 8, 19, 20, 21, 22, 23, 24, 25, 26, 27, 9, 10, 11, 12, 13, 14, 28, 29, 30, 31, 32, 33, 34, 35, 36, 37, 38, 39, 40, 41, 42, 43, 44, 45, 46, 47, 48, 49, 50, 51, 52, 53, 54, 55, 56, 57, 58, 59, 60, 61, 62, 63, 64, 65, 66, 67, 68, 69, 70, 71, 72, 73, 74, 75, 76, 77, 78, 79, 80, 81, 82, 83, 84, 85, 86, 87, 88, 89, 90, 91, 92, 93, 94, 95, 96, 97, 101, 102, 103, 104, 105, 106, 107, 108, 109, 110, 111, 112, 98, 99, 100, 113, 114, 115, 116, 117] (by decide +kernel) (by decide +kernel)
set_option maxRecDepth 20000 in
theorem gX9_depthAnew_X9_depthOnceMore : GoodIn wsX9_depthAnew (wsV RX9 197 RX9 yX9_depthOnceMore wsX9_depthOnceMore) := goodIn_app (goodIn_of _ (by decide +kernel)) ggX9_depthAnew_X9_depthOnceMore
theorem dX9_depthAnew_0 : decode cX9_depthAnew 0 = .ok (.aload_n 0, 1) := by decide +kernel
theorem dX9_depthAnew_1 : decode cX9_depthAnew 1 = .ok (.iload_n 1, 1) := by decide +kernel
theorem dX9_depthAnew_2 : decode cX9_depthAnew 2 = .ok (.invokevirtual 174, 3) := by decide +kernel
theorem dX9_depthAnew_5 : decode cX9_depthAnew 5 = .ok (.aload_n 0, 1) := by decide +kernel
theorem dX9_depthAnew_6 : decode cX9_depthAnew 6 = .ok (.iload_n 1, 1) := by decide +kernel
theorem dX9_depthAnew_7 : decode cX9_depthAnew 7 = .ok (.invokevirtual 197, 3) := by decide +kernel
theorem dX9_depthAnew_10 : decode cX9_depthAnew 10 = .ok (.ireturn, 1) := by decide +kernel
set_option maxRecDepth 20000 in
theorem ggX9_top_X9_requireCell : GoodIn wsX9_top wsX9_requireCell := goodIn_ca (goodIn_r _ [7, 8, 9] (by decide +kernel) (by decide +kernel)) (goodIn_sub (fun _ h => List.mem_cons_of_mem _ (List.mem_append_right _ h)) (by decide +kernel))
set_option maxRecDepth 20000 in
theorem gX9_top_X9_requireCell : GoodIn wsX9_top (va_wsS RX9 42 yX9_requireCell wsX9_requireCell) := goodIn_app (goodIn_of _ (by decide +kernel)) ggX9_top_X9_requireCell
set_option maxRecDepth 20000 in
theorem ggX9_top_Jx4a65c_size_8abf5 : GoodIn wsX9_top wsJx4a65c_size_8abf5 := goodIn_r _ [14, 15, 57, 58, 59] (by decide +kernel) (by decide +kernel)
set_option maxRecDepth 20000 in
theorem gX9_top_Jx4a65c_size_8abf5 : GoodIn wsX9_top (wsV RX9 96 RJx4a65c yJx4a65c_size_8abf5 wsJx4a65c_size_8abf5) := goodIn_app (goodIn_of _ (by decide +kernel)) ggX9_top_Jx4a65c_size_8abf5
set_option maxRecDepth 20000 in
theorem ggX9_top_Jx4a65c_get_915e3 : GoodIn wsX9_top wsJx4a65c_get_915e3 := goodIn_r _ [19, 15, 20, 21, 22, 23, 24, 25, 26, 27, 28, 29, 30, 13, 31, 32, 57, 58, 59] (by decide +kernel) (by decide +kernel)
set_option maxRecDepth 20000 in
theorem gX9_top_Jx4a65c_get_915e3 : GoodIn wsX9_top (wsV RX9 179 RJx4a65c yJx4a65c_get_915e3 wsJx4a65c_get_915e3) := goodIn_app (goodIn_of _ (by decide +kernel)) ggX9_top_Jx4a65c_get_915e3
set_option maxRecDepth 20000 in
theorem ggX9_top_X1_covers : GoodIn wsX9_top wsX1_covers := goodIn_r _ [37, 38, 39, 40, 41, 36, 42, 43, 44, 51, 52, 53, 54, 55, 56] (by decide +kernel) (by decide +kernel)
set_option maxRecDepth 20000 in
theorem gX9_top_X1_covers : GoodIn wsX9_top (wsV RX9 200 RX1 yX1_covers wsX1_covers) := goodIn_app (goodIn_of _ (by decide +kernel)) ggX9_top_X1_covers
theorem dX9_top_0 : decode cX9_top 0 = .ok (.iload_n 1, 1) := by decide +kernel
theorem dX9_top_1 : decode cX9_top 1 = .ok (.iload_n 2, 1) := by decide +kernel
theorem dX9_top_2 : decode cX9_top 2 = .ok (.invokestatic 42, 3) := by decide +kernel
theorem dX9_top_5 : decode cX9_top 5 = .ok (.aload_n 0, 1) := by decide +kernel
theorem dX9_top_6 : decode cX9_top 6 = .ok (.getfield 21, 3) := by decide +kernel
theorem dX9_top_9 : decode cX9_top 9 = .ok (.invokevirtual 96, 3) := by decide +kernel
theorem dX9_top_12 : decode cX9_top 12 = .ok (.iconst 1, 1) := by decide +kernel
theorem dX9_top_13 : decode cX9_top 13 = .ok (.isub, 1) := by decide +kernel
theorem dX9_top_14 : decode cX9_top 14 = .ok (.istore_n 3, 1) := by decide +kernel
theorem dX9_top_15 : decode cX9_top 15 = .ok (.iload_n 3, 1) := by decide +kernel
theorem dX9_top_16 : decode cX9_top 16 = .ok (.ifCond .lt 42, 3) := by decide +kernel
theorem dX9_top_19 : decode cX9_top 19 = .ok (.aload_n 0, 1) := by decide +kernel
theorem dX9_top_20 : decode cX9_top 20 = .ok (.getfield 21, 3) := by decide +kernel
theorem dX9_top_23 : decode cX9_top 23 = .ok (.iload_n 3, 1) := by decide +kernel
theorem dX9_top_24 : decode cX9_top 24 = .ok (.invokevirtual 179, 3) := by decide +kernel
theorem dX9_top_27 : decode cX9_top 27 = .ok (.checkcast 183, 3) := by decide +kernel
theorem dX9_top_30 : decode cX9_top 30 = .ok (.astore 4, 2) := by decide +kernel
theorem dX9_top_32 : decode cX9_top 32 = .ok (.aload 4, 2) := by decide +kernel
theorem dX9_top_34 : decode cX9_top 34 = .ok (.getfield 194, 3) := by decide +kernel
theorem dX9_top_37 : decode cX9_top 37 = .ok (.ifCond .le 15, 3) := by decide +kernel
theorem dX9_top_40 : decode cX9_top 40 = .ok (.aload 4, 2) := by decide +kernel
theorem dX9_top_42 : decode cX9_top 42 = .ok (.iload_n 1, 1) := by decide +kernel
theorem dX9_top_43 : decode cX9_top 43 = .ok (.iload_n 2, 1) := by decide +kernel
theorem dX9_top_44 : decode cX9_top 44 = .ok (.invokevirtual 200, 3) := by decide +kernel
theorem dX9_top_47 : decode cX9_top 47 = .ok (.ifCond .eq 5, 3) := by decide +kernel
theorem dX9_top_50 : decode cX9_top 50 = .ok (.iload_n 3, 1) := by decide +kernel
theorem dX9_top_51 : decode cX9_top 51 = .ok (.ireturn, 1) := by decide +kernel
theorem dX9_top_52 : decode cX9_top 52 = .ok (.iinc 3 (-1), 3) := by decide +kernel
theorem dX9_top_55 : decode cX9_top 55 = .ok (.goto (-40), 3) := by decide +kernel
theorem dX9_top_58 : decode cX9_top 58 = .ok (.iconst (-1), 1) := by decide +kernel
theorem dX9_top_59 : decode cX9_top 59 = .ok (.ireturn, 1) := by decide +kernel
set_option maxRecDepth 20000 in
theorem ggX9_topAnew_X9_requireCell : GoodIn wsX9_topAnew wsX9_requireCell := goodIn_ca (goodIn_r _ [6, 7, 8] (by decide +kernel) (by decide +kernel)) (goodIn_sub (fun _ h => List.mem_cons_of_mem _ (List.mem_append_right _ h)) (by decide +kernel))
set_option maxRecDepth 20000 in
theorem gX9_topAnew_X9_requireCell : GoodIn wsX9_topAnew (va_wsS RX9 42 yX9_requireCell wsX9_requireCell) := goodIn_app (goodIn_of _ (by decide +kernel)) ggX9_topAnew_X9_requireCell
set_option maxRecDepth 20000 in
theorem ggX9_topAnew_Jx4a65c_size_8abf5 : GoodIn wsX9_topAnew wsJx4a65c_size_8abf5 := goodIn_r _ [13, 14, 101, 102, 103] (by decide +kernel) (by decide +kernel)
set_option maxRecDepth 20000 in
theorem gX9_topAnew_Jx4a65c_size_8abf5 : GoodIn wsX9_topAnew (wsV RX9 96 RJx4a65c yJx4a65c_size_8abf5 wsJx4a65c_size_8abf5) := goodIn_app (goodIn_of _ (by decide +kernel)) ggX9_topAnew_Jx4a65c_size_8abf5
set_option maxRecDepth 20000 in
theorem ggX9_topAnew_Jx4a65c_get_915e3 : GoodIn wsX9_topAnew wsJx4a65c_get_915e3 := goodIn_r _ [18, 14, 19, 20, 21, 22, 23, 24, 25, 26, 27, 28, 29, 12, 30, 31, 101, 102, 103] (by decide +kernel) (by decide +kernel)
set_option maxRecDepth 20000 in
theorem gX9_topAnew_Jx4a65c_get_915e3 : GoodIn wsX9_topAnew (wsV RX9 179 RJx4a65c yJx4a65c_get_915e3 wsJx4a65c_get_915e3) := goodIn_app (goodIn_of _ (by decide +kernel)) ggX9_topAnew_Jx4a65c_get_915e3
set_option maxRecDepth 20000 in
theorem ggX9_topAnew_X1_covers : GoodIn wsX9_topAnew wsX1_covers := goodIn_r _ [36, 37, 38, 39, 40, 35, 41, 42, 43, 104, 105, 106, 107, 108, 109] (by decide +kernel) (by decide +kernel)
set_option maxRecDepth 20000 in
theorem gX9_topAnew_X1_covers : GoodIn wsX9_topAnew (wsV RX9 200 RX1 yX1_covers wsX1_covers) := goodIn_app (goodIn_of _ (by decide +kernel)) ggX9_topAnew_X1_covers
set_option maxRecDepth 20000 in
theorem ggX9_topAnew_X9_depthOnceMore : GoodIn wsX9_topAnew wsX9_depthOnceMore := goodIn_r _ [47, 1, 2, 48, 49, 50, 51, 52, 53, 54, 55, 9, 10, 11, 12, 13, 14, 15, 16, 17, 18, 19, 20, 21, 22, 23, 24, 25, 26, 27, 28, 29, 30, 31, 56, 57, 58, 35, 59, 37, 42, 43, 60, 61, 38, 39, 40, 41, 62, 63, 64, 65, 66, 67, 68, 69, 70, 71, 72, 73, 74, 75, 76, 77, 78, 79, 80, 81, 82, 83, 84, 85, 86, 87, 88, 89, 90, 91, 92, 93, 94, 95, 96, 97, 98, 99, 100, 104, 105, 106, 107, 108, 109, 110, 111, 112, 113, 114, 115, 101, 102, 103, 116, 117, 118, 119, 120] (by decide +kernel) (by decide +kernel)
set_option maxRecDepth 20000 in
theorem gX9_topAnew_X9_depthOnceMore : GoodIn wsX9_topAnew (wsV RX9 197 RX9 yX9_depthOnceMore wsX9_depthOnceMore) := goodIn_app (goodIn_of _ (by decide +kernel)) ggX9_topAnew_X9_depthOnceMore
theorem dX9_topAnew_0 : decode cX9_topAnew 0 = .ok (.iload_n 1, 1) := by decide +kernel
theorem dX9_topAnew_1 : decode cX9_topAnew 1 = .ok (.iload_n 2, 1) := by decide +kernel
theorem dX9_topAnew_2 : decode cX9_topAnew 2 = .ok (.invokestatic 42, 3) := by decide +kernel
theorem dX9_topAnew_5 : decode cX9_topAnew 5 = .ok (.aload_n 0, 1) := by decide +kernel
theorem dX9_topAnew_6 : decode cX9_topAnew 6 = .ok (.getfield 21, 3) := by decide +kernel
theorem dX9_topAnew_9 : decode cX9_topAnew 9 = .ok (.invokevirtual 96, 3) := by decide +kernel
theorem dX9_topAnew_12 : decode cX9_topAnew 12 = .ok (.iconst 1, 1) := by decide +kernel
theorem dX9_topAnew_13 : decode cX9_topAnew 13 = .ok (.isub, 1) := by decide +kernel
theorem dX9_topAnew_14 : decode cX9_topAnew 14 = .ok (.istore_n 3, 1) := by decide +kernel
theorem dX9_topAnew_15 : decode cX9_topAnew 15 = .ok (.iload_n 3, 1) := by decide +kernel
theorem dX9_topAnew_16 : decode cX9_topAnew 16 = .ok (.ifCond .lt 38, 3) := by decide +kernel
theorem dX9_topAnew_19 : decode cX9_topAnew 19 = .ok (.aload_n 0, 1) := by decide +kernel
theorem dX9_topAnew_20 : decode cX9_topAnew 20 = .ok (.getfield 21, 3) := by decide +kernel
theorem dX9_topAnew_23 : decode cX9_topAnew 23 = .ok (.iload_n 3, 1) := by decide +kernel
theorem dX9_topAnew_24 : decode cX9_topAnew 24 = .ok (.invokevirtual 179, 3) := by decide +kernel
theorem dX9_topAnew_27 : decode cX9_topAnew 27 = .ok (.checkcast 183, 3) := by decide +kernel
theorem dX9_topAnew_30 : decode cX9_topAnew 30 = .ok (.iload_n 1, 1) := by decide +kernel
theorem dX9_topAnew_31 : decode cX9_topAnew 31 = .ok (.iload_n 2, 1) := by decide +kernel
theorem dX9_topAnew_32 : decode cX9_topAnew 32 = .ok (.invokevirtual 200, 3) := by decide +kernel
theorem dX9_topAnew_35 : decode cX9_topAnew 35 = .ok (.ifCond .eq 13, 3) := by decide +kernel
theorem dX9_topAnew_38 : decode cX9_topAnew 38 = .ok (.aload_n 0, 1) := by decide +kernel
theorem dX9_topAnew_39 : decode cX9_topAnew 39 = .ok (.iload_n 3, 1) := by decide +kernel
theorem dX9_topAnew_40 : decode cX9_topAnew 40 = .ok (.invokevirtual 197, 3) := by decide +kernel
theorem dX9_topAnew_43 : decode cX9_topAnew 43 = .ok (.ifCond .le 5, 3) := by decide +kernel
theorem dX9_topAnew_46 : decode cX9_topAnew 46 = .ok (.iload_n 3, 1) := by decide +kernel
theorem dX9_topAnew_47 : decode cX9_topAnew 47 = .ok (.ireturn, 1) := by decide +kernel
theorem dX9_topAnew_48 : decode cX9_topAnew 48 = .ok (.iinc 3 (-1), 3) := by decide +kernel
theorem dX9_topAnew_51 : decode cX9_topAnew 51 = .ok (.goto (-36), 3) := by decide +kernel
theorem dX9_topAnew_54 : decode cX9_topAnew 54 = .ok (.iconst (-1), 1) := by decide +kernel
theorem dX9_topAnew_55 : decode cX9_topAnew 55 = .ok (.ireturn, 1) := by decide +kernel
set_option maxRecDepth 20000 in
theorem ggX9_dropStone_X6_kindAt : GoodIn wsX9_dropStone wsX6_kindAt := goodIn_r _ [11, 12, 132] (by decide +kernel) (by decide +kernel)
set_option maxRecDepth 20000 in
theorem gX9_dropStone_X6_kindAt : GoodIn wsX9_dropStone (wsV RX9 52 RX6 yX6_kindAt wsX6_kindAt) := goodIn_app (goodIn_of _ (by decide +kernel)) ggX9_dropStone_X6_kindAt
set_option maxRecDepth 20000 in
theorem ggX9_dropStone_X1_init : GoodIn wsX9_dropStone wsX1_init := goodIn_r _ [15, 16, 17, 18, 19, 20, 21, 22, 23, 24, 25, 26, 3, 27, 28, 29, 30, 31, 32, 33, 34, 120, 121, 122, 123, 124, 125] (by decide +kernel) (by decide +kernel)
set_option maxRecDepth 20000 in
theorem gX9_dropStone_X1_init : GoodIn wsX9_dropStone (wsX1_init) := ggX9_dropStone_X1_init
set_option maxRecDepth 20000 in
theorem ggX9_dropStone_Jx4a65c_size_8abf5 : GoodIn wsX9_dropStone wsJx4a65c_size_8abf5 := goodIn_r _ [39, 40, 133, 134, 135] (by decide +kernel) (by decide +kernel)
set_option maxRecDepth 20000 in
theorem gX9_dropStone_Jx4a65c_size_8abf5 : GoodIn wsX9_dropStone (wsV RX9 96 RJx4a65c yJx4a65c_size_8abf5 wsJx4a65c_size_8abf5) := goodIn_app (goodIn_of _ (by decide +kernel)) ggX9_dropStone_Jx4a65c_size_8abf5
set_option maxRecDepth 20000 in
theorem ggX9_dropStone_Jx4a65c_get_915e3 : GoodIn wsX9_dropStone wsJx4a65c_get_915e3 := goodIn_r _ [44, 40, 45, 46, 47, 48, 49, 50, 51, 52, 53, 54, 55, 38, 56, 57, 133, 134, 135] (by decide +kernel) (by decide +kernel)
set_option maxRecDepth 20000 in
theorem gX9_dropStone_Jx4a65c_get_915e3 : GoodIn wsX9_dropStone (wsV RX9 179 RJx4a65c yJx4a65c_get_915e3 wsJx4a65c_get_915e3) := goodIn_app (goodIn_of _ (by decide +kernel)) ggX9_dropStone_Jx4a65c_get_915e3
set_option maxRecDepth 20000 in
theorem ggX9_dropStone_X1_lossBy : GoodIn wsX9_dropStone wsX1_lossBy := goodIn_r _ [61, 22, 19, 20, 23, 21, 62, 63, 64, 3, 65, 120, 121, 122, 123, 124, 125] (by decide +kernel) (by decide +kernel)
set_option maxRecDepth 20000 in
theorem gX9_dropStone_X1_lossBy : GoodIn wsX9_dropStone (wsV RX9 205 RX1 yX1_lossBy wsX1_lossBy) := goodIn_app (goodIn_of _ (by decide +kernel)) ggX9_dropStone_X1_lossBy
set_option maxRecDepth 20000 in
theorem ggX9_dropStone_X1_lessen : GoodIn wsX9_dropStone wsX1_lessen := goodIn_r _ [69, 24, 28, 29, 30, 31, 120, 121, 122, 123, 124, 125] (by decide +kernel) (by decide +kernel)
set_option maxRecDepth 20000 in
theorem gX9_dropStone_X1_lessen : GoodIn wsX9_dropStone (wsV RX9 209 RX1 yX1_lessen wsX1_lessen) := goodIn_app (goodIn_of _ (by decide +kernel)) ggX9_dropStone_X1_lessen
set_option maxRecDepth 20000 in
theorem ggX9_dropStone_Jx4a65c_add_9ea2d : GoodIn wsX9_dropStone wsJx4a65c_add_9ea2d := goodIn_r _ [73, 74, 75, 57, 40, 76, 77, 78, 38, 79, 80, 81, 82, 83, 84, 85, 86, 87, 88, 89, 29, 30, 31, 90, 91, 92, 93, 94, 95, 96, 97, 98, 99, 100, 101, 102, 103, 104, 105, 106, 107, 108, 109, 110, 111, 112, 113, 114, 115, 116, 117, 118, 119, 133, 134, 135] (by decide +kernel) (by decide +kernel)
set_option maxRecDepth 20000 in
theorem gX9_dropStone_Jx4a65c_add_9ea2d : GoodIn wsX9_dropStone (wsV RX9 132 RJx4a65c yJx4a65c_add_9ea2d wsJx4a65c_add_9ea2d) := goodIn_app (goodIn_of _ (by decide +kernel)) ggX9_dropStone_Jx4a65c_add_9ea2d
theorem dX9_dropStone_0 : decode cX9_dropStone 0 = .ok (.new 183, 3) := by decide +kernel
theorem dX9_dropStone_3 : decode cX9_dropStone 3 = .ok (.dup, 1) := by decide +kernel
theorem dX9_dropStone_4 : decode cX9_dropStone 4 = .ok (.iload_n 1, 1) := by decide +kernel
theorem dX9_dropStone_5 : decode cX9_dropStone 5 = .ok (.iload_n 2, 1) := by decide +kernel
theorem dX9_dropStone_6 : decode cX9_dropStone 6 = .ok (.iload_n 3, 1) := by decide +kernel
theorem dX9_dropStone_7 : decode cX9_dropStone 7 = .ok (.aload_n 0, 1) := by decide +kernel
theorem dX9_dropStone_8 : decode cX9_dropStone 8 = .ok (.getfield 14, 3) := by decide +kernel
theorem dX9_dropStone_11 : decode cX9_dropStone 11 = .ok (.iload_n 1, 1) := by decide +kernel
theorem dX9_dropStone_12 : decode cX9_dropStone 12 = .ok (.iload_n 2, 1) := by decide +kernel
theorem dX9_dropStone_13 : decode cX9_dropStone 13 = .ok (.invokevirtual 52, 3) := by decide +kernel
theorem dX9_dropStone_16 : decode cX9_dropStone 16 = .ok (.invokespecial 204, 3) := by decide +kernel
theorem dX9_dropStone_19 : decode cX9_dropStone 19 = .ok (.astore 4, 2) := by decide +kernel
theorem dX9_dropStone_21 : decode cX9_dropStone 21 = .ok (.iconst 0, 1) := by decide +kernel
theorem dX9_dropStone_22 : decode cX9_dropStone 22 = .ok (.istore 5, 2) := by decide +kernel
theorem dX9_dropStone_24 : decode cX9_dropStone 24 = .ok (.iconst 0, 1) := by decide +kernel
theorem dX9_dropStone_25 : decode cX9_dropStone 25 = .ok (.istore 6, 2) := by decide +kernel
theorem dX9_dropStone_27 : decode cX9_dropStone 27 = .ok (.iload 6, 2) := by decide +kernel
theorem dX9_dropStone_29 : decode cX9_dropStone 29 = .ok (.aload_n 0, 1) := by decide +kernel
theorem dX9_dropStone_30 : decode cX9_dropStone 30 = .ok (.getfield 21, 3) := by decide +kernel
theorem dX9_dropStone_33 : decode cX9_dropStone 33 = .ok (.invokevirtual 96, 3) := by decide +kernel
theorem dX9_dropStone_36 : decode cX9_dropStone 36 = .ok (.if_icmp .ge 41, 3) := by decide +kernel
theorem dX9_dropStone_39 : decode cX9_dropStone 39 = .ok (.aload_n 0, 1) := by decide +kernel
theorem dX9_dropStone_40 : decode cX9_dropStone 40 = .ok (.getfield 21, 3) := by decide +kernel
theorem dX9_dropStone_43 : decode cX9_dropStone 43 = .ok (.iload 6, 2) := by decide +kernel
theorem dX9_dropStone_45 : decode cX9_dropStone 45 = .ok (.invokevirtual 179, 3) := by decide +kernel
theorem dX9_dropStone_48 : decode cX9_dropStone 48 = .ok (.checkcast 183, 3) := by decide +kernel
theorem dX9_dropStone_51 : decode cX9_dropStone 51 = .ok (.astore 7, 2) := by decide +kernel
theorem dX9_dropStone_53 : decode cX9_dropStone 53 = .ok (.aload 7, 2) := by decide +kernel
theorem dX9_dropStone_55 : decode cX9_dropStone 55 = .ok (.aload 7, 2) := by decide +kernel
theorem dX9_dropStone_57 : decode cX9_dropStone 57 = .ok (.aload 4, 2) := by decide +kernel
theorem dX9_dropStone_59 : decode cX9_dropStone 59 = .ok (.invokevirtual 205, 3) := by decide +kernel
theorem dX9_dropStone_62 : decode cX9_dropStone 62 = .ok (.invokevirtual 209, 3) := by decide +kernel
theorem dX9_dropStone_65 : decode cX9_dropStone 65 = .ok (.ifCond .eq 6, 3) := by decide +kernel
theorem dX9_dropStone_68 : decode cX9_dropStone 68 = .ok (.iinc 5 1, 3) := by decide +kernel
theorem dX9_dropStone_71 : decode cX9_dropStone 71 = .ok (.iinc 6 1, 3) := by decide +kernel
theorem dX9_dropStone_74 : decode cX9_dropStone 74 = .ok (.goto (-47), 3) := by decide +kernel
theorem dX9_dropStone_77 : decode cX9_dropStone 77 = .ok (.aload_n 0, 1) := by decide +kernel
theorem dX9_dropStone_78 : decode cX9_dropStone 78 = .ok (.getfield 21, 3) := by decide +kernel
theorem dX9_dropStone_81 : decode cX9_dropStone 81 = .ok (.aload 4, 2) := by decide +kernel
theorem dX9_dropStone_83 : decode cX9_dropStone 83 = .ok (.invokevirtual 132, 3) := by decide +kernel
theorem dX9_dropStone_86 : decode cX9_dropStone 86 = .ok (.pop, 1) := by decide +kernel
theorem dX9_dropStone_87 : decode cX9_dropStone 87 = .ok (.iload 5, 2) := by decide +kernel
theorem dX9_dropStone_89 : decode cX9_dropStone 89 = .ok (.ireturn, 1) := by decide +kernel
theorem dX9_drawNext_0 : decode cX9_drawNext 0 = .ok (.aload_n 0, 1) := by decide +kernel
theorem dX9_drawNext_1 : decode cX9_drawNext 1 = .ok (.bipush 75, 2) := by decide +kernel
theorem dX9_drawNext_3 : decode cX9_drawNext 3 = .ok (.aload_n 0, 1) := by decide +kernel
theorem dX9_drawNext_4 : decode cX9_drawNext 4 = .ok (.getfield 38, 3) := by decide +kernel
theorem dX9_drawNext_7 : decode cX9_drawNext 7 = .ok (.imul, 1) := by decide +kernel
theorem dX9_drawNext_8 : decode cX9_drawNext 8 = .ok (.bipush 74, 2) := by decide +kernel
theorem dX9_drawNext_10 : decode cX9_drawNext 10 = .ok (.iadd, 1) := by decide +kernel
theorem dX9_drawNext_11 : decode cX9_drawNext 11 = .ok (.ldc 213, 2) := by decide +kernel
theorem dX9_drawNext_13 : decode cX9_drawNext 13 = .ok (.irem, 1) := by decide +kernel
theorem dX9_drawNext_14 : decode cX9_drawNext 14 = .ok (.putfield 38, 3) := by decide +kernel
theorem dX9_drawNext_17 : decode cX9_drawNext 17 = .ok (.aload_n 0, 1) := by decide +kernel
theorem dX9_drawNext_18 : decode cX9_drawNext 18 = .ok (.getfield 38, 3) := by decide +kernel
theorem dX9_drawNext_21 : decode cX9_drawNext 21 = .ok (.ireturn, 1) := by decide +kernel
theorem dX9_sizeDrawn_0 : decode cX9_sizeDrawn 0 = .ok (.iload_n 0, 1) := by decide +kernel
theorem dX9_sizeDrawn_1 : decode cX9_sizeDrawn 1 = .ok (.bipush 40, 2) := by decide +kernel
theorem dX9_sizeDrawn_3 : decode cX9_sizeDrawn 3 = .ok (.if_icmp .ge 5, 3) := by decide +kernel
theorem dX9_sizeDrawn_6 : decode cX9_sizeDrawn 6 = .ok (.iconst 1, 1) := by decide +kernel
theorem dX9_sizeDrawn_7 : decode cX9_sizeDrawn 7 = .ok (.ireturn, 1) := by decide +kernel
theorem dX9_sizeDrawn_8 : decode cX9_sizeDrawn 8 = .ok (.iload_n 0, 1) := by decide +kernel
theorem dX9_sizeDrawn_9 : decode cX9_sizeDrawn 9 = .ok (.bipush 52, 2) := by decide +kernel
theorem dX9_sizeDrawn_11 : decode cX9_sizeDrawn 11 = .ok (.if_icmp .ge 5, 3) := by decide +kernel
theorem dX9_sizeDrawn_14 : decode cX9_sizeDrawn 14 = .ok (.iconst 2, 1) := by decide +kernel
theorem dX9_sizeDrawn_15 : decode cX9_sizeDrawn 15 = .ok (.ireturn, 1) := by decide +kernel
theorem dX9_sizeDrawn_16 : decode cX9_sizeDrawn 16 = .ok (.iload_n 0, 1) := by decide +kernel
theorem dX9_sizeDrawn_17 : decode cX9_sizeDrawn 17 = .ok (.bipush 58, 2) := by decide +kernel
theorem dX9_sizeDrawn_19 : decode cX9_sizeDrawn 19 = .ok (.if_icmp .ge 5, 3) := by decide +kernel
theorem dX9_sizeDrawn_22 : decode cX9_sizeDrawn 22 = .ok (.iconst 3, 1) := by decide +kernel
theorem dX9_sizeDrawn_23 : decode cX9_sizeDrawn 23 = .ok (.ireturn, 1) := by decide +kernel
theorem dX9_sizeDrawn_24 : decode cX9_sizeDrawn 24 = .ok (.iload_n 0, 1) := by decide +kernel
theorem dX9_sizeDrawn_25 : decode cX9_sizeDrawn 25 = .ok (.bipush 61, 2) := by decide +kernel
theorem dX9_sizeDrawn_27 : decode cX9_sizeDrawn 27 = .ok (.if_icmp .ge 5, 3) := by decide +kernel
theorem dX9_sizeDrawn_30 : decode cX9_sizeDrawn 30 = .ok (.iconst 4, 1) := by decide +kernel
theorem dX9_sizeDrawn_31 : decode cX9_sizeDrawn 31 = .ok (.ireturn, 1) := by decide +kernel
theorem dX9_sizeDrawn_32 : decode cX9_sizeDrawn 32 = .ok (.iload_n 0, 1) := by decide +kernel
theorem dX9_sizeDrawn_33 : decode cX9_sizeDrawn 33 = .ok (.bipush 63, 2) := by decide +kernel
theorem dX9_sizeDrawn_35 : decode cX9_sizeDrawn 35 = .ok (.if_icmp .ge 7, 3) := by decide +kernel
theorem dX9_sizeDrawn_38 : decode cX9_sizeDrawn 38 = .ok (.iconst 5, 1) := by decide +kernel
theorem dX9_sizeDrawn_39 : decode cX9_sizeDrawn 39 = .ok (.goto 5, 3) := by decide +kernel
theorem dX9_sizeDrawn_42 : decode cX9_sizeDrawn 42 = .ok (.bipush 6, 2) := by decide +kernel
theorem dX9_sizeDrawn_44 : decode cX9_sizeDrawn 44 = .ok (.ireturn, 1) := by decide +kernel
set_option maxRecDepth 20000 in
theorem ggX9_lessenAll_Jx4a65c_add_9ea2d : GoodIn wsX9_lessenAll wsJx4a65c_add_9ea2d := goodIn_r _ [8, 9, 10, 11, 12, 13, 14, 15, 7, 16, 17, 18, 19, 20, 21, 22, 23, 24, 25, 26, 27, 28, 29, 30, 31, 32, 33, 34, 35, 36, 37, 38, 39, 40, 41, 42, 43, 44, 45, 46, 47, 48, 49, 50, 51, 52, 53, 54, 55, 56, 57, 58, 59, 126, 127, 128] (by decide +kernel) (by decide +kernel)
set_option maxRecDepth 20000 in
theorem gX9_lessenAll_Jx4a65c_add_9ea2d : GoodIn wsX9_lessenAll (wsV RX9 132 RJx4a65c yJx4a65c_add_9ea2d wsJx4a65c_add_9ea2d) := goodIn_app (goodIn_of _ (by decide +kernel)) ggX9_lessenAll_Jx4a65c_add_9ea2d
set_option maxRecDepth 20000 in
theorem ggX9_lessenAll_Jx4a65c_size_8abf5 : GoodIn wsX9_lessenAll wsJx4a65c_size_8abf5 := goodIn_r _ [63, 12, 126, 127, 128] (by decide +kernel) (by decide +kernel)
set_option maxRecDepth 20000 in
theorem gX9_lessenAll_Jx4a65c_size_8abf5 : GoodIn wsX9_lessenAll (wsV RX9 96 RJx4a65c yJx4a65c_size_8abf5 wsJx4a65c_size_8abf5) := goodIn_app (goodIn_of _ (by decide +kernel)) ggX9_lessenAll_Jx4a65c_size_8abf5
set_option maxRecDepth 20000 in
theorem ggX9_lessenAll_Jx4a65c_get_915e3 : GoodIn wsX9_lessenAll wsJx4a65c_get_915e3 := goodIn_r _ [67, 12, 68, 69, 70, 71, 72, 73, 74, 75, 76, 77, 78, 7, 79, 11, 126, 127, 128] (by decide +kernel) (by decide +kernel)
set_option maxRecDepth 20000 in
theorem gX9_lessenAll_Jx4a65c_get_915e3 : GoodIn wsX9_lessenAll (wsV RX9 179 RJx4a65c yJx4a65c_get_915e3 wsJx4a65c_get_915e3) := goodIn_app (goodIn_of _ (by decide +kernel)) ggX9_lessenAll_Jx4a65c_get_915e3
set_option maxRecDepth 20000 in
theorem ggX9_lessenAll_X5_lossOf : GoodIn wsX9_lessenAll wsX5_lossOf := goodIn_r _ [85, 86, 87, 88, 89, 90, 91, 92, 93, 94, 95, 96, 97, 98, 129, 130, 131, 132, 133, 134, 135, 136, 137, 138, 139, 140, 141] (by decide +kernel) (by decide +kernel)
set_option maxRecDepth 20000 in
theorem gX9_lessenAll_X5_lossOf_u214X5 : GoodIn wsX9_lessenAll (va_wsU RX9 214 RX5 "Craterclock$Lessening" ⟨"Craterclock$Lessening", "lossOf", "(LCraterclock$Crater;)I"⟩ yX5_lossOf wsX5_lossOf) := goodIn_app (goodIn_of _ (by decide +kernel)) ggX9_lessenAll_X5_lossOf
set_option maxRecDepth 20000 in
theorem ggX9_lessenAll_X8_lossOf : GoodIn wsX9_lessenAll wsX8_lossOf := goodIn_r _ [102, 103, 104, 105, 106, 107, 108, 109, 110, 111, 112, 142, 143, 144, 132, 133, 134, 135, 136, 137, 145] (by decide +kernel) (by decide +kernel)
set_option maxRecDepth 20000 in
theorem gX9_lessenAll_X8_lossOf_u214X8 : GoodIn wsX9_lessenAll (va_wsU RX9 214 RX8 "Craterclock$Lessening" ⟨"Craterclock$Lessening", "lossOf", "(LCraterclock$Crater;)I"⟩ yX8_lossOf wsX8_lossOf) := goodIn_app (goodIn_of _ (by decide +kernel)) ggX9_lessenAll_X8_lossOf
set_option maxRecDepth 20000 in
theorem ggX9_lessenAll_X1_lessen : GoodIn wsX9_lessenAll wsX1_lessen := goodIn_r _ [117, 118, 119, 27, 28, 29, 132, 133, 134, 135, 136, 137] (by decide +kernel) (by decide +kernel)
set_option maxRecDepth 20000 in
theorem gX9_lessenAll_X1_lessen : GoodIn wsX9_lessenAll (wsV RX9 209 RX1 yX1_lessen wsX1_lessen) := goodIn_app (goodIn_of _ (by decide +kernel)) ggX9_lessenAll_X1_lessen
theorem dX9_lessenAll_0 : decode cX9_lessenAll 0 = .ok (.aload_n 0, 1) := by decide +kernel
theorem dX9_lessenAll_1 : decode cX9_lessenAll 1 = .ok (.getfield 25, 3) := by decide +kernel
theorem dX9_lessenAll_4 : decode cX9_lessenAll 4 = .ok (.aload_n 1, 1) := by decide +kernel
theorem dX9_lessenAll_5 : decode cX9_lessenAll 5 = .ok (.invokevirtual 132, 3) := by decide +kernel
theorem dX9_lessenAll_8 : decode cX9_lessenAll 8 = .ok (.pop, 1) := by decide +kernel
theorem dX9_lessenAll_9 : decode cX9_lessenAll 9 = .ok (.iconst 0, 1) := by decide +kernel
theorem dX9_lessenAll_10 : decode cX9_lessenAll 10 = .ok (.istore_n 2, 1) := by decide +kernel
theorem dX9_lessenAll_11 : decode cX9_lessenAll 11 = .ok (.iconst 0, 1) := by decide +kernel
theorem dX9_lessenAll_12 : decode cX9_lessenAll 12 = .ok (.istore_n 3, 1) := by decide +kernel
theorem dX9_lessenAll_13 : decode cX9_lessenAll 13 = .ok (.iload_n 3, 1) := by decide +kernel
theorem dX9_lessenAll_14 : decode cX9_lessenAll 14 = .ok (.aload_n 0, 1) := by decide +kernel
theorem dX9_lessenAll_15 : decode cX9_lessenAll 15 = .ok (.getfield 21, 3) := by decide +kernel
theorem dX9_lessenAll_18 : decode cX9_lessenAll 18 = .ok (.invokevirtual 96, 3) := by decide +kernel
theorem dX9_lessenAll_21 : decode cX9_lessenAll 21 = .ok (.if_icmp .ge 39, 3) := by decide +kernel
theorem dX9_lessenAll_24 : decode cX9_lessenAll 24 = .ok (.aload_n 0, 1) := by decide +kernel
theorem dX9_lessenAll_25 : decode cX9_lessenAll 25 = .ok (.getfield 21, 3) := by decide +kernel
theorem dX9_lessenAll_28 : decode cX9_lessenAll 28 = .ok (.iload_n 3, 1) := by decide +kernel
theorem dX9_lessenAll_29 : decode cX9_lessenAll 29 = .ok (.invokevirtual 179, 3) := by decide +kernel
theorem dX9_lessenAll_32 : decode cX9_lessenAll 32 = .ok (.checkcast 183, 3) := by decide +kernel
theorem dX9_lessenAll_35 : decode cX9_lessenAll 35 = .ok (.astore 4, 2) := by decide +kernel
theorem dX9_lessenAll_37 : decode cX9_lessenAll 37 = .ok (.aload 4, 2) := by decide +kernel
theorem dX9_lessenAll_39 : decode cX9_lessenAll 39 = .ok (.aload_n 1, 1) := by decide +kernel
theorem dX9_lessenAll_40 : decode cX9_lessenAll 40 = .ok (.aload 4, 2) := by decide +kernel
theorem dX9_lessenAll_42 : decode cX9_lessenAll 42 = .ok (.invokevirtual 214, 3) := by decide +kernel
theorem dX9_lessenAll_45 : decode cX9_lessenAll 45 = .ok (.invokevirtual 209, 3) := by decide +kernel
theorem dX9_lessenAll_48 : decode cX9_lessenAll 48 = .ok (.ifCond .eq 6, 3) := by decide +kernel
theorem dX9_lessenAll_51 : decode cX9_lessenAll 51 = .ok (.iinc 2 1, 3) := by decide +kernel
theorem dX9_lessenAll_54 : decode cX9_lessenAll 54 = .ok (.iinc 3 1, 3) := by decide +kernel
theorem dX9_lessenAll_57 : decode cX9_lessenAll 57 = .ok (.goto (-44), 3) := by decide +kernel
theorem dX9_lessenAll_60 : decode cX9_lessenAll 60 = .ok (.iload_n 2, 1) := by decide +kernel
theorem dX9_lessenAll_61 : decode cX9_lessenAll 61 = .ok (.ireturn, 1) := by decide +kernel
set_option maxRecDepth 20000 in
theorem ggX9_countLeft_Jx4a65c_size_8abf5 : GoodIn wsX9_countLeft wsJx4a65c_size_8abf5 := goodIn_r _ [8, 9, 39, 40, 41] (by decide +kernel) (by decide +kernel)
set_option maxRecDepth 20000 in
theorem gX9_countLeft_Jx4a65c_size_8abf5 : GoodIn wsX9_countLeft (wsV RX9 96 RJx4a65c yJx4a65c_size_8abf5 wsJx4a65c_size_8abf5) := goodIn_app (goodIn_of _ (by decide +kernel)) ggX9_countLeft_Jx4a65c_size_8abf5
set_option maxRecDepth 20000 in
theorem ggX9_countLeft_Jx4a65c_get_915e3 : GoodIn wsX9_countLeft wsJx4a65c_get_915e3 := goodIn_r _ [13, 9, 14, 15, 16, 17, 18, 19, 20, 21, 22, 23, 24, 7, 25, 26, 39, 40, 41] (by decide +kernel) (by decide +kernel)
set_option maxRecDepth 20000 in
theorem gX9_countLeft_Jx4a65c_get_915e3 : GoodIn wsX9_countLeft (wsV RX9 179 RJx4a65c yJx4a65c_get_915e3 wsJx4a65c_get_915e3) := goodIn_app (goodIn_of _ (by decide +kernel)) ggX9_countLeft_Jx4a65c_get_915e3
theorem dX9_countLeft_0 : decode cX9_countLeft 0 = .ok (.iconst 0, 1) := by decide +kernel
theorem dX9_countLeft_1 : decode cX9_countLeft 1 = .ok (.istore_n 1, 1) := by decide +kernel
theorem dX9_countLeft_2 : decode cX9_countLeft 2 = .ok (.iconst 0, 1) := by decide +kernel
theorem dX9_countLeft_3 : decode cX9_countLeft 3 = .ok (.istore_n 2, 1) := by decide +kernel
theorem dX9_countLeft_4 : decode cX9_countLeft 4 = .ok (.iload_n 2, 1) := by decide +kernel
theorem dX9_countLeft_5 : decode cX9_countLeft 5 = .ok (.aload_n 0, 1) := by decide +kernel
theorem dX9_countLeft_6 : decode cX9_countLeft 6 = .ok (.getfield 21, 3) := by decide +kernel
theorem dX9_countLeft_9 : decode cX9_countLeft 9 = .ok (.invokevirtual 96, 3) := by decide +kernel
theorem dX9_countLeft_12 : decode cX9_countLeft 12 = .ok (.if_icmp .ge 29, 3) := by decide +kernel
theorem dX9_countLeft_15 : decode cX9_countLeft 15 = .ok (.aload_n 0, 1) := by decide +kernel
theorem dX9_countLeft_16 : decode cX9_countLeft 16 = .ok (.getfield 21, 3) := by decide +kernel
theorem dX9_countLeft_19 : decode cX9_countLeft 19 = .ok (.iload_n 2, 1) := by decide +kernel
theorem dX9_countLeft_20 : decode cX9_countLeft 20 = .ok (.invokevirtual 179, 3) := by decide +kernel
theorem dX9_countLeft_23 : decode cX9_countLeft 23 = .ok (.checkcast 183, 3) := by decide +kernel
theorem dX9_countLeft_26 : decode cX9_countLeft 26 = .ok (.getfield 194, 3) := by decide +kernel
theorem dX9_countLeft_29 : decode cX9_countLeft 29 = .ok (.ifCond .le 6, 3) := by decide +kernel
theorem dX9_countLeft_32 : decode cX9_countLeft 32 = .ok (.iinc 1 1, 3) := by decide +kernel
theorem dX9_countLeft_35 : decode cX9_countLeft 35 = .ok (.iinc 2 1, 3) := by decide +kernel
theorem dX9_countLeft_38 : decode cX9_countLeft 38 = .ok (.goto (-34), 3) := by decide +kernel
theorem dX9_countLeft_41 : decode cX9_countLeft 41 = .ok (.iload_n 1, 1) := by decide +kernel
theorem dX9_countLeft_42 : decode cX9_countLeft 42 = .ok (.ireturn, 1) := by decide +kernel
set_option maxRecDepth 20000 in
theorem ggX9_depthOnceMore_Jx4a65c_size_8abf5 : GoodIn wsX9_depthOnceMore wsJx4a65c_size_8abf5 := goodIn_r _ [15, 16, 99, 100, 101] (by decide +kernel) (by decide +kernel)
set_option maxRecDepth 20000 in
theorem gX9_depthOnceMore_Jx4a65c_size_8abf5 : GoodIn wsX9_depthOnceMore (wsV RX9 96 RJx4a65c yJx4a65c_size_8abf5 wsJx4a65c_size_8abf5) := goodIn_app (goodIn_of _ (by decide +kernel)) ggX9_depthOnceMore_Jx4a65c_size_8abf5
set_option maxRecDepth 20000 in
theorem ggX9_depthOnceMore_Jx4a65c_get_915e3 : GoodIn wsX9_depthOnceMore wsJx4a65c_get_915e3 := goodIn_r _ [20, 16, 21, 22, 23, 24, 25, 26, 27, 28, 29, 30, 31, 14, 32, 33, 99, 100, 101] (by decide +kernel) (by decide +kernel)
set_option maxRecDepth 20000 in
theorem gX9_depthOnceMore_Jx4a65c_get_915e3 : GoodIn wsX9_depthOnceMore (wsV RX9 179 RJx4a65c yJx4a65c_get_915e3 wsJx4a65c_get_915e3) := goodIn_app (goodIn_of _ (by decide +kernel)) ggX9_depthOnceMore_Jx4a65c_get_915e3
set_option maxRecDepth 20000 in
theorem ggX9_depthOnceMore_X1_lossBy : GoodIn wsX9_depthOnceMore wsX1_lossBy := goodIn_r _ [38, 39, 40, 41, 42, 43, 44, 45, 46, 37, 47, 87, 88, 89, 90, 91, 92] (by decide +kernel) (by decide +kernel)
set_option maxRecDepth 20000 in
theorem gX9_depthOnceMore_X1_lossBy : GoodIn wsX9_depthOnceMore (wsV RX9 205 RX1 yX1_lossBy wsX1_lossBy) := goodIn_app (goodIn_of _ (by decide +kernel)) ggX9_depthOnceMore_X1_lossBy
set_option maxRecDepth 20000 in
theorem ggX9_depthOnceMore_X5_lossOf : GoodIn wsX9_depthOnceMore wsX5_lossOf := goodIn_r _ [53, 54, 55, 56, 57, 58, 59, 60, 61, 62, 63, 64, 65, 66, 93, 94, 95, 87, 88, 89, 90, 91, 92, 102, 103, 104, 105] (by decide +kernel) (by decide +kernel)
set_option maxRecDepth 20000 in
theorem gX9_depthOnceMore_X5_lossOf_u214X5 : GoodIn wsX9_depthOnceMore (va_wsU RX9 214 RX5 "Craterclock$Lessening" ⟨"Craterclock$Lessening", "lossOf", "(LCraterclock$Crater;)I"⟩ yX5_lossOf wsX5_lossOf) := goodIn_app (goodIn_of _ (by decide +kernel)) ggX9_depthOnceMore_X5_lossOf
set_option maxRecDepth 20000 in
theorem ggX9_depthOnceMore_X8_lossOf : GoodIn wsX9_depthOnceMore wsX8_lossOf := goodIn_r _ [70, 71, 72, 73, 74, 75, 76, 77, 78, 79, 80, 96, 97, 98, 87, 88, 89, 90, 91, 92, 106] (by decide +kernel) (by decide +kernel)
set_option maxRecDepth 20000 in
theorem gX9_depthOnceMore_X8_lossOf_u214X8 : GoodIn wsX9_depthOnceMore (va_wsU RX9 214 RX8 "Craterclock$Lessening" ⟨"Craterclock$Lessening", "lossOf", "(LCraterclock$Crater;)I"⟩ yX8_lossOf wsX8_lossOf) := goodIn_app (goodIn_of _ (by decide +kernel)) ggX9_depthOnceMore_X8_lossOf
theorem dX9_depthOnceMore_0 : decode cX9_depthOnceMore 0 = .ok (.iload_n 1, 1) := by decide +kernel
theorem dX9_depthOnceMore_1 : decode cX9_depthOnceMore 1 = .ok (.ifCond .lt 14, 3) := by decide +kernel
theorem dX9_depthOnceMore_4 : decode cX9_depthOnceMore 4 = .ok (.iload_n 1, 1) := by decide +kernel
theorem dX9_depthOnceMore_5 : decode cX9_depthOnceMore 5 = .ok (.aload_n 0, 1) := by decide +kernel
theorem dX9_depthOnceMore_6 : decode cX9_depthOnceMore 6 = .ok (.getfield 21, 3) := by decide +kernel
theorem dX9_depthOnceMore_9 : decode cX9_depthOnceMore 9 = .ok (.invokevirtual 96, 3) := by decide +kernel
theorem dX9_depthOnceMore_12 : decode cX9_depthOnceMore 12 = .ok (.if_icmp .lt 5, 3) := by decide +kernel
theorem dX9_depthOnceMore_15 : decode cX9_depthOnceMore 15 = .ok (.iconst 0, 1) := by decide +kernel
theorem dX9_depthOnceMore_16 : decode cX9_depthOnceMore 16 = .ok (.ireturn, 1) := by decide +kernel
theorem dX9_depthOnceMore_17 : decode cX9_depthOnceMore 17 = .ok (.aload_n 0, 1) := by decide +kernel
theorem dX9_depthOnceMore_18 : decode cX9_depthOnceMore 18 = .ok (.getfield 21, 3) := by decide +kernel
theorem dX9_depthOnceMore_21 : decode cX9_depthOnceMore 21 = .ok (.iload_n 1, 1) := by decide +kernel
theorem dX9_depthOnceMore_22 : decode cX9_depthOnceMore 22 = .ok (.invokevirtual 179, 3) := by decide +kernel
theorem dX9_depthOnceMore_25 : decode cX9_depthOnceMore 25 = .ok (.checkcast 183, 3) := by decide +kernel
theorem dX9_depthOnceMore_28 : decode cX9_depthOnceMore 28 = .ok (.astore_n 2, 1) := by decide +kernel
theorem dX9_depthOnceMore_29 : decode cX9_depthOnceMore 29 = .ok (.aload_n 2, 1) := by decide +kernel
theorem dX9_depthOnceMore_30 : decode cX9_depthOnceMore 30 = .ok (.getfield 219, 3) := by decide +kernel
theorem dX9_depthOnceMore_33 : decode cX9_depthOnceMore 33 = .ok (.istore_n 3, 1) := by decide +kernel
theorem dX9_depthOnceMore_34 : decode cX9_depthOnceMore 34 = .ok (.iload_n 1, 1) := by decide +kernel
theorem dX9_depthOnceMore_35 : decode cX9_depthOnceMore 35 = .ok (.iconst 1, 1) := by decide +kernel
theorem dX9_depthOnceMore_36 : decode cX9_depthOnceMore 36 = .ok (.iadd, 1) := by decide +kernel
theorem dX9_depthOnceMore_37 : decode cX9_depthOnceMore 37 = .ok (.istore 4, 2) := by decide +kernel
theorem dX9_depthOnceMore_39 : decode cX9_depthOnceMore 39 = .ok (.iload 4, 2) := by decide +kernel
theorem dX9_depthOnceMore_41 : decode cX9_depthOnceMore 41 = .ok (.aload_n 0, 1) := by decide +kernel
theorem dX9_depthOnceMore_42 : decode cX9_depthOnceMore 42 = .ok (.getfield 21, 3) := by decide +kernel
theorem dX9_depthOnceMore_45 : decode cX9_depthOnceMore 45 = .ok (.invokevirtual 96, 3) := by decide +kernel
theorem dX9_depthOnceMore_48 : decode cX9_depthOnceMore 48 = .ok (.if_icmp .ge 28, 3) := by decide +kernel
theorem dX9_depthOnceMore_51 : decode cX9_depthOnceMore 51 = .ok (.iload_n 3, 1) := by decide +kernel
theorem dX9_depthOnceMore_52 : decode cX9_depthOnceMore 52 = .ok (.aload_n 2, 1) := by decide +kernel
theorem dX9_depthOnceMore_53 : decode cX9_depthOnceMore 53 = .ok (.aload_n 0, 1) := by decide +kernel
theorem dX9_depthOnceMore_54 : decode cX9_depthOnceMore 54 = .ok (.getfield 21, 3) := by decide +kernel
theorem dX9_depthOnceMore_57 : decode cX9_depthOnceMore 57 = .ok (.iload 4, 2) := by decide +kernel
theorem dX9_depthOnceMore_59 : decode cX9_depthOnceMore 59 = .ok (.invokevirtual 179, 3) := by decide +kernel
theorem dX9_depthOnceMore_62 : decode cX9_depthOnceMore 62 = .ok (.checkcast 183, 3) := by decide +kernel
theorem dX9_depthOnceMore_65 : decode cX9_depthOnceMore 65 = .ok (.invokevirtual 205, 3) := by decide +kernel
theorem dX9_depthOnceMore_68 : decode cX9_depthOnceMore 68 = .ok (.isub, 1) := by decide +kernel
theorem dX9_depthOnceMore_69 : decode cX9_depthOnceMore 69 = .ok (.istore_n 3, 1) := by decide +kernel
theorem dX9_depthOnceMore_70 : decode cX9_depthOnceMore 70 = .ok (.iinc 4 1, 3) := by decide +kernel
theorem dX9_depthOnceMore_73 : decode cX9_depthOnceMore 73 = .ok (.goto (-34), 3) := by decide +kernel
theorem dX9_depthOnceMore_76 : decode cX9_depthOnceMore 76 = .ok (.iconst 0, 1) := by decide +kernel
theorem dX9_depthOnceMore_77 : decode cX9_depthOnceMore 77 = .ok (.istore 4, 2) := by decide +kernel
theorem dX9_depthOnceMore_79 : decode cX9_depthOnceMore 79 = .ok (.iload 4, 2) := by decide +kernel
theorem dX9_depthOnceMore_81 : decode cX9_depthOnceMore 81 = .ok (.aload_n 0, 1) := by decide +kernel
theorem dX9_depthOnceMore_82 : decode cX9_depthOnceMore 82 = .ok (.getfield 25, 3) := by decide +kernel
theorem dX9_depthOnceMore_85 : decode cX9_depthOnceMore 85 = .ok (.invokevirtual 96, 3) := by decide +kernel
theorem dX9_depthOnceMore_88 : decode cX9_depthOnceMore 88 = .ok (.if_icmp .ge 41, 3) := by decide +kernel
theorem dX9_depthOnceMore_91 : decode cX9_depthOnceMore 91 = .ok (.aload_n 0, 1) := by decide +kernel
theorem dX9_depthOnceMore_92 : decode cX9_depthOnceMore 92 = .ok (.getfield 25, 3) := by decide +kernel
theorem dX9_depthOnceMore_95 : decode cX9_depthOnceMore 95 = .ok (.iload 4, 2) := by decide +kernel
theorem dX9_depthOnceMore_97 : decode cX9_depthOnceMore 97 = .ok (.invokevirtual 179, 3) := by decide +kernel
theorem dX9_depthOnceMore_100 : decode cX9_depthOnceMore 100 = .ok (.checkcast 215, 3) := by decide +kernel
theorem dX9_depthOnceMore_103 : decode cX9_depthOnceMore 103 = .ok (.astore 5, 2) := by decide +kernel
theorem dX9_depthOnceMore_105 : decode cX9_depthOnceMore 105 = .ok (.iload_n 1, 1) := by decide +kernel
theorem dX9_depthOnceMore_106 : decode cX9_depthOnceMore 106 = .ok (.aload 5, 2) := by decide +kernel
theorem dX9_depthOnceMore_108 : decode cX9_depthOnceMore 108 = .ok (.getfield 222, 3) := by decide +kernel
theorem dX9_depthOnceMore_111 : decode cX9_depthOnceMore 111 = .ok (.if_icmp .ge 12, 3) := by decide +kernel
theorem dX9_depthOnceMore_114 : decode cX9_depthOnceMore 114 = .ok (.iload_n 3, 1) := by decide +kernel
theorem dX9_depthOnceMore_115 : decode cX9_depthOnceMore 115 = .ok (.aload 5, 2) := by decide +kernel
theorem dX9_depthOnceMore_117 : decode cX9_depthOnceMore 117 = .ok (.aload_n 2, 1) := by decide +kernel
theorem dX9_depthOnceMore_118 : decode cX9_depthOnceMore 118 = .ok (.invokevirtual 214, 3) := by decide +kernel
theorem dX9_depthOnceMore_121 : decode cX9_depthOnceMore 121 = .ok (.isub, 1) := by decide +kernel
theorem dX9_depthOnceMore_122 : decode cX9_depthOnceMore 122 = .ok (.istore_n 3, 1) := by decide +kernel
theorem dX9_depthOnceMore_123 : decode cX9_depthOnceMore 123 = .ok (.iinc 4 1, 3) := by decide +kernel
theorem dX9_depthOnceMore_126 : decode cX9_depthOnceMore 126 = .ok (.goto (-47), 3) := by decide +kernel
theorem dX9_depthOnceMore_129 : decode cX9_depthOnceMore 129 = .ok (.iconst 0, 1) := by decide +kernel
theorem dX9_depthOnceMore_130 : decode cX9_depthOnceMore 130 = .ok (.iload_n 3, 1) := by decide +kernel
theorem dX9_depthOnceMore_131 : decode cX9_depthOnceMore 131 = .ok (.invokestatic 225, 3) := by decide +kernel
theorem dX9_depthOnceMore_134 : decode cX9_depthOnceMore 134 = .ok (.ireturn, 1) := by decide +kernel
set_option maxRecDepth 20000 in
theorem ggX9_countSeen_Jx4a65c_size_8abf5 : GoodIn wsX9_countSeen wsJx4a65c_size_8abf5 := goodIn_r _ [12, 13, 59, 60, 61] (by decide +kernel) (by decide +kernel)
set_option maxRecDepth 20000 in
theorem gX9_countSeen_Jx4a65c_size_8abf5 : GoodIn wsX9_countSeen (wsV RX9 96 RJx4a65c yJx4a65c_size_8abf5 wsJx4a65c_size_8abf5) := goodIn_app (goodIn_of _ (by decide +kernel)) ggX9_countSeen_Jx4a65c_size_8abf5
set_option maxRecDepth 20000 in
theorem ggX9_countSeen_Jx4a65c_get_915e3 : GoodIn wsX9_countSeen wsJx4a65c_get_915e3 := goodIn_r _ [17, 13, 18, 19, 20, 21, 22, 23, 24, 25, 26, 27, 28, 11, 29, 30, 59, 60, 61] (by decide +kernel) (by decide +kernel)
set_option maxRecDepth 20000 in
theorem gX9_countSeen_Jx4a65c_get_915e3 : GoodIn wsX9_countSeen (wsV RX9 179 RJx4a65c yJx4a65c_get_915e3 wsJx4a65c_get_915e3) := goodIn_app (goodIn_of _ (by decide +kernel)) ggX9_countSeen_Jx4a65c_get_915e3
set_option maxRecDepth 20000 in
theorem ggX9_countSeen_X4_has : GoodIn wsX9_countSeen wsX4_has := goodIn_r _ [35, 36, 37, 38, 39, 62, 63, 64, 65] (by decide +kernel) (by decide +kernel)
set_option maxRecDepth 20000 in
theorem gX9_countSeen_X4_has : GoodIn wsX9_countSeen (wsV RX9 230 RX4 yX4_has wsX4_has) := goodIn_app (goodIn_of _ (by decide +kernel)) ggX9_countSeen_X4_has
set_option maxRecDepth 20000 in
theorem ggX9_countSeen_X3_sees : GoodIn wsX9_countSeen wsX3_sees := goodIn_r _ [44, 45, 46, 53, 54, 55, 56, 57, 58, 66] (by decide +kernel) (by decide +kernel)
set_option maxRecDepth 20000 in
theorem gX9_countSeen_X3_sees : GoodIn wsX9_countSeen (wsV RX9 233 RX3 yX3_sees wsX3_sees) := goodIn_app (goodIn_of _ (by decide +kernel)) ggX9_countSeen_X3_sees
theorem dX9_countSeen_0 : decode cX9_countSeen 0 = .ok (.iload_n 1, 1) := by decide +kernel
theorem dX9_countSeen_1 : decode cX9_countSeen 1 = .ok (.ifCond .lt 14, 3) := by decide +kernel
theorem dX9_countSeen_4 : decode cX9_countSeen 4 = .ok (.iload_n 1, 1) := by decide +kernel
theorem dX9_countSeen_5 : decode cX9_countSeen 5 = .ok (.aload_n 0, 1) := by decide +kernel
theorem dX9_countSeen_6 : decode cX9_countSeen 6 = .ok (.getfield 28, 3) := by decide +kernel
theorem dX9_countSeen_9 : decode cX9_countSeen 9 = .ok (.invokevirtual 96, 3) := by decide +kernel
theorem dX9_countSeen_12 : decode cX9_countSeen 12 = .ok (.if_icmp .lt 5, 3) := by decide +kernel
theorem dX9_countSeen_15 : decode cX9_countSeen 15 = .ok (.iconst 0, 1) := by decide +kernel
theorem dX9_countSeen_16 : decode cX9_countSeen 16 = .ok (.ireturn, 1) := by decide +kernel
theorem dX9_countSeen_17 : decode cX9_countSeen 17 = .ok (.aload_n 0, 1) := by decide +kernel
theorem dX9_countSeen_18 : decode cX9_countSeen 18 = .ok (.getfield 28, 3) := by decide +kernel
theorem dX9_countSeen_21 : decode cX9_countSeen 21 = .ok (.iload_n 1, 1) := by decide +kernel
theorem dX9_countSeen_22 : decode cX9_countSeen 22 = .ok (.invokevirtual 179, 3) := by decide +kernel
theorem dX9_countSeen_25 : decode cX9_countSeen 25 = .ok (.checkcast 128, 3) := by decide +kernel
theorem dX9_countSeen_28 : decode cX9_countSeen 28 = .ok (.astore 4, 2) := by decide +kernel
theorem dX9_countSeen_30 : decode cX9_countSeen 30 = .ok (.iconst 0, 1) := by decide +kernel
theorem dX9_countSeen_31 : decode cX9_countSeen 31 = .ok (.istore 5, 2) := by decide +kernel
theorem dX9_countSeen_33 : decode cX9_countSeen 33 = .ok (.iconst 0, 1) := by decide +kernel
theorem dX9_countSeen_34 : decode cX9_countSeen 34 = .ok (.istore 6, 2) := by decide +kernel
theorem dX9_countSeen_36 : decode cX9_countSeen 36 = .ok (.iload 6, 2) := by decide +kernel
theorem dX9_countSeen_38 : decode cX9_countSeen 38 = .ok (.aload_n 0, 1) := by decide +kernel
theorem dX9_countSeen_39 : decode cX9_countSeen 39 = .ok (.getfield 21, 3) := by decide +kernel
theorem dX9_countSeen_42 : decode cX9_countSeen 42 = .ok (.invokevirtual 96, 3) := by decide +kernel
theorem dX9_countSeen_45 : decode cX9_countSeen 45 = .ok (.if_icmp .ge 62, 3) := by decide +kernel
theorem dX9_countSeen_48 : decode cX9_countSeen 48 = .ok (.aload_n 0, 1) := by decide +kernel
theorem dX9_countSeen_49 : decode cX9_countSeen 49 = .ok (.getfield 21, 3) := by decide +kernel
theorem dX9_countSeen_52 : decode cX9_countSeen 52 = .ok (.iload 6, 2) := by decide +kernel
theorem dX9_countSeen_54 : decode cX9_countSeen 54 = .ok (.invokevirtual 179, 3) := by decide +kernel
theorem dX9_countSeen_57 : decode cX9_countSeen 57 = .ok (.checkcast 183, 3) := by decide +kernel
theorem dX9_countSeen_60 : decode cX9_countSeen 60 = .ok (.astore 7, 2) := by decide +kernel
theorem dX9_countSeen_62 : decode cX9_countSeen 62 = .ok (.aload 7, 2) := by decide +kernel
theorem dX9_countSeen_64 : decode cX9_countSeen 64 = .ok (.getfield 191, 3) := by decide +kernel
theorem dX9_countSeen_67 : decode cX9_countSeen 67 = .ok (.iload_n 3, 1) := by decide +kernel
theorem dX9_countSeen_68 : decode cX9_countSeen 68 = .ok (.if_icmp .lt 33, 3) := by decide +kernel
theorem dX9_countSeen_71 : decode cX9_countSeen 71 = .ok (.aload_n 2, 1) := by decide +kernel
theorem dX9_countSeen_72 : decode cX9_countSeen 72 = .ok (.aload 7, 2) := by decide +kernel
theorem dX9_countSeen_74 : decode cX9_countSeen 74 = .ok (.getfield 185, 3) := by decide +kernel
theorem dX9_countSeen_77 : decode cX9_countSeen 77 = .ok (.aload 7, 2) := by decide +kernel
theorem dX9_countSeen_79 : decode cX9_countSeen 79 = .ok (.getfield 188, 3) := by decide +kernel
theorem dX9_countSeen_82 : decode cX9_countSeen 82 = .ok (.invokevirtual 230, 3) := by decide +kernel
theorem dX9_countSeen_85 : decode cX9_countSeen 85 = .ok (.ifCond .eq 16, 3) := by decide +kernel
theorem dX9_countSeen_88 : decode cX9_countSeen 88 = .ok (.aload 4, 2) := by decide +kernel
theorem dX9_countSeen_90 : decode cX9_countSeen 90 = .ok (.aload 7, 2) := by decide +kernel
theorem dX9_countSeen_92 : decode cX9_countSeen 92 = .ok (.invokevirtual 233, 3) := by decide +kernel
theorem dX9_countSeen_95 : decode cX9_countSeen 95 = .ok (.ifCond .eq 6, 3) := by decide +kernel
theorem dX9_countSeen_98 : decode cX9_countSeen 98 = .ok (.iinc 5 1, 3) := by decide +kernel
theorem dX9_countSeen_101 : decode cX9_countSeen 101 = .ok (.iinc 6 1, 3) := by decide +kernel
theorem dX9_countSeen_104 : decode cX9_countSeen 104 = .ok (.goto (-68), 3) := by decide +kernel
theorem dX9_countSeen_107 : decode cX9_countSeen 107 = .ok (.iload 5, 2) := by decide +kernel
theorem dX9_countSeen_109 : decode cX9_countSeen 109 = .ok (.ireturn, 1) := by decide +kernel
set_option maxRecDepth 20000 in
theorem ggX9_densitySeen_X9_countSeen : GoodIn wsX9_densitySeen wsX9_countSeen := goodIn_r _ [6, 7, 8, 9, 10, 11, 12, 13, 14, 15, 16, 17, 18, 19, 20, 21, 22, 23, 24, 25, 26, 27, 28, 29, 30, 31, 32, 33, 34, 35, 36, 37, 38, 39, 40, 41, 42, 43, 44, 45, 46, 47, 48, 49, 50, 51, 52, 61, 62, 63, 64, 65, 66, 67, 68, 69, 70, 71, 72, 73, 74, 75, 76, 77, 78, 79, 80] (by decide +kernel) (by decide +kernel)
set_option maxRecDepth 20000 in
theorem gX9_densitySeen_X9_countSeen : GoodIn wsX9_densitySeen (wsV RX9 156 RX9 yX9_countSeen wsX9_countSeen) := goodIn_app (goodIn_of _ (by decide +kernel)) ggX9_densitySeen_X9_countSeen
set_option maxRecDepth 20000 in
theorem ggX9_densitySeen_X4_cells : GoodIn wsX9_densitySeen wsX4_cells := goodIn_r _ [56, 43, 42, 45, 44, 76, 77, 78, 79] (by decide +kernel) (by decide +kernel)
set_option maxRecDepth 20000 in
theorem gX9_densitySeen_X4_cells : GoodIn wsX9_densitySeen (wsV RX9 239 RX4 yX4_cells wsX4_cells) := goodIn_app (goodIn_of _ (by decide +kernel)) ggX9_densitySeen_X4_cells
set_option maxRecDepth 20000 in
theorem ggX9_densitySeen_X2_dividedDown : GoodIn wsX9_densitySeen wsX2_dividedDown := goodIn_r _ [60] (by decide +kernel) (by decide +kernel)
set_option maxRecDepth 20000 in
theorem gX9_densitySeen_X2_dividedDown : GoodIn wsX9_densitySeen (va_wsS RX9 241 yX2_dividedDown wsX2_dividedDown) := goodIn_app (goodIn_of _ (by decide +kernel)) ggX9_densitySeen_X2_dividedDown
theorem dX9_densitySeen_0 : decode cX9_densitySeen 0 = .ok (.aload_n 0, 1) := by decide +kernel
theorem dX9_densitySeen_1 : decode cX9_densitySeen 1 = .ok (.iload_n 1, 1) := by decide +kernel
theorem dX9_densitySeen_2 : decode cX9_densitySeen 2 = .ok (.aload_n 2, 1) := by decide +kernel
theorem dX9_densitySeen_3 : decode cX9_densitySeen 3 = .ok (.iconst 1, 1) := by decide +kernel
theorem dX9_densitySeen_4 : decode cX9_densitySeen 4 = .ok (.invokevirtual 156, 3) := by decide +kernel
theorem dX9_densitySeen_7 : decode cX9_densitySeen 7 = .ok (.i2l, 1) := by decide +kernel
theorem dX9_densitySeen_8 : decode cX9_densitySeen 8 = .ok (.ldc2_w 237, 3) := by decide +kernel
theorem dX9_densitySeen_11 : decode cX9_densitySeen 11 = .ok (.lmul, 1) := by decide +kernel
theorem dX9_densitySeen_12 : decode cX9_densitySeen 12 = .ok (.aload_n 2, 1) := by decide +kernel
theorem dX9_densitySeen_13 : decode cX9_densitySeen 13 = .ok (.invokevirtual 239, 3) := by decide +kernel
theorem dX9_densitySeen_16 : decode cX9_densitySeen 16 = .ok (.i2l, 1) := by decide +kernel
theorem dX9_densitySeen_17 : decode cX9_densitySeen 17 = .ok (.invokestatic 241, 3) := by decide +kernel
theorem dX9_densitySeen_20 : decode cX9_densitySeen 20 = .ok (.lreturn, 1) := by decide +kernel
theorem dX9_requireCell_0 : decode cX9_requireCell 0 = .ok (.iload_n 0, 1) := by decide +kernel
theorem dX9_requireCell_1 : decode cX9_requireCell 1 = .ok (.ifCond .lt 19, 3) := by decide +kernel
theorem dX9_requireCell_4 : decode cX9_requireCell 4 = .ok (.iload_n 0, 1) := by decide +kernel
theorem dX9_requireCell_5 : decode cX9_requireCell 5 = .ok (.bipush 16, 2) := by decide +kernel
theorem dX9_requireCell_7 : decode cX9_requireCell 7 = .ok (.if_icmp .ge 13, 3) := by decide +kernel
theorem dX9_requireCell_10 : decode cX9_requireCell 10 = .ok (.iload_n 1, 1) := by decide +kernel
theorem dX9_requireCell_11 : decode cX9_requireCell 11 = .ok (.ifCond .lt 9, 3) := by decide +kernel
theorem dX9_requireCell_14 : decode cX9_requireCell 14 = .ok (.iload_n 1, 1) := by decide +kernel
theorem dX9_requireCell_15 : decode cX9_requireCell 15 = .ok (.bipush 16, 2) := by decide +kernel
theorem dX9_requireCell_17 : decode cX9_requireCell 17 = .ok (.if_icmp .lt 13, 3) := by decide +kernel
theorem dX9_requireCell_20 : decode cX9_requireCell 20 = .ok (.new 245, 3) := by decide +kernel
theorem dX9_requireCell_23 : decode cX9_requireCell 23 = .ok (.dup, 1) := by decide +kernel
theorem dX9_requireCell_24 : decode cX9_requireCell 24 = .ok (.ldc 247, 2) := by decide +kernel
theorem dX9_requireCell_26 : decode cX9_requireCell 26 = .ok (.invokespecial 249, 3) := by decide +kernel
theorem dX9_requireCell_29 : decode cX9_requireCell 29 = .ok (.athrow, 1) := by decide +kernel
theorem dX9_requireCell_30 : decode cX9_requireCell 30 = .ok (.return_, 1) := by decide +kernel
set_option maxRecDepth 20000 in
theorem ggX9_requireCrater_Jx4a65c_size_8abf5 : GoodIn wsX9_requireCrater wsJx4a65c_size_8abf5 := goodIn_r _ [8, 9, 16, 17, 18] (by decide +kernel) (by decide +kernel)
set_option maxRecDepth 20000 in
theorem gX9_requireCrater_Jx4a65c_size_8abf5 : GoodIn wsX9_requireCrater (wsV RX9 96 RJx4a65c yJx4a65c_size_8abf5 wsJx4a65c_size_8abf5) := goodIn_app (goodIn_of _ (by decide +kernel)) ggX9_requireCrater_Jx4a65c_size_8abf5
theorem dX9_requireCrater_0 : decode cX9_requireCrater 0 = .ok (.iload_n 1, 1) := by decide +kernel
theorem dX9_requireCrater_1 : decode cX9_requireCrater 1 = .ok (.ifCond .lt 14, 3) := by decide +kernel
theorem dX9_requireCrater_4 : decode cX9_requireCrater 4 = .ok (.iload_n 1, 1) := by decide +kernel
theorem dX9_requireCrater_5 : decode cX9_requireCrater 5 = .ok (.aload_n 0, 1) := by decide +kernel
theorem dX9_requireCrater_6 : decode cX9_requireCrater 6 = .ok (.getfield 21, 3) := by decide +kernel
theorem dX9_requireCrater_9 : decode cX9_requireCrater 9 = .ok (.invokevirtual 96, 3) := by decide +kernel
theorem dX9_requireCrater_12 : decode cX9_requireCrater 12 = .ok (.if_icmp .lt 13, 3) := by decide +kernel
theorem dX9_requireCrater_15 : decode cX9_requireCrater 15 = .ok (.new 245, 3) := by decide +kernel
theorem dX9_requireCrater_18 : decode cX9_requireCrater 18 = .ok (.dup, 1) := by decide +kernel
theorem dX9_requireCrater_19 : decode cX9_requireCrater 19 = .ok (.ldc 250, 2) := by decide +kernel
theorem dX9_requireCrater_21 : decode cX9_requireCrater 21 = .ok (.invokespecial 249, 3) := by decide +kernel
theorem dX9_requireCrater_24 : decode cX9_requireCrater 24 = .ok (.athrow, 1) := by decide +kernel
theorem dX9_requireCrater_25 : decode cX9_requireCrater 25 = .ok (.return_, 1) := by decide +kernel
set_option maxRecDepth 20000 in
theorem ggX9_requireEyeAndCells_Jx4a65c_size_8abf5 : GoodIn wsX9_requireEyeAndCells wsJx4a65c_size_8abf5 := goodIn_r _ [8, 9, 20, 21, 22] (by decide +kernel) (by decide +kernel)
set_option maxRecDepth 20000 in
theorem gX9_requireEyeAndCells_Jx4a65c_size_8abf5 : GoodIn wsX9_requireEyeAndCells (wsV RX9 96 RJx4a65c yJx4a65c_size_8abf5 wsJx4a65c_size_8abf5) := goodIn_app (goodIn_of _ (by decide +kernel)) ggX9_requireEyeAndCells_Jx4a65c_size_8abf5
set_option maxRecDepth 20000 in
theorem ggX9_requireEyeAndCells_X9_requireCell : GoodIn wsX9_requireEyeAndCells wsX9_requireCell := goodIn_ca (goodIn_r _ [13, 1, 2] (by decide +kernel) (by decide +kernel)) (goodIn_sub (fun _ h => List.mem_cons_of_mem _ (List.mem_append_right _ h)) (by decide +kernel))
set_option maxRecDepth 20000 in
theorem gX9_requireEyeAndCells_X9_requireCell : GoodIn wsX9_requireEyeAndCells (va_wsS RX9 42 yX9_requireCell wsX9_requireCell) := goodIn_app (goodIn_of _ (by decide +kernel)) ggX9_requireEyeAndCells_X9_requireCell
theorem dX9_requireEyeAndCells_0 : decode cX9_requireEyeAndCells 0 = .ok (.iload_n 1, 1) := by decide +kernel
theorem dX9_requireEyeAndCells_1 : decode cX9_requireEyeAndCells 1 = .ok (.ifCond .lt 14, 3) := by decide +kernel
theorem dX9_requireEyeAndCells_4 : decode cX9_requireEyeAndCells 4 = .ok (.iload_n 1, 1) := by decide +kernel
theorem dX9_requireEyeAndCells_5 : decode cX9_requireEyeAndCells 5 = .ok (.aload_n 0, 1) := by decide +kernel
theorem dX9_requireEyeAndCells_6 : decode cX9_requireEyeAndCells 6 = .ok (.getfield 28, 3) := by decide +kernel
theorem dX9_requireEyeAndCells_9 : decode cX9_requireEyeAndCells 9 = .ok (.invokevirtual 96, 3) := by decide +kernel
theorem dX9_requireEyeAndCells_12 : decode cX9_requireEyeAndCells 12 = .ok (.if_icmp .lt 13, 3) := by decide +kernel
theorem dX9_requireEyeAndCells_15 : decode cX9_requireEyeAndCells 15 = .ok (.new 245, 3) := by decide +kernel
theorem dX9_requireEyeAndCells_18 : decode cX9_requireEyeAndCells 18 = .ok (.dup, 1) := by decide +kernel
theorem dX9_requireEyeAndCells_19 : decode cX9_requireEyeAndCells 19 = .ok (.ldc 252, 2) := by decide +kernel
theorem dX9_requireEyeAndCells_21 : decode cX9_requireEyeAndCells 21 = .ok (.invokespecial 249, 3) := by decide +kernel
theorem dX9_requireEyeAndCells_24 : decode cX9_requireEyeAndCells 24 = .ok (.athrow, 1) := by decide +kernel
theorem dX9_requireEyeAndCells_25 : decode cX9_requireEyeAndCells 25 = .ok (.iload_n 2, 1) := by decide +kernel
theorem dX9_requireEyeAndCells_26 : decode cX9_requireEyeAndCells 26 = .ok (.iload_n 3, 1) := by decide +kernel
theorem dX9_requireEyeAndCells_27 : decode cX9_requireEyeAndCells 27 = .ok (.invokestatic 42, 3) := by decide +kernel
theorem dX9_requireEyeAndCells_30 : decode cX9_requireEyeAndCells 30 = .ok (.iload 4, 2) := by decide +kernel
theorem dX9_requireEyeAndCells_32 : decode cX9_requireEyeAndCells 32 = .ok (.iload 5, 2) := by decide +kernel
theorem dX9_requireEyeAndCells_34 : decode cX9_requireEyeAndCells 34 = .ok (.invokestatic 42, 3) := by decide +kernel
theorem dX9_requireEyeAndCells_37 : decode cX9_requireEyeAndCells 37 = .ok (.return_, 1) := by decide +kernel
theorem dX9_requireRange_0 : decode cX9_requireRange 0 = .ok (.lload_n 0, 1) := by decide +kernel
theorem dX9_requireRange_1 : decode cX9_requireRange 1 = .ok (.lload_n 2, 1) := by decide +kernel
theorem dX9_requireRange_2 : decode cX9_requireRange 2 = .ok (.lcmp, 1) := by decide +kernel
theorem dX9_requireRange_3 : decode cX9_requireRange 3 = .ok (.ifCond .lt 10, 3) := by decide +kernel
theorem dX9_requireRange_6 : decode cX9_requireRange 6 = .ok (.lload_n 0, 1) := by decide +kernel
theorem dX9_requireRange_7 : decode cX9_requireRange 7 = .ok (.lload 4, 2) := by decide +kernel
theorem dX9_requireRange_9 : decode cX9_requireRange 9 = .ok (.lcmp, 1) := by decide +kernel
theorem dX9_requireRange_10 : decode cX9_requireRange 10 = .ok (.ifCond .le 14, 3) := by decide +kernel
theorem dX9_requireRange_13 : decode cX9_requireRange 13 = .ok (.new 254, 3) := by decide +kernel
theorem dX9_requireRange_16 : decode cX9_requireRange 16 = .ok (.dup, 1) := by decide +kernel
theorem dX9_requireRange_17 : decode cX9_requireRange 17 = .ok (.ldc_w 256, 3) := by decide +kernel
theorem dX9_requireRange_20 : decode cX9_requireRange 20 = .ok (.invokespecial 258, 3) := by decide +kernel
theorem dX9_requireRange_23 : decode cX9_requireRange 23 = .ok (.athrow, 1) := by decide +kernel
theorem dX9_requireRange_24 : decode cX9_requireRange 24 = .ok (.return_, 1) := by decide +kernel
theorem dX9_requireOrder_0 : decode cX9_requireOrder 0 = .ok (.iload_n 2, 1) := by decide +kernel
theorem dX9_requireOrder_1 : decode cX9_requireOrder 1 = .ok (.iload_n 0, 1) := by decide +kernel
theorem dX9_requireOrder_2 : decode cX9_requireOrder 2 = .ok (.if_icmp .lt 8, 3) := by decide +kernel
theorem dX9_requireOrder_5 : decode cX9_requireOrder 5 = .ok (.iload_n 3, 1) := by decide +kernel
theorem dX9_requireOrder_6 : decode cX9_requireOrder 6 = .ok (.iload_n 1, 1) := by decide +kernel
theorem dX9_requireOrder_7 : decode cX9_requireOrder 7 = .ok (.if_icmp .ge 14, 3) := by decide +kernel
theorem dX9_requireOrder_10 : decode cX9_requireOrder 10 = .ok (.new 254, 3) := by decide +kernel
theorem dX9_requireOrder_13 : decode cX9_requireOrder 13 = .ok (.dup, 1) := by decide +kernel
theorem dX9_requireOrder_14 : decode cX9_requireOrder 14 = .ok (.ldc_w 259, 3) := by decide +kernel
theorem dX9_requireOrder_17 : decode cX9_requireOrder 17 = .ok (.invokespecial 258, 3) := by decide +kernel
theorem dX9_requireOrder_20 : decode cX9_requireOrder 20 = .ok (.athrow, 1) := by decide +kernel
theorem dX9_requireOrder_21 : decode cX9_requireOrder 21 = .ok (.return_, 1) := by decide +kernel
set_option maxRecDepth 20000 in
theorem ggX9_requireRoomForCraters_Jx4a65c_size_8abf5 : GoodIn wsX9_requireRoomForCraters wsJx4a65c_size_8abf5 := goodIn_r _ [8, 9, 16, 17, 18] (by decide +kernel) (by decide +kernel)
set_option maxRecDepth 20000 in
theorem gX9_requireRoomForCraters_Jx4a65c_size_8abf5 : GoodIn wsX9_requireRoomForCraters (wsV RX9 96 RJx4a65c yJx4a65c_size_8abf5 wsJx4a65c_size_8abf5) := goodIn_app (goodIn_of _ (by decide +kernel)) ggX9_requireRoomForCraters_Jx4a65c_size_8abf5
theorem dX9_requireRoomForCraters_0 : decode cX9_requireRoomForCraters 0 = .ok (.aload_n 0, 1) := by decide +kernel
theorem dX9_requireRoomForCraters_1 : decode cX9_requireRoomForCraters 1 = .ok (.getfield 21, 3) := by decide +kernel
theorem dX9_requireRoomForCraters_4 : decode cX9_requireRoomForCraters 4 = .ok (.invokevirtual 96, 3) := by decide +kernel
theorem dX9_requireRoomForCraters_7 : decode cX9_requireRoomForCraters 7 = .ok (.iload_n 1, 1) := by decide +kernel
theorem dX9_requireRoomForCraters_8 : decode cX9_requireRoomForCraters 8 = .ok (.iadd, 1) := by decide +kernel
theorem dX9_requireRoomForCraters_9 : decode cX9_requireRoomForCraters 9 = .ok (.sipush 200, 3) := by decide +kernel
theorem dX9_requireRoomForCraters_12 : decode cX9_requireRoomForCraters 12 = .ok (.if_icmp .le 14, 3) := by decide +kernel
theorem dX9_requireRoomForCraters_15 : decode cX9_requireRoomForCraters 15 = .ok (.new 121, 3) := by decide +kernel
theorem dX9_requireRoomForCraters_18 : decode cX9_requireRoomForCraters 18 = .ok (.dup, 1) := by decide +kernel
theorem dX9_requireRoomForCraters_19 : decode cX9_requireRoomForCraters 19 = .ok (.ldc_w 261, 3) := by decide +kernel
theorem dX9_requireRoomForCraters_22 : decode cX9_requireRoomForCraters 22 = .ok (.invokespecial 125, 3) := by decide +kernel
theorem dX9_requireRoomForCraters_25 : decode cX9_requireRoomForCraters 25 = .ok (.athrow, 1) := by decide +kernel
theorem dX9_requireRoomForCraters_26 : decode cX9_requireRoomForCraters 26 = .ok (.return_, 1) := by decide +kernel
set_option maxRecDepth 20000 in
theorem ggX9_requireRoomForLessening_Jx4a65c_size_8abf5 : GoodIn wsX9_requireRoomForLessening wsJx4a65c_size_8abf5 := goodIn_r _ [8, 9, 16, 17, 18] (by decide +kernel) (by decide +kernel)
set_option maxRecDepth 20000 in
theorem gX9_requireRoomForLessening_Jx4a65c_size_8abf5 : GoodIn wsX9_requireRoomForLessening (wsV RX9 96 RJx4a65c yJx4a65c_size_8abf5 wsJx4a65c_size_8abf5) := goodIn_app (goodIn_of _ (by decide +kernel)) ggX9_requireRoomForLessening_Jx4a65c_size_8abf5
theorem dX9_requireRoomForLessening_0 : decode cX9_requireRoomForLessening 0 = .ok (.aload_n 0, 1) := by decide +kernel
theorem dX9_requireRoomForLessening_1 : decode cX9_requireRoomForLessening 1 = .ok (.getfield 25, 3) := by decide +kernel
theorem dX9_requireRoomForLessening_4 : decode cX9_requireRoomForLessening 4 = .ok (.invokevirtual 96, 3) := by decide +kernel
theorem dX9_requireRoomForLessening_7 : decode cX9_requireRoomForLessening 7 = .ok (.bipush 100, 2) := by decide +kernel
theorem dX9_requireRoomForLessening_9 : decode cX9_requireRoomForLessening 9 = .ok (.if_icmp .lt 14, 3) := by decide +kernel
theorem dX9_requireRoomForLessening_12 : decode cX9_requireRoomForLessening 12 = .ok (.new 121, 3) := by decide +kernel
theorem dX9_requireRoomForLessening_15 : decode cX9_requireRoomForLessening 15 = .ok (.dup, 1) := by decide +kernel
theorem dX9_requireRoomForLessening_16 : decode cX9_requireRoomForLessening 16 = .ok (.ldc_w 263, 3) := by decide +kernel
theorem dX9_requireRoomForLessening_19 : decode cX9_requireRoomForLessening 19 = .ok (.invokespecial 125, 3) := by decide +kernel
theorem dX9_requireRoomForLessening_22 : decode cX9_requireRoomForLessening 22 = .ok (.athrow, 1) := by decide +kernel
theorem dX9_requireRoomForLessening_23 : decode cX9_requireRoomForLessening 23 = .ok (.return_, 1) := by decide +kernel
theorem dX10_init_0 : decode cX10_init 0 = .ok (.aload_n 0, 1) := by decide +kernel
theorem dX10_init_1 : decode cX10_init 1 = .ok (.invokespecial 1, 3) := by decide +kernel
theorem dX10_init_4 : decode cX10_init 4 = .ok (.aload_n 0, 1) := by decide +kernel
theorem dX10_init_5 : decode cX10_init 5 = .ok (.sipush 256, 3) := by decide +kernel
theorem dX10_init_8 : decode cX10_init 8 = .ok (.newarray .int, 2) := by decide +kernel
theorem dX10_init_10 : decode cX10_init 10 = .ok (.putfield 7, 3) := by decide +kernel
theorem dX10_init_13 : decode cX10_init 13 = .ok (.aload_n 0, 1) := by decide +kernel
theorem dX10_init_14 : decode cX10_init 14 = .ok (.sipush 200, 3) := by decide +kernel
theorem dX10_init_17 : decode cX10_init 17 = .ok (.newarray .int, 2) := by decide +kernel
theorem dX10_init_19 : decode cX10_init 19 = .ok (.putfield 13, 3) := by decide +kernel
theorem dX10_init_22 : decode cX10_init 22 = .ok (.aload_n 0, 1) := by decide +kernel
theorem dX10_init_23 : decode cX10_init 23 = .ok (.sipush 200, 3) := by decide +kernel
theorem dX10_init_26 : decode cX10_init 26 = .ok (.newarray .int, 2) := by decide +kernel
theorem dX10_init_28 : decode cX10_init 28 = .ok (.putfield 16, 3) := by decide +kernel
theorem dX10_init_31 : decode cX10_init 31 = .ok (.aload_n 0, 1) := by decide +kernel
theorem dX10_init_32 : decode cX10_init 32 = .ok (.sipush 200, 3) := by decide +kernel
theorem dX10_init_35 : decode cX10_init 35 = .ok (.newarray .int, 2) := by decide +kernel
theorem dX10_init_37 : decode cX10_init 37 = .ok (.putfield 19, 3) := by decide +kernel
theorem dX10_init_40 : decode cX10_init 40 = .ok (.aload_n 0, 1) := by decide +kernel
theorem dX10_init_41 : decode cX10_init 41 = .ok (.sipush 200, 3) := by decide +kernel
theorem dX10_init_44 : decode cX10_init 44 = .ok (.newarray .int, 2) := by decide +kernel
theorem dX10_init_46 : decode cX10_init 46 = .ok (.putfield 22, 3) := by decide +kernel
theorem dX10_init_49 : decode cX10_init 49 = .ok (.aload_n 0, 1) := by decide +kernel
theorem dX10_init_50 : decode cX10_init 50 = .ok (.iconst 1, 1) := by decide +kernel
theorem dX10_init_51 : decode cX10_init 51 = .ok (.putfield 25, 3) := by decide +kernel
theorem dX10_init_54 : decode cX10_init 54 = .ok (.aload_n 0, 1) := by decide +kernel
theorem dX10_init_55 : decode cX10_init 55 = .ok (.bipush 6, 2) := by decide +kernel
theorem dX10_init_57 : decode cX10_init 57 = .ok (.newarray .int, 2) := by decide +kernel
theorem dX10_init_59 : decode cX10_init 59 = .ok (.putfield 29, 3) := by decide +kernel
theorem dX10_init_62 : decode cX10_init 62 = .ok (.aload_n 0, 1) := by decide +kernel
theorem dX10_init_63 : decode cX10_init 63 = .ok (.bipush 8, 2) := by decide +kernel
theorem dX10_init_65 : decode cX10_init 65 = .ok (.newarray .long, 2) := by decide +kernel
theorem dX10_init_67 : decode cX10_init 67 = .ok (.putfield 32, 3) := by decide +kernel
theorem dX10_init_70 : decode cX10_init 70 = .ok (.aload_n 0, 1) := by decide +kernel
theorem dX10_init_71 : decode cX10_init 71 = .ok (.bipush 8, 2) := by decide +kernel
theorem dX10_init_73 : decode cX10_init 73 = .ok (.newarray .long, 2) := by decide +kernel
theorem dX10_init_75 : decode cX10_init 75 = .ok (.putfield 36, 3) := by decide +kernel
theorem dX10_init_78 : decode cX10_init 78 = .ok (.return_, 1) := by decide +kernel
theorem dX10_thrown_0 : decode cX10_thrown 0 = .ok (.aload_n 0, 1) := by decide +kernel
theorem dX10_thrown_1 : decode cX10_thrown 1 = .ok (.getfield 39, 3) := by decide +kernel
theorem dX10_thrown_4 : decode cX10_thrown 4 = .ok (.ireturn, 1) := by decide +kernel
theorem dX10_can_0 : decode cX10_can 0 = .ok (.aload_n 0, 1) := by decide +kernel
theorem dX10_can_1 : decode cX10_can 1 = .ok (.iload_n 1, 1) := by decide +kernel
theorem dX10_can_2 : decode cX10_can 2 = .ok (.putfield 39, 3) := by decide +kernel
theorem dX10_can_5 : decode cX10_can 5 = .ok (.iload_n 1, 1) := by decide +kernel
theorem dX10_can_6 : decode cX10_can 6 = .ok (.ifCond .ne 7, 3) := by decide +kernel
theorem dX10_can_9 : decode cX10_can 9 = .ok (.iconst 1, 1) := by decide +kernel
theorem dX10_can_10 : decode cX10_can 10 = .ok (.goto 4, 3) := by decide +kernel
theorem dX10_can_13 : decode cX10_can 13 = .ok (.iconst 0, 1) := by decide +kernel
theorem dX10_can_14 : decode cX10_can 14 = .ok (.ireturn, 1) := by decide +kernel
theorem dX10_isIn_0 : decode cX10_isIn 0 = .ok (.iload_n 0, 1) := by decide +kernel
theorem dX10_isIn_1 : decode cX10_isIn 1 = .ok (.iload_n 1, 1) := by decide +kernel
theorem dX10_isIn_2 : decode cX10_isIn 2 = .ok (.if_icmp .lt 12, 3) := by decide +kernel
theorem dX10_isIn_5 : decode cX10_isIn 5 = .ok (.iload_n 0, 1) := by decide +kernel
theorem dX10_isIn_6 : decode cX10_isIn 6 = .ok (.iload_n 2, 1) := by decide +kernel
theorem dX10_isIn_7 : decode cX10_isIn 7 = .ok (.if_icmp .gt 7, 3) := by decide +kernel
theorem dX10_isIn_10 : decode cX10_isIn 10 = .ok (.iconst 1, 1) := by decide +kernel
theorem dX10_isIn_11 : decode cX10_isIn 11 = .ok (.goto 4, 3) := by decide +kernel
theorem dX10_isIn_14 : decode cX10_isIn 14 = .ok (.iconst 0, 1) := by decide +kernel
theorem dX10_isIn_15 : decode cX10_isIn 15 = .ok (.ireturn, 1) := by decide +kernel
set_option maxRecDepth 20000 in
theorem ggX10_isCell_X10_isIn : GoodIn wsX10_isCell wsX10_isIn := goodIn_r _ [4] (by decide +kernel) (by decide +kernel)
set_option maxRecDepth 20000 in
theorem gX10_isCell_X10_isIn : GoodIn wsX10_isCell (va_wsS RX10 42 yX10_isIn wsX10_isIn) := goodIn_app (goodIn_of _ (by decide +kernel)) ggX10_isCell_X10_isIn
theorem dX10_isCell_0 : decode cX10_isCell 0 = .ok (.iload_n 0, 1) := by decide +kernel
theorem dX10_isCell_1 : decode cX10_isCell 1 = .ok (.iconst 0, 1) := by decide +kernel
theorem dX10_isCell_2 : decode cX10_isCell 2 = .ok (.bipush 15, 2) := by decide +kernel
theorem dX10_isCell_4 : decode cX10_isCell 4 = .ok (.invokestatic 42, 3) := by decide +kernel
theorem dX10_isCell_7 : decode cX10_isCell 7 = .ok (.ifCond .eq 17, 3) := by decide +kernel
theorem dX10_isCell_10 : decode cX10_isCell 10 = .ok (.iload_n 1, 1) := by decide +kernel
theorem dX10_isCell_11 : decode cX10_isCell 11 = .ok (.iconst 0, 1) := by decide +kernel
theorem dX10_isCell_12 : decode cX10_isCell 12 = .ok (.bipush 15, 2) := by decide +kernel
theorem dX10_isCell_14 : decode cX10_isCell 14 = .ok (.invokestatic 42, 3) := by decide +kernel
theorem dX10_isCell_17 : decode cX10_isCell 17 = .ok (.ifCond .eq 7, 3) := by decide +kernel
theorem dX10_isCell_20 : decode cX10_isCell 20 = .ok (.iconst 1, 1) := by decide +kernel
theorem dX10_isCell_21 : decode cX10_isCell 21 = .ok (.goto 4, 3) := by decide +kernel
theorem dX10_isCell_24 : decode cX10_isCell 24 = .ok (.iconst 0, 1) := by decide +kernel
theorem dX10_isCell_25 : decode cX10_isCell 25 = .ok (.ireturn, 1) := by decide +kernel
set_option maxRecDepth 20000 in
theorem ggX10_areCells_X10_isCell : GoodIn wsX10_areCells wsX10_isCell := goodIn_r _ [4, 5, 6, 3, 7] (by decide +kernel) (by decide +kernel)
set_option maxRecDepth 20000 in
theorem gX10_areCells_X10_isCell : GoodIn wsX10_areCells (va_wsS RX10 46 yX10_isCell wsX10_isCell) := goodIn_app (goodIn_of _ (by decide +kernel)) ggX10_areCells_X10_isCell
theorem dX10_areCells_0 : decode cX10_areCells 0 = .ok (.iload_n 0, 1) := by decide +kernel
theorem dX10_areCells_1 : decode cX10_areCells 1 = .ok (.iload_n 1, 1) := by decide +kernel
theorem dX10_areCells_2 : decode cX10_areCells 2 = .ok (.invokestatic 46, 3) := by decide +kernel
theorem dX10_areCells_5 : decode cX10_areCells 5 = .ok (.ifCond .eq 15, 3) := by decide +kernel
theorem dX10_areCells_8 : decode cX10_areCells 8 = .ok (.iload_n 2, 1) := by decide +kernel
theorem dX10_areCells_9 : decode cX10_areCells 9 = .ok (.iload_n 3, 1) := by decide +kernel
theorem dX10_areCells_10 : decode cX10_areCells 10 = .ok (.invokestatic 46, 3) := by decide +kernel
theorem dX10_areCells_13 : decode cX10_areCells 13 = .ok (.ifCond .eq 7, 3) := by decide +kernel
theorem dX10_areCells_16 : decode cX10_areCells 16 = .ok (.iconst 1, 1) := by decide +kernel
theorem dX10_areCells_17 : decode cX10_areCells 17 = .ok (.goto 4, 3) := by decide +kernel
theorem dX10_areCells_20 : decode cX10_areCells 20 = .ok (.iconst 0, 1) := by decide +kernel
theorem dX10_areCells_21 : decode cX10_areCells 21 = .ok (.ireturn, 1) := by decide +kernel
set_option maxRecDepth 20000 in
theorem ggX10_isEye_X10_isIn : GoodIn wsX10_isEye wsX10_isIn := goodIn_r _ [5] (by decide +kernel) (by decide +kernel)
set_option maxRecDepth 20000 in
theorem gX10_isEye_X10_isIn : GoodIn wsX10_isEye (va_wsS RX10 42 yX10_isIn wsX10_isIn) := goodIn_app (goodIn_of _ (by decide +kernel)) ggX10_isEye_X10_isIn
theorem dX10_isEye_0 : decode cX10_isEye 0 = .ok (.iload_n 1, 1) := by decide +kernel
theorem dX10_isEye_1 : decode cX10_isEye 1 = .ok (.iconst 0, 1) := by decide +kernel
theorem dX10_isEye_2 : decode cX10_isEye 2 = .ok (.aload_n 0, 1) := by decide +kernel
theorem dX10_isEye_3 : decode cX10_isEye 3 = .ok (.getfield 50, 3) := by decide +kernel
theorem dX10_isEye_6 : decode cX10_isEye 6 = .ok (.iconst 1, 1) := by decide +kernel
theorem dX10_isEye_7 : decode cX10_isEye 7 = .ok (.isub, 1) := by decide +kernel
theorem dX10_isEye_8 : decode cX10_isEye 8 = .ok (.invokestatic 42, 3) := by decide +kernel
theorem dX10_isEye_11 : decode cX10_isEye 11 = .ok (.ireturn, 1) := by decide +kernel
set_option maxRecDepth 20000 in
theorem ggX10_isCrater_X10_isIn : GoodIn wsX10_isCrater wsX10_isIn := goodIn_r _ [5] (by decide +kernel) (by decide +kernel)
set_option maxRecDepth 20000 in
theorem gX10_isCrater_X10_isIn : GoodIn wsX10_isCrater (va_wsS RX10 42 yX10_isIn wsX10_isIn) := goodIn_app (goodIn_of _ (by decide +kernel)) ggX10_isCrater_X10_isIn
theorem dX10_isCrater_0 : decode cX10_isCrater 0 = .ok (.iload_n 1, 1) := by decide +kernel
theorem dX10_isCrater_1 : decode cX10_isCrater 1 = .ok (.iconst 0, 1) := by decide +kernel
theorem dX10_isCrater_2 : decode cX10_isCrater 2 = .ok (.aload_n 0, 1) := by decide +kernel
theorem dX10_isCrater_3 : decode cX10_isCrater 3 = .ok (.getfield 53, 3) := by decide +kernel
theorem dX10_isCrater_6 : decode cX10_isCrater 6 = .ok (.iconst 1, 1) := by decide +kernel
theorem dX10_isCrater_7 : decode cX10_isCrater 7 = .ok (.isub, 1) := by decide +kernel
theorem dX10_isCrater_8 : decode cX10_isCrater 8 = .ok (.invokestatic 42, 3) := by decide +kernel
theorem dX10_isCrater_11 : decode cX10_isCrater 11 = .ok (.ireturn, 1) := by decide +kernel
set_option maxRecDepth 20000 in
theorem ggX10_ground_X10_isCell : GoodIn wsX10_ground wsX10_isCell := goodIn_r _ [5, 6, 7, 4, 8] (by decide +kernel) (by decide +kernel)
set_option maxRecDepth 20000 in
theorem gX10_ground_X10_isCell : GoodIn wsX10_ground (va_wsS RX10 46 yX10_isCell wsX10_isCell) := goodIn_app (goodIn_of _ (by decide +kernel)) ggX10_ground_X10_isCell
set_option maxRecDepth 20000 in
theorem ggX10_ground_X10_isIn : GoodIn wsX10_ground wsX10_isIn := goodIn_r _ [8] (by decide +kernel) (by decide +kernel)
set_option maxRecDepth 20000 in
theorem gX10_ground_X10_isIn : GoodIn wsX10_ground (va_wsS RX10 42 yX10_isIn wsX10_isIn) := goodIn_app (goodIn_of _ (by decide +kernel)) ggX10_ground_X10_isIn
set_option maxRecDepth 20000 in
theorem ggX10_ground_X10_can : GoodIn wsX10_ground wsX10_can := goodIn_r _ [12, 13, 14, 15, 16, 17, 18, 19, 20, 21, 22, 23, 24, 25, 26, 27] (by decide +kernel) (by decide +kernel)
set_option maxRecDepth 20000 in
theorem gX10_ground_X10_can : GoodIn wsX10_ground (wsV RX10 56 RX10 yX10_can wsX10_can) := goodIn_app (goodIn_of _ (by decide +kernel)) ggX10_ground_X10_can
theorem dX10_ground_0 : decode cX10_ground 0 = .ok (.aload_n 0, 1) := by decide +kernel
theorem dX10_ground_1 : decode cX10_ground 1 = .ok (.iload_n 1, 1) := by decide +kernel
theorem dX10_ground_2 : decode cX10_ground 2 = .ok (.iload_n 2, 1) := by decide +kernel
theorem dX10_ground_3 : decode cX10_ground 3 = .ok (.invokestatic 46, 3) := by decide +kernel
theorem dX10_ground_6 : decode cX10_ground 6 = .ok (.ifCond .ne 7, 3) := by decide +kernel
theorem dX10_ground_9 : decode cX10_ground 9 = .ok (.iconst 1, 1) := by decide +kernel
theorem dX10_ground_10 : decode cX10_ground 10 = .ok (.goto 17, 3) := by decide +kernel
theorem dX10_ground_13 : decode cX10_ground 13 = .ok (.iload_n 3, 1) := by decide +kernel
theorem dX10_ground_14 : decode cX10_ground 14 = .ok (.iconst 0, 1) := by decide +kernel
theorem dX10_ground_15 : decode cX10_ground 15 = .ok (.iconst 2, 1) := by decide +kernel
theorem dX10_ground_16 : decode cX10_ground 16 = .ok (.invokestatic 42, 3) := by decide +kernel
theorem dX10_ground_19 : decode cX10_ground 19 = .ok (.ifCond .eq 7, 3) := by decide +kernel
theorem dX10_ground_22 : decode cX10_ground 22 = .ok (.iconst 0, 1) := by decide +kernel
theorem dX10_ground_23 : decode cX10_ground 23 = .ok (.goto 4, 3) := by decide +kernel
theorem dX10_ground_26 : decode cX10_ground 26 = .ok (.iconst 2, 1) := by decide +kernel
theorem dX10_ground_27 : decode cX10_ground 27 = .ok (.invokevirtual 56, 3) := by decide +kernel
theorem dX10_ground_30 : decode cX10_ground 30 = .ok (.ifCond .ne 5, 3) := by decide +kernel
theorem dX10_ground_33 : decode cX10_ground 33 = .ok (.iconst 0, 1) := by decide +kernel
theorem dX10_ground_34 : decode cX10_ground 34 = .ok (.ireturn, 1) := by decide +kernel
theorem dX10_ground_35 : decode cX10_ground 35 = .ok (.aload_n 0, 1) := by decide +kernel
theorem dX10_ground_36 : decode cX10_ground 36 = .ok (.getfield 7, 3) := by decide +kernel
theorem dX10_ground_39 : decode cX10_ground 39 = .ok (.bipush 16, 2) := by decide +kernel
theorem dX10_ground_41 : decode cX10_ground 41 = .ok (.iload_n 2, 1) := by decide +kernel
theorem dX10_ground_42 : decode cX10_ground 42 = .ok (.imul, 1) := by decide +kernel
theorem dX10_ground_43 : decode cX10_ground 43 = .ok (.iload_n 1, 1) := by decide +kernel
theorem dX10_ground_44 : decode cX10_ground 44 = .ok (.iadd, 1) := by decide +kernel
theorem dX10_ground_45 : decode cX10_ground 45 = .ok (.iaload, 1) := by decide +kernel
theorem dX10_ground_46 : decode cX10_ground 46 = .ok (.istore 4, 2) := by decide +kernel
theorem dX10_ground_48 : decode cX10_ground 48 = .ok (.aload_n 0, 1) := by decide +kernel
theorem dX10_ground_49 : decode cX10_ground 49 = .ok (.getfield 7, 3) := by decide +kernel
theorem dX10_ground_52 : decode cX10_ground 52 = .ok (.bipush 16, 2) := by decide +kernel
theorem dX10_ground_54 : decode cX10_ground 54 = .ok (.iload_n 2, 1) := by decide +kernel
theorem dX10_ground_55 : decode cX10_ground 55 = .ok (.imul, 1) := by decide +kernel
theorem dX10_ground_56 : decode cX10_ground 56 = .ok (.iload_n 1, 1) := by decide +kernel
theorem dX10_ground_57 : decode cX10_ground 57 = .ok (.iadd, 1) := by decide +kernel
theorem dX10_ground_58 : decode cX10_ground 58 = .ok (.iload_n 3, 1) := by decide +kernel
theorem dX10_ground_59 : decode cX10_ground 59 = .ok (.iastore, 1) := by decide +kernel
theorem dX10_ground_60 : decode cX10_ground 60 = .ok (.iload 4, 2) := by decide +kernel
theorem dX10_ground_62 : decode cX10_ground 62 = .ok (.ireturn, 1) := by decide +kernel
theorem dX10_groundOf_0 : decode cX10_groundOf 0 = .ok (.aload_n 0, 1) := by decide +kernel
theorem dX10_groundOf_1 : decode cX10_groundOf 1 = .ok (.getfield 7, 3) := by decide +kernel
theorem dX10_groundOf_4 : decode cX10_groundOf 4 = .ok (.bipush 16, 2) := by decide +kernel
theorem dX10_groundOf_6 : decode cX10_groundOf 6 = .ok (.aload_n 0, 1) := by decide +kernel
theorem dX10_groundOf_7 : decode cX10_groundOf 7 = .ok (.getfield 16, 3) := by decide +kernel
theorem dX10_groundOf_10 : decode cX10_groundOf 10 = .ok (.iload_n 1, 1) := by decide +kernel
theorem dX10_groundOf_11 : decode cX10_groundOf 11 = .ok (.iaload, 1) := by decide +kernel
theorem dX10_groundOf_12 : decode cX10_groundOf 12 = .ok (.imul, 1) := by decide +kernel
theorem dX10_groundOf_13 : decode cX10_groundOf 13 = .ok (.aload_n 0, 1) := by decide +kernel
theorem dX10_groundOf_14 : decode cX10_groundOf 14 = .ok (.getfield 13, 3) := by decide +kernel
theorem dX10_groundOf_17 : decode cX10_groundOf 17 = .ok (.iload_n 1, 1) := by decide +kernel
theorem dX10_groundOf_18 : decode cX10_groundOf 18 = .ok (.iaload, 1) := by decide +kernel
theorem dX10_groundOf_19 : decode cX10_groundOf 19 = .ok (.iadd, 1) := by decide +kernel
theorem dX10_groundOf_20 : decode cX10_groundOf 20 = .ok (.iaload, 1) := by decide +kernel
theorem dX10_groundOf_21 : decode cX10_groundOf 21 = .ok (.ireturn, 1) := by decide +kernel
theorem dX10_square_0 : decode cX10_square 0 = .ok (.aload_n 0, 1) := by decide +kernel
theorem dX10_square_1 : decode cX10_square 1 = .ok (.getfield 13, 3) := by decide +kernel
theorem dX10_square_4 : decode cX10_square 4 = .ok (.iload_n 1, 1) := by decide +kernel
theorem dX10_square_5 : decode cX10_square 5 = .ok (.iaload, 1) := by decide +kernel
theorem dX10_square_6 : decode cX10_square 6 = .ok (.iload_n 2, 1) := by decide +kernel
theorem dX10_square_7 : decode cX10_square 7 = .ok (.isub, 1) := by decide +kernel
theorem dX10_square_8 : decode cX10_square 8 = .ok (.aload_n 0, 1) := by decide +kernel
theorem dX10_square_9 : decode cX10_square 9 = .ok (.getfield 13, 3) := by decide +kernel
theorem dX10_square_12 : decode cX10_square 12 = .ok (.iload_n 1, 1) := by decide +kernel
theorem dX10_square_13 : decode cX10_square 13 = .ok (.iaload, 1) := by decide +kernel
theorem dX10_square_14 : decode cX10_square 14 = .ok (.iload_n 2, 1) := by decide +kernel
theorem dX10_square_15 : decode cX10_square 15 = .ok (.isub, 1) := by decide +kernel
theorem dX10_square_16 : decode cX10_square 16 = .ok (.imul, 1) := by decide +kernel
theorem dX10_square_17 : decode cX10_square 17 = .ok (.aload_n 0, 1) := by decide +kernel
theorem dX10_square_18 : decode cX10_square 18 = .ok (.getfield 16, 3) := by decide +kernel
theorem dX10_square_21 : decode cX10_square 21 = .ok (.iload_n 1, 1) := by decide +kernel
theorem dX10_square_22 : decode cX10_square 22 = .ok (.iaload, 1) := by decide +kernel
theorem dX10_square_23 : decode cX10_square 23 = .ok (.iload_n 3, 1) := by decide +kernel
theorem dX10_square_24 : decode cX10_square 24 = .ok (.isub, 1) := by decide +kernel
theorem dX10_square_25 : decode cX10_square 25 = .ok (.aload_n 0, 1) := by decide +kernel
theorem dX10_square_26 : decode cX10_square 26 = .ok (.getfield 16, 3) := by decide +kernel
theorem dX10_square_29 : decode cX10_square 29 = .ok (.iload_n 1, 1) := by decide +kernel
theorem dX10_square_30 : decode cX10_square 30 = .ok (.iaload, 1) := by decide +kernel
theorem dX10_square_31 : decode cX10_square 31 = .ok (.iload_n 3, 1) := by decide +kernel
theorem dX10_square_32 : decode cX10_square 32 = .ok (.isub, 1) := by decide +kernel
theorem dX10_square_33 : decode cX10_square 33 = .ok (.imul, 1) := by decide +kernel
theorem dX10_square_34 : decode cX10_square 34 = .ok (.iadd, 1) := by decide +kernel
theorem dX10_square_35 : decode cX10_square 35 = .ok (.ireturn, 1) := by decide +kernel
theorem dX10_lessens_0 : decode cX10_lessens 0 = .ok (.aload_n 0, 1) := by decide +kernel
theorem dX10_lessens_1 : decode cX10_lessens 1 = .ok (.getfield 22, 3) := by decide +kernel
theorem dX10_lessens_4 : decode cX10_lessens 4 = .ok (.iload_n 1, 1) := by decide +kernel
theorem dX10_lessens_5 : decode cX10_lessens 5 = .ok (.iaload, 1) := by decide +kernel
theorem dX10_lessens_6 : decode cX10_lessens 6 = .ok (.ifCond .le 7, 3) := by decide +kernel
theorem dX10_lessens_9 : decode cX10_lessens 9 = .ok (.iconst 1, 1) := by decide +kernel
theorem dX10_lessens_10 : decode cX10_lessens 10 = .ok (.goto 4, 3) := by decide +kernel
theorem dX10_lessens_13 : decode cX10_lessens 13 = .ok (.iconst 0, 1) := by decide +kernel
theorem dX10_lessens_14 : decode cX10_lessens 14 = .ok (.istore_n 3, 1) := by decide +kernel
theorem dX10_lessens_15 : decode cX10_lessens 15 = .ok (.aload_n 0, 1) := by decide +kernel
theorem dX10_lessens_16 : decode cX10_lessens 16 = .ok (.getfield 22, 3) := by decide +kernel
theorem dX10_lessens_19 : decode cX10_lessens 19 = .ok (.iload_n 1, 1) := by decide +kernel
theorem dX10_lessens_20 : decode cX10_lessens 20 = .ok (.aload_n 0, 1) := by decide +kernel
theorem dX10_lessens_21 : decode cX10_lessens 21 = .ok (.getfield 22, 3) := by decide +kernel
theorem dX10_lessens_24 : decode cX10_lessens 24 = .ok (.iload_n 1, 1) := by decide +kernel
theorem dX10_lessens_25 : decode cX10_lessens 25 = .ok (.iaload, 1) := by decide +kernel
theorem dX10_lessens_26 : decode cX10_lessens 26 = .ok (.iload_n 2, 1) := by decide +kernel
theorem dX10_lessens_27 : decode cX10_lessens 27 = .ok (.if_icmp .le 14, 3) := by decide +kernel
theorem dX10_lessens_30 : decode cX10_lessens 30 = .ok (.aload_n 0, 1) := by decide +kernel
theorem dX10_lessens_31 : decode cX10_lessens 31 = .ok (.getfield 22, 3) := by decide +kernel
theorem dX10_lessens_34 : decode cX10_lessens 34 = .ok (.iload_n 1, 1) := by decide +kernel
theorem dX10_lessens_35 : decode cX10_lessens 35 = .ok (.iaload, 1) := by decide +kernel
theorem dX10_lessens_36 : decode cX10_lessens 36 = .ok (.iload_n 2, 1) := by decide +kernel
theorem dX10_lessens_37 : decode cX10_lessens 37 = .ok (.isub, 1) := by decide +kernel
theorem dX10_lessens_38 : decode cX10_lessens 38 = .ok (.goto 4, 3) := by decide +kernel
theorem dX10_lessens_41 : decode cX10_lessens 41 = .ok (.iconst 0, 1) := by decide +kernel
theorem dX10_lessens_42 : decode cX10_lessens 42 = .ok (.iastore, 1) := by decide +kernel
theorem dX10_lessens_43 : decode cX10_lessens 43 = .ok (.iload_n 3, 1) := by decide +kernel
theorem dX10_lessens_44 : decode cX10_lessens 44 = .ok (.ifCond .eq 16, 3) := by decide +kernel
theorem dX10_lessens_47 : decode cX10_lessens 47 = .ok (.aload_n 0, 1) := by decide +kernel
theorem dX10_lessens_48 : decode cX10_lessens 48 = .ok (.getfield 22, 3) := by decide +kernel
theorem dX10_lessens_51 : decode cX10_lessens 51 = .ok (.iload_n 1, 1) := by decide +kernel
theorem dX10_lessens_52 : decode cX10_lessens 52 = .ok (.iaload, 1) := by decide +kernel
theorem dX10_lessens_53 : decode cX10_lessens 53 = .ok (.ifCond .ne 7, 3) := by decide +kernel
theorem dX10_lessens_56 : decode cX10_lessens 56 = .ok (.iconst 1, 1) := by decide +kernel
theorem dX10_lessens_57 : decode cX10_lessens 57 = .ok (.goto 4, 3) := by decide +kernel
theorem dX10_lessens_60 : decode cX10_lessens 60 = .ok (.iconst 0, 1) := by decide +kernel
theorem dX10_lessens_61 : decode cX10_lessens 61 = .ok (.ireturn, 1) := by decide +kernel
set_option maxRecDepth 20000 in
theorem ggX10_falls_X10_square : GoodIn wsX10_falls wsX10_square := goodIn_r _ [11, 5, 6, 16, 17, 18, 19, 20, 21, 22, 23, 24, 25, 26, 27, 28, 29] (by decide +kernel) (by decide +kernel)
set_option maxRecDepth 20000 in
theorem gX10_falls_X10_square : GoodIn wsX10_falls (wsV RX10 60 RX10 yX10_square wsX10_square) := goodIn_app (goodIn_of _ (by decide +kernel)) ggX10_falls_X10_square
set_option maxRecDepth 20000 in
theorem ggX10_falls_X10_lessens : GoodIn wsX10_falls wsX10_lessens := goodIn_r _ [15, 4, 16, 17, 18, 19, 20, 21, 22, 23, 24, 25, 26, 27, 28, 29] (by decide +kernel) (by decide +kernel)
set_option maxRecDepth 20000 in
theorem gX10_falls_X10_lessens : GoodIn wsX10_falls (wsV RX10 64 RX10 yX10_lessens wsX10_lessens) := goodIn_app (goodIn_of _ (by decide +kernel)) ggX10_falls_X10_lessens
theorem dX10_falls_0 : decode cX10_falls 0 = .ok (.aload_n 0, 1) := by decide +kernel
theorem dX10_falls_1 : decode cX10_falls 1 = .ok (.getfield 7, 3) := by decide +kernel
theorem dX10_falls_4 : decode cX10_falls 4 = .ok (.bipush 16, 2) := by decide +kernel
theorem dX10_falls_6 : decode cX10_falls 6 = .ok (.iload_n 2, 1) := by decide +kernel
theorem dX10_falls_7 : decode cX10_falls 7 = .ok (.imul, 1) := by decide +kernel
theorem dX10_falls_8 : decode cX10_falls 8 = .ok (.iload_n 1, 1) := by decide +kernel
theorem dX10_falls_9 : decode cX10_falls 9 = .ok (.iadd, 1) := by decide +kernel
theorem dX10_falls_10 : decode cX10_falls 10 = .ok (.iaload, 1) := by decide +kernel
theorem dX10_falls_11 : decode cX10_falls 11 = .ok (.istore 4, 2) := by decide +kernel
theorem dX10_falls_13 : decode cX10_falls 13 = .ok (.iload 4, 2) := by decide +kernel
theorem dX10_falls_15 : decode cX10_falls 15 = .ok (.ifCond .ne 7, 3) := by decide +kernel
theorem dX10_falls_18 : decode cX10_falls 18 = .ok (.iload_n 3, 1) := by decide +kernel
theorem dX10_falls_19 : decode cX10_falls 19 = .ok (.goto 18, 3) := by decide +kernel
theorem dX10_falls_22 : decode cX10_falls 22 = .ok (.iload 4, 2) := by decide +kernel
theorem dX10_falls_24 : decode cX10_falls 24 = .ok (.iconst 1, 1) := by decide +kernel
theorem dX10_falls_25 : decode cX10_falls 25 = .ok (.if_icmp .ne 9, 3) := by decide +kernel
theorem dX10_falls_28 : decode cX10_falls 28 = .ok (.iload_n 3, 1) := by decide +kernel
theorem dX10_falls_29 : decode cX10_falls 29 = .ok (.iconst 1, 1) := by decide +kernel
theorem dX10_falls_30 : decode cX10_falls 30 = .ok (.isub, 1) := by decide +kernel
theorem dX10_falls_31 : decode cX10_falls 31 = .ok (.goto 6, 3) := by decide +kernel
theorem dX10_falls_34 : decode cX10_falls 34 = .ok (.iload_n 3, 1) := by decide +kernel
theorem dX10_falls_35 : decode cX10_falls 35 = .ok (.iconst 1, 1) := by decide +kernel
theorem dX10_falls_36 : decode cX10_falls 36 = .ok (.iadd, 1) := by decide +kernel
theorem dX10_falls_37 : decode cX10_falls 37 = .ok (.istore 5, 2) := by decide +kernel
theorem dX10_falls_39 : decode cX10_falls 39 = .ok (.iload 5, 2) := by decide +kernel
theorem dX10_falls_41 : decode cX10_falls 41 = .ok (.iconst 1, 1) := by decide +kernel
theorem dX10_falls_42 : decode cX10_falls 42 = .ok (.if_icmp .ge 7, 3) := by decide +kernel
theorem dX10_falls_45 : decode cX10_falls 45 = .ok (.iconst 1, 1) := by decide +kernel
theorem dX10_falls_46 : decode cX10_falls 46 = .ok (.goto 5, 3) := by decide +kernel
theorem dX10_falls_49 : decode cX10_falls 49 = .ok (.iload 5, 2) := by decide +kernel
theorem dX10_falls_51 : decode cX10_falls 51 = .ok (.istore 5, 2) := by decide +kernel
theorem dX10_falls_53 : decode cX10_falls 53 = .ok (.iconst 0, 1) := by decide +kernel
end
section
theorem dX10_falls_54 : decode cX10_falls 54 = .ok (.istore 6, 2) := by decide +kernel
theorem dX10_falls_56 : decode cX10_falls 56 = .ok (.iconst 0, 1) := by decide +kernel
theorem dX10_falls_57 : decode cX10_falls 57 = .ok (.istore 7, 2) := by decide +kernel
theorem dX10_falls_59 : decode cX10_falls 59 = .ok (.iload 7, 2) := by decide +kernel
theorem dX10_falls_61 : decode cX10_falls 61 = .ok (.aload_n 0, 1) := by decide +kernel
theorem dX10_falls_62 : decode cX10_falls 62 = .ok (.getfield 53, 3) := by decide +kernel
theorem dX10_falls_65 : decode cX10_falls 65 = .ok (.if_icmp .ge 126, 3) := by decide +kernel
theorem dX10_falls_68 : decode cX10_falls 68 = .ok (.aload_n 0, 1) := by decide +kernel
theorem dX10_falls_69 : decode cX10_falls 69 = .ok (.iload 7, 2) := by decide +kernel
theorem dX10_falls_71 : decode cX10_falls 71 = .ok (.iload_n 1, 1) := by decide +kernel
theorem dX10_falls_72 : decode cX10_falls 72 = .ok (.iload_n 2, 1) := by decide +kernel
theorem dX10_falls_73 : decode cX10_falls 73 = .ok (.invokevirtual 60, 3) := by decide +kernel
theorem dX10_falls_76 : decode cX10_falls 76 = .ok (.istore 8, 2) := by decide +kernel
theorem dX10_falls_78 : decode cX10_falls 78 = .ok (.aload_n 0, 1) := by decide +kernel
theorem dX10_falls_79 : decode cX10_falls 79 = .ok (.getfield 19, 3) := by decide +kernel
theorem dX10_falls_82 : decode cX10_falls 82 = .ok (.iload 7, 2) := by decide +kernel
theorem dX10_falls_84 : decode cX10_falls 84 = .ok (.iaload, 1) := by decide +kernel
theorem dX10_falls_85 : decode cX10_falls 85 = .ok (.iload 5, 2) := by decide +kernel
theorem dX10_falls_87 : decode cX10_falls 87 = .ok (.if_icmp .gt 17, 3) := by decide +kernel
theorem dX10_falls_90 : decode cX10_falls 90 = .ok (.iload 8, 2) := by decide +kernel
theorem dX10_falls_92 : decode cX10_falls 92 = .ok (.iload 5, 2) := by decide +kernel
theorem dX10_falls_94 : decode cX10_falls 94 = .ok (.iload 5, 2) := by decide +kernel
theorem dX10_falls_96 : decode cX10_falls 96 = .ok (.imul, 1) := by decide +kernel
theorem dX10_falls_97 : decode cX10_falls 97 = .ok (.if_icmp .gt 7, 3) := by decide +kernel
theorem dX10_falls_100 : decode cX10_falls 100 = .ok (.iconst 1, 1) := by decide +kernel
theorem dX10_falls_101 : decode cX10_falls 101 = .ok (.goto 4, 3) := by decide +kernel
theorem dX10_falls_104 : decode cX10_falls 104 = .ok (.iconst 0, 1) := by decide +kernel
theorem dX10_falls_105 : decode cX10_falls 105 = .ok (.istore 9, 2) := by decide +kernel
theorem dX10_falls_107 : decode cX10_falls 107 = .ok (.iload 8, 2) := by decide +kernel
theorem dX10_falls_109 : decode cX10_falls 109 = .ok (.aload_n 0, 1) := by decide +kernel
theorem dX10_falls_110 : decode cX10_falls 110 = .ok (.getfield 19, 3) := by decide +kernel
theorem dX10_falls_113 : decode cX10_falls 113 = .ok (.iload 7, 2) := by decide +kernel
theorem dX10_falls_115 : decode cX10_falls 115 = .ok (.iaload, 1) := by decide +kernel
theorem dX10_falls_116 : decode cX10_falls 116 = .ok (.iload 5, 2) := by decide +kernel
theorem dX10_falls_118 : decode cX10_falls 118 = .ok (.iadd, 1) := by decide +kernel
theorem dX10_falls_119 : decode cX10_falls 119 = .ok (.aload_n 0, 1) := by decide +kernel
theorem dX10_falls_120 : decode cX10_falls 120 = .ok (.getfield 19, 3) := by decide +kernel
theorem dX10_falls_123 : decode cX10_falls 123 = .ok (.iload 7, 2) := by decide +kernel
theorem dX10_falls_125 : decode cX10_falls 125 = .ok (.iaload, 1) := by decide +kernel
theorem dX10_falls_126 : decode cX10_falls 126 = .ok (.iload 5, 2) := by decide +kernel
theorem dX10_falls_128 : decode cX10_falls 128 = .ok (.iadd, 1) := by decide +kernel
theorem dX10_falls_129 : decode cX10_falls 129 = .ok (.imul, 1) := by decide +kernel
theorem dX10_falls_130 : decode cX10_falls 130 = .ok (.if_icmp .gt 7, 3) := by decide +kernel
theorem dX10_falls_133 : decode cX10_falls 133 = .ok (.iconst 1, 1) := by decide +kernel
theorem dX10_falls_134 : decode cX10_falls 134 = .ok (.goto 4, 3) := by decide +kernel
theorem dX10_falls_137 : decode cX10_falls 137 = .ok (.iconst 0, 1) := by decide +kernel
theorem dX10_falls_138 : decode cX10_falls 138 = .ok (.istore 10, 2) := by decide +kernel
theorem dX10_falls_140 : decode cX10_falls 140 = .ok (.iload 6, 2) := by decide +kernel
theorem dX10_falls_142 : decode cX10_falls 142 = .ok (.iload 9, 2) := by decide +kernel
theorem dX10_falls_144 : decode cX10_falls 144 = .ok (.ifCond .ne 8, 3) := by decide +kernel
theorem dX10_falls_147 : decode cX10_falls 147 = .ok (.iload 10, 2) := by decide +kernel
theorem dX10_falls_149 : decode cX10_falls 149 = .ok (.ifCond .eq 32, 3) := by decide +kernel
theorem dX10_falls_152 : decode cX10_falls 152 = .ok (.aload_n 0, 1) := by decide +kernel
theorem dX10_falls_153 : decode cX10_falls 153 = .ok (.iload 7, 2) := by decide +kernel
theorem dX10_falls_155 : decode cX10_falls 155 = .ok (.iload 9, 2) := by decide +kernel
theorem dX10_falls_157 : decode cX10_falls 157 = .ok (.ifCond .eq 13, 3) := by decide +kernel
theorem dX10_falls_160 : decode cX10_falls 160 = .ok (.aload_n 0, 1) := by decide +kernel
theorem dX10_falls_161 : decode cX10_falls 161 = .ok (.getfield 22, 3) := by decide +kernel
theorem dX10_falls_164 : decode cX10_falls 164 = .ok (.iload 7, 2) := by decide +kernel
theorem dX10_falls_166 : decode cX10_falls 166 = .ok (.iaload, 1) := by decide +kernel
theorem dX10_falls_167 : decode cX10_falls 167 = .ok (.goto 4, 3) := by decide +kernel
theorem dX10_falls_170 : decode cX10_falls 170 = .ok (.iload_n 3, 1) := by decide +kernel
theorem dX10_falls_171 : decode cX10_falls 171 = .ok (.invokevirtual 64, 3) := by decide +kernel
theorem dX10_falls_174 : decode cX10_falls 174 = .ok (.ifCond .eq 7, 3) := by decide +kernel
theorem dX10_falls_177 : decode cX10_falls 177 = .ok (.iconst 1, 1) := by decide +kernel
theorem dX10_falls_178 : decode cX10_falls 178 = .ok (.goto 4, 3) := by decide +kernel
theorem dX10_falls_181 : decode cX10_falls 181 = .ok (.iconst 0, 1) := by decide +kernel
theorem dX10_falls_182 : decode cX10_falls 182 = .ok (.iadd, 1) := by decide +kernel
theorem dX10_falls_183 : decode cX10_falls 183 = .ok (.istore 6, 2) := by decide +kernel
theorem dX10_falls_185 : decode cX10_falls 185 = .ok (.iinc 7 1, 3) := by decide +kernel
theorem dX10_falls_188 : decode cX10_falls 188 = .ok (.goto (-129), 3) := by decide +kernel
theorem dX10_falls_191 : decode cX10_falls 191 = .ok (.aload_n 0, 1) := by decide +kernel
theorem dX10_falls_192 : decode cX10_falls 192 = .ok (.getfield 13, 3) := by decide +kernel
theorem dX10_falls_195 : decode cX10_falls 195 = .ok (.aload_n 0, 1) := by decide +kernel
theorem dX10_falls_196 : decode cX10_falls 196 = .ok (.getfield 53, 3) := by decide +kernel
theorem dX10_falls_199 : decode cX10_falls 199 = .ok (.iload_n 1, 1) := by decide +kernel
theorem dX10_falls_200 : decode cX10_falls 200 = .ok (.iastore, 1) := by decide +kernel
theorem dX10_falls_201 : decode cX10_falls 201 = .ok (.aload_n 0, 1) := by decide +kernel
theorem dX10_falls_202 : decode cX10_falls 202 = .ok (.getfield 16, 3) := by decide +kernel
theorem dX10_falls_205 : decode cX10_falls 205 = .ok (.aload_n 0, 1) := by decide +kernel
theorem dX10_falls_206 : decode cX10_falls 206 = .ok (.getfield 53, 3) := by decide +kernel
theorem dX10_falls_209 : decode cX10_falls 209 = .ok (.iload_n 2, 1) := by decide +kernel
theorem dX10_falls_210 : decode cX10_falls 210 = .ok (.iastore, 1) := by decide +kernel
theorem dX10_falls_211 : decode cX10_falls 211 = .ok (.aload_n 0, 1) := by decide +kernel
theorem dX10_falls_212 : decode cX10_falls 212 = .ok (.getfield 19, 3) := by decide +kernel
theorem dX10_falls_215 : decode cX10_falls 215 = .ok (.aload_n 0, 1) := by decide +kernel
theorem dX10_falls_216 : decode cX10_falls 216 = .ok (.getfield 53, 3) := by decide +kernel
theorem dX10_falls_219 : decode cX10_falls 219 = .ok (.iload 5, 2) := by decide +kernel
theorem dX10_falls_221 : decode cX10_falls 221 = .ok (.iastore, 1) := by decide +kernel
theorem dX10_falls_222 : decode cX10_falls 222 = .ok (.aload_n 0, 1) := by decide +kernel
theorem dX10_falls_223 : decode cX10_falls 223 = .ok (.getfield 22, 3) := by decide +kernel
theorem dX10_falls_226 : decode cX10_falls 226 = .ok (.aload_n 0, 1) := by decide +kernel
theorem dX10_falls_227 : decode cX10_falls 227 = .ok (.getfield 53, 3) := by decide +kernel
theorem dX10_falls_230 : decode cX10_falls 230 = .ok (.iload_n 3, 1) := by decide +kernel
theorem dX10_falls_231 : decode cX10_falls 231 = .ok (.iload 4, 2) := by decide +kernel
theorem dX10_falls_233 : decode cX10_falls 233 = .ok (.ifCond .ne 7, 3) := by decide +kernel
theorem dX10_falls_236 : decode cX10_falls 236 = .ok (.iconst 4, 1) := by decide +kernel
theorem dX10_falls_237 : decode cX10_falls 237 = .ok (.goto 14, 3) := by decide +kernel
theorem dX10_falls_240 : decode cX10_falls 240 = .ok (.iload 4, 2) := by decide +kernel
theorem dX10_falls_242 : decode cX10_falls 242 = .ok (.iconst 1, 1) := by decide +kernel
theorem dX10_falls_243 : decode cX10_falls 243 = .ok (.if_icmp .ne 7, 3) := by decide +kernel
theorem dX10_falls_246 : decode cX10_falls 246 = .ok (.iconst 3, 1) := by decide +kernel
theorem dX10_falls_247 : decode cX10_falls 247 = .ok (.goto 4, 3) := by decide +kernel
theorem dX10_falls_250 : decode cX10_falls 250 = .ok (.iconst 5, 1) := by decide +kernel
theorem dX10_falls_251 : decode cX10_falls 251 = .ok (.imul, 1) := by decide +kernel
theorem dX10_falls_252 : decode cX10_falls 252 = .ok (.iastore, 1) := by decide +kernel
theorem dX10_falls_253 : decode cX10_falls 253 = .ok (.aload_n 0, 1) := by decide +kernel
theorem dX10_falls_254 : decode cX10_falls 254 = .ok (.dup, 1) := by decide +kernel
theorem dX10_falls_255 : decode cX10_falls 255 = .ok (.getfield 53, 3) := by decide +kernel
theorem dX10_falls_258 : decode cX10_falls 258 = .ok (.iconst 1, 1) := by decide +kernel
theorem dX10_falls_259 : decode cX10_falls 259 = .ok (.iadd, 1) := by decide +kernel
theorem dX10_falls_260 : decode cX10_falls 260 = .ok (.putfield 53, 3) := by decide +kernel
theorem dX10_falls_263 : decode cX10_falls 263 = .ok (.iload 6, 2) := by decide +kernel
theorem dX10_falls_265 : decode cX10_falls 265 = .ok (.ireturn, 1) := by decide +kernel
set_option maxRecDepth 20000 in
theorem ggX10_stone_X10_isCell : GoodIn wsX10_stone wsX10_isCell := goodIn_r _ [5, 6, 7, 4, 8] (by decide +kernel) (by decide +kernel)
set_option maxRecDepth 20000 in
theorem gX10_stone_X10_isCell : GoodIn wsX10_stone (va_wsS RX10 46 yX10_isCell wsX10_isCell) := goodIn_app (goodIn_of _ (by decide +kernel)) ggX10_stone_X10_isCell
set_option maxRecDepth 20000 in
theorem ggX10_stone_X10_isIn : GoodIn wsX10_stone wsX10_isIn := goodIn_r _ [8] (by decide +kernel) (by decide +kernel)
set_option maxRecDepth 20000 in
theorem gX10_stone_X10_isIn : GoodIn wsX10_stone (va_wsS RX10 42 yX10_isIn wsX10_isIn) := goodIn_app (goodIn_of _ (by decide +kernel)) ggX10_stone_X10_isIn
set_option maxRecDepth 20000 in
theorem ggX10_stone_X10_can : GoodIn wsX10_stone wsX10_can := goodIn_r _ [12, 13, 31, 32, 33, 34, 35, 36, 37, 38, 39, 40, 41, 42, 43, 44] (by decide +kernel) (by decide +kernel)
set_option maxRecDepth 20000 in
theorem gX10_stone_X10_can : GoodIn wsX10_stone (wsV RX10 56 RX10 yX10_can wsX10_can) := goodIn_app (goodIn_of _ (by decide +kernel)) ggX10_stone_X10_can
set_option maxRecDepth 20000 in
theorem ggX10_stone_X10_falls : GoodIn wsX10_stone wsX10_falls := goodIn_r _ [17, 18, 1, 19, 20, 21, 22, 23, 24, 25, 4, 26, 27, 28, 29, 30, 31, 32, 33, 34, 35, 36, 37, 38, 39, 40, 41, 42, 43, 44] (by decide +kernel) (by decide +kernel)
set_option maxRecDepth 20000 in
theorem gX10_stone_X10_falls : GoodIn wsX10_stone (wsV RX10 67 RX10 yX10_falls wsX10_falls) := goodIn_app (goodIn_of _ (by decide +kernel)) ggX10_stone_X10_falls
theorem dX10_stone_0 : decode cX10_stone 0 = .ok (.iload_n 1, 1) := by decide +kernel
theorem dX10_stone_1 : decode cX10_stone 1 = .ok (.iload_n 2, 1) := by decide +kernel
theorem dX10_stone_2 : decode cX10_stone 2 = .ok (.invokestatic 46, 3) := by decide +kernel
theorem dX10_stone_5 : decode cX10_stone 5 = .ok (.istore 4, 2) := by decide +kernel
theorem dX10_stone_7 : decode cX10_stone 7 = .ok (.iload_n 3, 1) := by decide +kernel
theorem dX10_stone_8 : decode cX10_stone 8 = .ok (.iconst 1, 1) := by decide +kernel
theorem dX10_stone_9 : decode cX10_stone 9 = .ok (.bipush 6, 2) := by decide +kernel
theorem dX10_stone_11 : decode cX10_stone 11 = .ok (.invokestatic 42, 3) := by decide +kernel
theorem dX10_stone_14 : decode cX10_stone 14 = .ok (.istore 5, 2) := by decide +kernel
theorem dX10_stone_16 : decode cX10_stone 16 = .ok (.aload_n 0, 1) := by decide +kernel
theorem dX10_stone_17 : decode cX10_stone 17 = .ok (.iload 4, 2) := by decide +kernel
theorem dX10_stone_19 : decode cX10_stone 19 = .ok (.ifCond .ne 7, 3) := by decide +kernel
theorem dX10_stone_22 : decode cX10_stone 22 = .ok (.iconst 1, 1) := by decide +kernel
theorem dX10_stone_23 : decode cX10_stone 23 = .ok (.goto 27, 3) := by decide +kernel
theorem dX10_stone_26 : decode cX10_stone 26 = .ok (.iload 5, 2) := by decide +kernel
theorem dX10_stone_28 : decode cX10_stone 28 = .ok (.ifCond .ne 7, 3) := by decide +kernel
theorem dX10_stone_31 : decode cX10_stone 31 = .ok (.iconst 2, 1) := by decide +kernel
theorem dX10_stone_32 : decode cX10_stone 32 = .ok (.goto 18, 3) := by decide +kernel
theorem dX10_stone_35 : decode cX10_stone 35 = .ok (.aload_n 0, 1) := by decide +kernel
theorem dX10_stone_36 : decode cX10_stone 36 = .ok (.getfield 53, 3) := by decide +kernel
theorem dX10_stone_39 : decode cX10_stone 39 = .ok (.sipush 200, 3) := by decide +kernel
theorem dX10_stone_42 : decode cX10_stone 42 = .ok (.if_icmp .ne 7, 3) := by decide +kernel
theorem dX10_stone_45 : decode cX10_stone 45 = .ok (.iconst 3, 1) := by decide +kernel
theorem dX10_stone_46 : decode cX10_stone 46 = .ok (.goto 4, 3) := by decide +kernel
theorem dX10_stone_49 : decode cX10_stone 49 = .ok (.iconst 0, 1) := by decide +kernel
theorem dX10_stone_50 : decode cX10_stone 50 = .ok (.invokevirtual 56, 3) := by decide +kernel
theorem dX10_stone_53 : decode cX10_stone 53 = .ok (.ifCond .eq 13, 3) := by decide +kernel
theorem dX10_stone_56 : decode cX10_stone 56 = .ok (.aload_n 0, 1) := by decide +kernel
theorem dX10_stone_57 : decode cX10_stone 57 = .ok (.iload_n 1, 1) := by decide +kernel
theorem dX10_stone_58 : decode cX10_stone 58 = .ok (.iload_n 2, 1) := by decide +kernel
theorem dX10_stone_59 : decode cX10_stone 59 = .ok (.iload_n 3, 1) := by decide +kernel
theorem dX10_stone_60 : decode cX10_stone 60 = .ok (.invokevirtual 67, 3) := by decide +kernel
theorem dX10_stone_63 : decode cX10_stone 63 = .ok (.goto 4, 3) := by decide +kernel
theorem dX10_stone_66 : decode cX10_stone 66 = .ok (.iconst 0, 1) := by decide +kernel
theorem dX10_stone_67 : decode cX10_stone 67 = .ok (.ireturn, 1) := by decide +kernel
set_option maxRecDepth 20000 in
theorem ggX10_draw_X10_isIn : GoodIn wsX10_draw wsX10_isIn := goodIn_r _ [6] (by decide +kernel) (by decide +kernel)
set_option maxRecDepth 20000 in
theorem gX10_draw_X10_isIn : GoodIn wsX10_draw (va_wsS RX10 42 yX10_isIn wsX10_isIn) := goodIn_app (goodIn_of _ (by decide +kernel)) ggX10_draw_X10_isIn
set_option maxRecDepth 20000 in
theorem ggX10_draw_X10_can : GoodIn wsX10_draw wsX10_can := goodIn_r _ [10, 11, 12, 13, 14, 15, 16, 17, 18, 19, 20, 21, 22, 23, 24, 25] (by decide +kernel) (by decide +kernel)
set_option maxRecDepth 20000 in
theorem gX10_draw_X10_can : GoodIn wsX10_draw (wsV RX10 56 RX10 yX10_can wsX10_can) := goodIn_app (goodIn_of _ (by decide +kernel)) ggX10_draw_X10_can
theorem dX10_draw_0 : decode cX10_draw 0 = .ok (.aload_n 0, 1) := by decide +kernel
theorem dX10_draw_1 : decode cX10_draw 1 = .ok (.iload_n 1, 1) := by decide +kernel
theorem dX10_draw_2 : decode cX10_draw 2 = .ok (.iconst 1, 1) := by decide +kernel
theorem dX10_draw_3 : decode cX10_draw 3 = .ok (.ldc 70, 2) := by decide +kernel
theorem dX10_draw_5 : decode cX10_draw 5 = .ok (.invokestatic 42, 3) := by decide +kernel
theorem dX10_draw_8 : decode cX10_draw 8 = .ok (.ifCond .eq 7, 3) := by decide +kernel
theorem dX10_draw_11 : decode cX10_draw 11 = .ok (.iconst 0, 1) := by decide +kernel
theorem dX10_draw_12 : decode cX10_draw 12 = .ok (.goto 4, 3) := by decide +kernel
theorem dX10_draw_15 : decode cX10_draw 15 = .ok (.iconst 1, 1) := by decide +kernel
theorem dX10_draw_16 : decode cX10_draw 16 = .ok (.invokevirtual 56, 3) := by decide +kernel
theorem dX10_draw_19 : decode cX10_draw 19 = .ok (.ifCond .ne 5, 3) := by decide +kernel
theorem dX10_draw_22 : decode cX10_draw 22 = .ok (.iconst 0, 1) := by decide +kernel
theorem dX10_draw_23 : decode cX10_draw 23 = .ok (.ireturn, 1) := by decide +kernel
theorem dX10_draw_24 : decode cX10_draw 24 = .ok (.aload_n 0, 1) := by decide +kernel
theorem dX10_draw_25 : decode cX10_draw 25 = .ok (.getfield 25, 3) := by decide +kernel
theorem dX10_draw_28 : decode cX10_draw 28 = .ok (.istore_n 2, 1) := by decide +kernel
theorem dX10_draw_29 : decode cX10_draw 29 = .ok (.aload_n 0, 1) := by decide +kernel
theorem dX10_draw_30 : decode cX10_draw 30 = .ok (.iload_n 1, 1) := by decide +kernel
theorem dX10_draw_31 : decode cX10_draw 31 = .ok (.putfield 25, 3) := by decide +kernel
theorem dX10_draw_34 : decode cX10_draw 34 = .ok (.iload_n 2, 1) := by decide +kernel
theorem dX10_draw_35 : decode cX10_draw 35 = .ok (.ireturn, 1) := by decide +kernel
theorem dX10_draws_0 : decode cX10_draws 0 = .ok (.aload_n 0, 1) := by decide +kernel
theorem dX10_draws_1 : decode cX10_draws 1 = .ok (.bipush 75, 2) := by decide +kernel
theorem dX10_draws_3 : decode cX10_draws 3 = .ok (.aload_n 0, 1) := by decide +kernel
theorem dX10_draws_4 : decode cX10_draws 4 = .ok (.getfield 25, 3) := by decide +kernel
theorem dX10_draws_7 : decode cX10_draws 7 = .ok (.imul, 1) := by decide +kernel
theorem dX10_draws_8 : decode cX10_draws 8 = .ok (.bipush 74, 2) := by decide +kernel
theorem dX10_draws_10 : decode cX10_draws 10 = .ok (.iadd, 1) := by decide +kernel
theorem dX10_draws_11 : decode cX10_draws 11 = .ok (.ldc 71, 2) := by decide +kernel
theorem dX10_draws_13 : decode cX10_draws 13 = .ok (.irem, 1) := by decide +kernel
theorem dX10_draws_14 : decode cX10_draws 14 = .ok (.putfield 25, 3) := by decide +kernel
theorem dX10_draws_17 : decode cX10_draws 17 = .ok (.aload_n 0, 1) := by decide +kernel
theorem dX10_draws_18 : decode cX10_draws 18 = .ok (.getfield 25, 3) := by decide +kernel
theorem dX10_draws_21 : decode cX10_draws 21 = .ok (.iload_n 1, 1) := by decide +kernel
theorem dX10_draws_22 : decode cX10_draws 22 = .ok (.irem, 1) := by decide +kernel
theorem dX10_draws_23 : decode cX10_draws 23 = .ok (.ireturn, 1) := by decide +kernel
theorem dX10_sizeBy_0 : decode cX10_sizeBy 0 = .ok (.iload_n 0, 1) := by decide +kernel
theorem dX10_sizeBy_1 : decode cX10_sizeBy 1 = .ok (.bipush 40, 2) := by decide +kernel
theorem dX10_sizeBy_3 : decode cX10_sizeBy 3 = .ok (.if_icmp .ge 7, 3) := by decide +kernel
theorem dX10_sizeBy_6 : decode cX10_sizeBy 6 = .ok (.iconst 1, 1) := by decide +kernel
theorem dX10_sizeBy_7 : decode cX10_sizeBy 7 = .ok (.goto 45, 3) := by decide +kernel
theorem dX10_sizeBy_10 : decode cX10_sizeBy 10 = .ok (.iload_n 0, 1) := by decide +kernel
theorem dX10_sizeBy_11 : decode cX10_sizeBy 11 = .ok (.bipush 52, 2) := by decide +kernel
theorem dX10_sizeBy_13 : decode cX10_sizeBy 13 = .ok (.if_icmp .ge 7, 3) := by decide +kernel
theorem dX10_sizeBy_16 : decode cX10_sizeBy 16 = .ok (.iconst 2, 1) := by decide +kernel
theorem dX10_sizeBy_17 : decode cX10_sizeBy 17 = .ok (.goto 35, 3) := by decide +kernel
theorem dX10_sizeBy_20 : decode cX10_sizeBy 20 = .ok (.iload_n 0, 1) := by decide +kernel
theorem dX10_sizeBy_21 : decode cX10_sizeBy 21 = .ok (.bipush 58, 2) := by decide +kernel
theorem dX10_sizeBy_23 : decode cX10_sizeBy 23 = .ok (.if_icmp .ge 7, 3) := by decide +kernel
theorem dX10_sizeBy_26 : decode cX10_sizeBy 26 = .ok (.iconst 3, 1) := by decide +kernel
theorem dX10_sizeBy_27 : decode cX10_sizeBy 27 = .ok (.goto 25, 3) := by decide +kernel
theorem dX10_sizeBy_30 : decode cX10_sizeBy 30 = .ok (.iload_n 0, 1) := by decide +kernel
theorem dX10_sizeBy_31 : decode cX10_sizeBy 31 = .ok (.bipush 61, 2) := by decide +kernel
theorem dX10_sizeBy_33 : decode cX10_sizeBy 33 = .ok (.if_icmp .ge 7, 3) := by decide +kernel
theorem dX10_sizeBy_36 : decode cX10_sizeBy 36 = .ok (.iconst 4, 1) := by decide +kernel
theorem dX10_sizeBy_37 : decode cX10_sizeBy 37 = .ok (.goto 15, 3) := by decide +kernel
theorem dX10_sizeBy_40 : decode cX10_sizeBy 40 = .ok (.iload_n 0, 1) := by decide +kernel
theorem dX10_sizeBy_41 : decode cX10_sizeBy 41 = .ok (.bipush 63, 2) := by decide +kernel
theorem dX10_sizeBy_43 : decode cX10_sizeBy 43 = .ok (.if_icmp .ge 7, 3) := by decide +kernel
theorem dX10_sizeBy_46 : decode cX10_sizeBy 46 = .ok (.iconst 5, 1) := by decide +kernel
theorem dX10_sizeBy_47 : decode cX10_sizeBy 47 = .ok (.goto 5, 3) := by decide +kernel
theorem dX10_sizeBy_50 : decode cX10_sizeBy 50 = .ok (.bipush 6, 2) := by decide +kernel
theorem dX10_sizeBy_52 : decode cX10_sizeBy 52 = .ok (.ireturn, 1) := by decide +kernel
theorem dX10_left_0 : decode cX10_left 0 = .ok (.iconst 0, 1) := by decide +kernel
theorem dX10_left_1 : decode cX10_left 1 = .ok (.istore_n 1, 1) := by decide +kernel
theorem dX10_left_2 : decode cX10_left 2 = .ok (.iconst 0, 1) := by decide +kernel
theorem dX10_left_3 : decode cX10_left 3 = .ok (.istore_n 2, 1) := by decide +kernel
theorem dX10_left_4 : decode cX10_left 4 = .ok (.iload_n 2, 1) := by decide +kernel
theorem dX10_left_5 : decode cX10_left 5 = .ok (.aload_n 0, 1) := by decide +kernel
theorem dX10_left_6 : decode cX10_left 6 = .ok (.getfield 53, 3) := by decide +kernel
theorem dX10_left_9 : decode cX10_left 9 = .ok (.if_icmp .ge 26, 3) := by decide +kernel
theorem dX10_left_12 : decode cX10_left 12 = .ok (.iload_n 1, 1) := by decide +kernel
theorem dX10_left_13 : decode cX10_left 13 = .ok (.aload_n 0, 1) := by decide +kernel
theorem dX10_left_14 : decode cX10_left 14 = .ok (.getfield 22, 3) := by decide +kernel
theorem dX10_left_17 : decode cX10_left 17 = .ok (.iload_n 2, 1) := by decide +kernel
theorem dX10_left_18 : decode cX10_left 18 = .ok (.iaload, 1) := by decide +kernel
theorem dX10_left_19 : decode cX10_left 19 = .ok (.ifCond .le 7, 3) := by decide +kernel
theorem dX10_left_22 : decode cX10_left 22 = .ok (.iconst 1, 1) := by decide +kernel
theorem dX10_left_23 : decode cX10_left 23 = .ok (.goto 4, 3) := by decide +kernel
theorem dX10_left_26 : decode cX10_left 26 = .ok (.iconst 0, 1) := by decide +kernel
theorem dX10_left_27 : decode cX10_left 27 = .ok (.iadd, 1) := by decide +kernel
theorem dX10_left_28 : decode cX10_left 28 = .ok (.istore_n 1, 1) := by decide +kernel
theorem dX10_left_29 : decode cX10_left 29 = .ok (.iinc 2 1, 3) := by decide +kernel
theorem dX10_left_32 : decode cX10_left 32 = .ok (.goto (-28), 3) := by decide +kernel
theorem dX10_left_35 : decode cX10_left 35 = .ok (.iload_n 1, 1) := by decide +kernel
theorem dX10_left_36 : decode cX10_left 36 = .ok (.ireturn, 1) := by decide +kernel
set_option maxRecDepth 20000 in
theorem ggX10_rain_X10_isIn : GoodIn wsX10_rain wsX10_isIn := goodIn_r _ [5] (by decide +kernel) (by decide +kernel)
set_option maxRecDepth 20000 in
theorem gX10_rain_X10_isIn : GoodIn wsX10_rain (va_wsS RX10 42 yX10_isIn wsX10_isIn) := goodIn_app (goodIn_of _ (by decide +kernel)) ggX10_rain_X10_isIn
set_option maxRecDepth 20000 in
theorem ggX10_rain_X10_can : GoodIn wsX10_rain wsX10_can := goodIn_r _ [9, 10, 41, 42, 43, 44, 45, 46, 47, 48, 49, 50, 51, 52, 53, 54] (by decide +kernel) (by decide +kernel)
set_option maxRecDepth 20000 in
theorem gX10_rain_X10_can : GoodIn wsX10_rain (wsV RX10 56 RX10 yX10_can wsX10_can) := goodIn_app (goodIn_of _ (by decide +kernel)) ggX10_rain_X10_can
set_option maxRecDepth 20000 in
theorem ggX10_rain_X10_draws : GoodIn wsX10_rain wsX10_draws := goodIn_r _ [14, 15, 16, 41, 42, 43, 44, 45, 46, 47, 48, 49, 50, 51, 52, 53, 54] (by decide +kernel) (by decide +kernel)
set_option maxRecDepth 20000 in
theorem gX10_rain_X10_draws : GoodIn wsX10_rain (wsV RX10 72 RX10 yX10_draws wsX10_draws) := goodIn_app (goodIn_of _ (by decide +kernel)) ggX10_rain_X10_draws
set_option maxRecDepth 20000 in
theorem ggX10_rain_X10_sizeBy : GoodIn wsX10_rain wsX10_sizeBy := goodIn_r _ [19] (by decide +kernel) (by decide +kernel)
set_option maxRecDepth 20000 in
theorem gX10_rain_X10_sizeBy : GoodIn wsX10_rain (va_wsS RX10 76 yX10_sizeBy wsX10_sizeBy) := goodIn_app (goodIn_of _ (by decide +kernel)) ggX10_rain_X10_sizeBy
set_option maxRecDepth 20000 in
theorem ggX10_rain_X10_falls : GoodIn wsX10_rain wsX10_falls := goodIn_r _ [23, 24, 1, 25, 26, 27, 28, 29, 30, 31, 4, 32, 33, 34, 35, 36, 41, 42, 43, 44, 45, 46, 47, 48, 49, 50, 51, 52, 53, 54] (by decide +kernel) (by decide +kernel)
set_option maxRecDepth 20000 in
theorem gX10_rain_X10_falls : GoodIn wsX10_rain (wsV RX10 67 RX10 yX10_falls wsX10_falls) := goodIn_app (goodIn_of _ (by decide +kernel)) ggX10_rain_X10_falls
set_option maxRecDepth 20000 in
theorem ggX10_rain_X10_left : GoodIn wsX10_rain wsX10_left := goodIn_r _ [40, 1, 26, 41, 42, 43, 44, 45, 46, 47, 48, 49, 50, 51, 52, 53, 54] (by decide +kernel) (by decide +kernel)
set_option maxRecDepth 20000 in
theorem gX10_rain_X10_left : GoodIn wsX10_rain (wsV RX10 79 RX10 yX10_left wsX10_left) := goodIn_app (goodIn_of _ (by decide +kernel)) ggX10_rain_X10_left
theorem dX10_rain_0 : decode cX10_rain 0 = .ok (.aload_n 0, 1) := by decide +kernel
theorem dX10_rain_1 : decode cX10_rain 1 = .ok (.iload_n 1, 1) := by decide +kernel
theorem dX10_rain_2 : decode cX10_rain 2 = .ok (.iconst 1, 1) := by decide +kernel
theorem dX10_rain_3 : decode cX10_rain 3 = .ok (.bipush 30, 2) := by decide +kernel
theorem dX10_rain_5 : decode cX10_rain 5 = .ok (.invokestatic 42, 3) := by decide +kernel
theorem dX10_rain_8 : decode cX10_rain 8 = .ok (.ifCond .ne 7, 3) := by decide +kernel
theorem dX10_rain_11 : decode cX10_rain 11 = .ok (.iconst 1, 1) := by decide +kernel
theorem dX10_rain_12 : decode cX10_rain 12 = .ok (.goto 20, 3) := by decide +kernel
theorem dX10_rain_15 : decode cX10_rain 15 = .ok (.aload_n 0, 1) := by decide +kernel
theorem dX10_rain_16 : decode cX10_rain 16 = .ok (.getfield 53, 3) := by decide +kernel
theorem dX10_rain_19 : decode cX10_rain 19 = .ok (.iload_n 1, 1) := by decide +kernel
theorem dX10_rain_20 : decode cX10_rain 20 = .ok (.iadd, 1) := by decide +kernel
theorem dX10_rain_21 : decode cX10_rain 21 = .ok (.sipush 200, 3) := by decide +kernel
theorem dX10_rain_24 : decode cX10_rain 24 = .ok (.if_icmp .le 7, 3) := by decide +kernel
theorem dX10_rain_27 : decode cX10_rain 27 = .ok (.iconst 2, 1) := by decide +kernel
theorem dX10_rain_28 : decode cX10_rain 28 = .ok (.goto 4, 3) := by decide +kernel
theorem dX10_rain_31 : decode cX10_rain 31 = .ok (.iconst 0, 1) := by decide +kernel
theorem dX10_rain_32 : decode cX10_rain 32 = .ok (.invokevirtual 56, 3) := by decide +kernel
theorem dX10_rain_35 : decode cX10_rain 35 = .ok (.ifCond .ne 5, 3) := by decide +kernel
theorem dX10_rain_38 : decode cX10_rain 38 = .ok (.iconst 0, 1) := by decide +kernel
theorem dX10_rain_39 : decode cX10_rain 39 = .ok (.ireturn, 1) := by decide +kernel
theorem dX10_rain_40 : decode cX10_rain 40 = .ok (.iconst 0, 1) := by decide +kernel
theorem dX10_rain_41 : decode cX10_rain 41 = .ok (.istore_n 2, 1) := by decide +kernel
theorem dX10_rain_42 : decode cX10_rain 42 = .ok (.iload_n 2, 1) := by decide +kernel
theorem dX10_rain_43 : decode cX10_rain 43 = .ok (.iload_n 1, 1) := by decide +kernel
theorem dX10_rain_44 : decode cX10_rain 44 = .ok (.if_icmp .ge 46, 3) := by decide +kernel
theorem dX10_rain_47 : decode cX10_rain 47 = .ok (.aload_n 0, 1) := by decide +kernel
theorem dX10_rain_48 : decode cX10_rain 48 = .ok (.bipush 16, 2) := by decide +kernel
theorem dX10_rain_50 : decode cX10_rain 50 = .ok (.invokevirtual 72, 3) := by decide +kernel
theorem dX10_rain_53 : decode cX10_rain 53 = .ok (.istore_n 3, 1) := by decide +kernel
theorem dX10_rain_54 : decode cX10_rain 54 = .ok (.aload_n 0, 1) := by decide +kernel
theorem dX10_rain_55 : decode cX10_rain 55 = .ok (.bipush 16, 2) := by decide +kernel
theorem dX10_rain_57 : decode cX10_rain 57 = .ok (.invokevirtual 72, 3) := by decide +kernel
theorem dX10_rain_60 : decode cX10_rain 60 = .ok (.istore 4, 2) := by decide +kernel
theorem dX10_rain_62 : decode cX10_rain 62 = .ok (.aload_n 0, 1) := by decide +kernel
theorem dX10_rain_63 : decode cX10_rain 63 = .ok (.bipush 64, 2) := by decide +kernel
theorem dX10_rain_65 : decode cX10_rain 65 = .ok (.invokevirtual 72, 3) := by decide +kernel
theorem dX10_rain_68 : decode cX10_rain 68 = .ok (.istore 5, 2) := by decide +kernel
theorem dX10_rain_70 : decode cX10_rain 70 = .ok (.aload_n 0, 1) := by decide +kernel
theorem dX10_rain_71 : decode cX10_rain 71 = .ok (.iload_n 3, 1) := by decide +kernel
theorem dX10_rain_72 : decode cX10_rain 72 = .ok (.iload 4, 2) := by decide +kernel
theorem dX10_rain_74 : decode cX10_rain 74 = .ok (.iload 5, 2) := by decide +kernel
theorem dX10_rain_76 : decode cX10_rain 76 = .ok (.invokestatic 76, 3) := by decide +kernel
theorem dX10_rain_79 : decode cX10_rain 79 = .ok (.invokevirtual 67, 3) := by decide +kernel
theorem dX10_rain_82 : decode cX10_rain 82 = .ok (.istore 6, 2) := by decide +kernel
theorem dX10_rain_84 : decode cX10_rain 84 = .ok (.iinc 2 1, 3) := by decide +kernel
theorem dX10_rain_87 : decode cX10_rain 87 = .ok (.goto (-45), 3) := by decide +kernel
theorem dX10_rain_90 : decode cX10_rain 90 = .ok (.aload_n 0, 1) := by decide +kernel
theorem dX10_rain_91 : decode cX10_rain 91 = .ok (.invokevirtual 79, 3) := by decide +kernel
theorem dX10_rain_94 : decode cX10_rain 94 = .ok (.ireturn, 1) := by decide +kernel
set_option maxRecDepth 20000 in
theorem ggX10_isWithin_X10_isIn : GoodIn wsX10_isWithin wsX10_isIn := goodIn_r _ [6] (by decide +kernel) (by decide +kernel)
set_option maxRecDepth 20000 in
theorem gX10_isWithin_X10_isIn : GoodIn wsX10_isWithin (va_wsS RX10 42 yX10_isIn wsX10_isIn) := goodIn_app (goodIn_of _ (by decide +kernel)) ggX10_isWithin_X10_isIn
theorem dX10_isWithin_0 : decode cX10_isWithin 0 = .ok (.aload_n 0, 1) := by decide +kernel
theorem dX10_isWithin_1 : decode cX10_isWithin 1 = .ok (.getfield 13, 3) := by decide +kernel
theorem dX10_isWithin_4 : decode cX10_isWithin 4 = .ok (.iload_n 1, 1) := by decide +kernel
theorem dX10_isWithin_5 : decode cX10_isWithin 5 = .ok (.iaload, 1) := by decide +kernel
theorem dX10_isWithin_6 : decode cX10_isWithin 6 = .ok (.iload_n 2, 1) := by decide +kernel
theorem dX10_isWithin_7 : decode cX10_isWithin 7 = .ok (.iload 4, 2) := by decide +kernel
theorem dX10_isWithin_9 : decode cX10_isWithin 9 = .ok (.invokestatic 42, 3) := by decide +kernel
theorem dX10_isWithin_12 : decode cX10_isWithin 12 = .ok (.ifCond .eq 22, 3) := by decide +kernel
theorem dX10_isWithin_15 : decode cX10_isWithin 15 = .ok (.aload_n 0, 1) := by decide +kernel
theorem dX10_isWithin_16 : decode cX10_isWithin 16 = .ok (.getfield 16, 3) := by decide +kernel
theorem dX10_isWithin_19 : decode cX10_isWithin 19 = .ok (.iload_n 1, 1) := by decide +kernel
theorem dX10_isWithin_20 : decode cX10_isWithin 20 = .ok (.iaload, 1) := by decide +kernel
theorem dX10_isWithin_21 : decode cX10_isWithin 21 = .ok (.iload_n 3, 1) := by decide +kernel
theorem dX10_isWithin_22 : decode cX10_isWithin 22 = .ok (.iload 5, 2) := by decide +kernel
theorem dX10_isWithin_24 : decode cX10_isWithin 24 = .ok (.invokestatic 42, 3) := by decide +kernel
theorem dX10_isWithin_27 : decode cX10_isWithin 27 = .ok (.ifCond .eq 7, 3) := by decide +kernel
theorem dX10_isWithin_30 : decode cX10_isWithin 30 = .ok (.iconst 1, 1) := by decide +kernel
theorem dX10_isWithin_31 : decode cX10_isWithin 31 = .ok (.goto 4, 3) := by decide +kernel
theorem dX10_isWithin_34 : decode cX10_isWithin 34 = .ok (.iconst 0, 1) := by decide +kernel
theorem dX10_isWithin_35 : decode cX10_isWithin 35 = .ok (.ireturn, 1) := by decide +kernel
set_option maxRecDepth 20000 in
theorem ggX10_flood_X10_areCells : GoodIn wsX10_flood wsX10_areCells := goodIn_r _ [6, 7, 8, 5, 9, 10, 11, 12] (by decide +kernel) (by decide +kernel)
set_option maxRecDepth 20000 in
theorem gX10_flood_X10_areCells : GoodIn wsX10_flood (va_wsS RX10 83 yX10_areCells wsX10_areCells) := goodIn_app (goodIn_of _ (by decide +kernel)) ggX10_flood_X10_areCells
set_option maxRecDepth 20000 in
theorem ggX10_flood_X10_isIn : GoodIn wsX10_flood wsX10_isIn := goodIn_r _ [12] (by decide +kernel) (by decide +kernel)
set_option maxRecDepth 20000 in
theorem gX10_flood_X10_isIn : GoodIn wsX10_flood (va_wsS RX10 42 yX10_isIn wsX10_isIn) := goodIn_app (goodIn_of _ (by decide +kernel)) ggX10_flood_X10_isIn
set_option maxRecDepth 20000 in
theorem ggX10_flood_X10_can : GoodIn wsX10_flood wsX10_can := goodIn_r _ [16, 17, 29, 30, 31, 32, 33, 34, 35, 36, 37, 38, 39, 40, 41, 42] (by decide +kernel) (by decide +kernel)
set_option maxRecDepth 20000 in
theorem gX10_flood_X10_can : GoodIn wsX10_flood (wsV RX10 56 RX10 yX10_can wsX10_can) := goodIn_app (goodIn_of _ (by decide +kernel)) ggX10_flood_X10_can
set_option maxRecDepth 20000 in
theorem ggX10_flood_X10_isWithin : GoodIn wsX10_flood wsX10_isWithin := goodIn_r _ [21, 22, 23, 10, 11, 5, 12, 29, 30, 31, 32, 33, 34, 35, 36, 37, 38, 39, 40, 41, 42] (by decide +kernel) (by decide +kernel)
set_option maxRecDepth 20000 in
theorem gX10_flood_X10_isWithin : GoodIn wsX10_flood (wsV RX10 90 RX10 yX10_isWithin wsX10_isWithin) := goodIn_app (goodIn_of _ (by decide +kernel)) ggX10_flood_X10_isWithin
set_option maxRecDepth 20000 in
theorem ggX10_flood_X10_lessens : GoodIn wsX10_flood wsX10_lessens := goodIn_r _ [27, 28, 29, 30, 31, 32, 33, 34, 35, 36, 37, 38, 39, 40, 41, 42] (by decide +kernel) (by decide +kernel)
set_option maxRecDepth 20000 in
theorem gX10_flood_X10_lessens : GoodIn wsX10_flood (wsV RX10 64 RX10 yX10_lessens wsX10_lessens) := goodIn_app (goodIn_of _ (by decide +kernel)) ggX10_flood_X10_lessens
theorem dX10_flood_0 : decode cX10_flood 0 = .ok (.iload_n 1, 1) := by decide +kernel
theorem dX10_flood_1 : decode cX10_flood 1 = .ok (.iload_n 2, 1) := by decide +kernel
theorem dX10_flood_2 : decode cX10_flood 2 = .ok (.iload_n 3, 1) := by decide +kernel
theorem dX10_flood_3 : decode cX10_flood 3 = .ok (.iload 4, 2) := by decide +kernel
theorem dX10_flood_5 : decode cX10_flood 5 = .ok (.invokestatic 83, 3) := by decide +kernel
theorem dX10_flood_8 : decode cX10_flood 8 = .ok (.istore 6, 2) := by decide +kernel
theorem dX10_flood_10 : decode cX10_flood 10 = .ok (.iload_n 3, 1) := by decide +kernel
theorem dX10_flood_11 : decode cX10_flood 11 = .ok (.iload_n 1, 1) := by decide +kernel
theorem dX10_flood_12 : decode cX10_flood 12 = .ok (.if_icmp .lt 24, 3) := by decide +kernel
theorem dX10_flood_15 : decode cX10_flood 15 = .ok (.iload 4, 2) := by decide +kernel
theorem dX10_flood_17 : decode cX10_flood 17 = .ok (.iload_n 2, 1) := by decide +kernel
theorem dX10_flood_18 : decode cX10_flood 18 = .ok (.if_icmp .lt 18, 3) := by decide +kernel
theorem dX10_flood_21 : decode cX10_flood 21 = .ok (.iload 5, 2) := by decide +kernel
theorem dX10_flood_23 : decode cX10_flood 23 = .ok (.iconst 1, 1) := by decide +kernel
theorem dX10_flood_24 : decode cX10_flood 24 = .ok (.bipush 40, 2) := by decide +kernel
theorem dX10_flood_26 : decode cX10_flood 26 = .ok (.invokestatic 42, 3) := by decide +kernel
theorem dX10_flood_29 : decode cX10_flood 29 = .ok (.ifCond .eq 7, 3) := by decide +kernel
theorem dX10_flood_32 : decode cX10_flood 32 = .ok (.iconst 1, 1) := by decide +kernel
theorem dX10_flood_33 : decode cX10_flood 33 = .ok (.goto 4, 3) := by decide +kernel
theorem dX10_flood_36 : decode cX10_flood 36 = .ok (.iconst 0, 1) := by decide +kernel
theorem dX10_flood_37 : decode cX10_flood 37 = .ok (.istore 7, 2) := by decide +kernel
theorem dX10_flood_39 : decode cX10_flood 39 = .ok (.aload_n 0, 1) := by decide +kernel
theorem dX10_flood_40 : decode cX10_flood 40 = .ok (.iload 6, 2) := by decide +kernel
theorem dX10_flood_42 : decode cX10_flood 42 = .ok (.ifCond .ne 7, 3) := by decide +kernel
theorem dX10_flood_45 : decode cX10_flood 45 = .ok (.iconst 1, 1) := by decide +kernel
theorem dX10_flood_46 : decode cX10_flood 46 = .ok (.goto 26, 3) := by decide +kernel
theorem dX10_flood_49 : decode cX10_flood 49 = .ok (.iload 7, 2) := by decide +kernel
theorem dX10_flood_51 : decode cX10_flood 51 = .ok (.ifCond .ne 7, 3) := by decide +kernel
theorem dX10_flood_54 : decode cX10_flood 54 = .ok (.iconst 2, 1) := by decide +kernel
theorem dX10_flood_55 : decode cX10_flood 55 = .ok (.goto 17, 3) := by decide +kernel
theorem dX10_flood_58 : decode cX10_flood 58 = .ok (.aload_n 0, 1) := by decide +kernel
theorem dX10_flood_59 : decode cX10_flood 59 = .ok (.getfield 87, 3) := by decide +kernel
theorem dX10_flood_62 : decode cX10_flood 62 = .ok (.bipush 100, 2) := by decide +kernel
theorem dX10_flood_64 : decode cX10_flood 64 = .ok (.if_icmp .ne 7, 3) := by decide +kernel
theorem dX10_flood_67 : decode cX10_flood 67 = .ok (.iconst 3, 1) := by decide +kernel
theorem dX10_flood_68 : decode cX10_flood 68 = .ok (.goto 4, 3) := by decide +kernel
theorem dX10_flood_71 : decode cX10_flood 71 = .ok (.iconst 0, 1) := by decide +kernel
theorem dX10_flood_72 : decode cX10_flood 72 = .ok (.invokevirtual 56, 3) := by decide +kernel
theorem dX10_flood_75 : decode cX10_flood 75 = .ok (.ifCond .ne 5, 3) := by decide +kernel
theorem dX10_flood_78 : decode cX10_flood 78 = .ok (.iconst 0, 1) := by decide +kernel
theorem dX10_flood_79 : decode cX10_flood 79 = .ok (.ireturn, 1) := by decide +kernel
theorem dX10_flood_80 : decode cX10_flood 80 = .ok (.aload_n 0, 1) := by decide +kernel
theorem dX10_flood_81 : decode cX10_flood 81 = .ok (.dup, 1) := by decide +kernel
theorem dX10_flood_82 : decode cX10_flood 82 = .ok (.getfield 87, 3) := by decide +kernel
theorem dX10_flood_85 : decode cX10_flood 85 = .ok (.iconst 1, 1) := by decide +kernel
theorem dX10_flood_86 : decode cX10_flood 86 = .ok (.iadd, 1) := by decide +kernel
theorem dX10_flood_87 : decode cX10_flood 87 = .ok (.putfield 87, 3) := by decide +kernel
theorem dX10_flood_90 : decode cX10_flood 90 = .ok (.iconst 0, 1) := by decide +kernel
theorem dX10_flood_91 : decode cX10_flood 91 = .ok (.istore 8, 2) := by decide +kernel
theorem dX10_flood_93 : decode cX10_flood 93 = .ok (.iconst 0, 1) := by decide +kernel
theorem dX10_flood_94 : decode cX10_flood 94 = .ok (.istore 9, 2) := by decide +kernel
theorem dX10_flood_96 : decode cX10_flood 96 = .ok (.iload 9, 2) := by decide +kernel
theorem dX10_flood_98 : decode cX10_flood 98 = .ok (.aload_n 0, 1) := by decide +kernel
theorem dX10_flood_99 : decode cX10_flood 99 = .ok (.getfield 53, 3) := by decide +kernel
theorem dX10_flood_102 : decode cX10_flood 102 = .ok (.if_icmp .ge 44, 3) := by decide +kernel
theorem dX10_flood_105 : decode cX10_flood 105 = .ok (.iload 8, 2) := by decide +kernel
theorem dX10_flood_107 : decode cX10_flood 107 = .ok (.aload_n 0, 1) := by decide +kernel
theorem dX10_flood_108 : decode cX10_flood 108 = .ok (.iload 9, 2) := by decide +kernel
theorem dX10_flood_110 : decode cX10_flood 110 = .ok (.iload_n 1, 1) := by decide +kernel
theorem dX10_flood_111 : decode cX10_flood 111 = .ok (.iload_n 2, 1) := by decide +kernel
theorem dX10_flood_112 : decode cX10_flood 112 = .ok (.iload_n 3, 1) := by decide +kernel
theorem dX10_flood_113 : decode cX10_flood 113 = .ok (.iload 4, 2) := by decide +kernel
theorem dX10_flood_115 : decode cX10_flood 115 = .ok (.invokevirtual 90, 3) := by decide +kernel
theorem dX10_flood_118 : decode cX10_flood 118 = .ok (.ifCond .eq 18, 3) := by decide +kernel
theorem dX10_flood_121 : decode cX10_flood 121 = .ok (.aload_n 0, 1) := by decide +kernel
theorem dX10_flood_122 : decode cX10_flood 122 = .ok (.iload 9, 2) := by decide +kernel
theorem dX10_flood_124 : decode cX10_flood 124 = .ok (.iload 5, 2) := by decide +kernel
theorem dX10_flood_126 : decode cX10_flood 126 = .ok (.invokevirtual 64, 3) := by decide +kernel
theorem dX10_flood_129 : decode cX10_flood 129 = .ok (.ifCond .eq 7, 3) := by decide +kernel
theorem dX10_flood_132 : decode cX10_flood 132 = .ok (.iconst 1, 1) := by decide +kernel
theorem dX10_flood_133 : decode cX10_flood 133 = .ok (.goto 4, 3) := by decide +kernel
theorem dX10_flood_136 : decode cX10_flood 136 = .ok (.iconst 0, 1) := by decide +kernel
theorem dX10_flood_137 : decode cX10_flood 137 = .ok (.iadd, 1) := by decide +kernel
theorem dX10_flood_138 : decode cX10_flood 138 = .ok (.istore 8, 2) := by decide +kernel
theorem dX10_flood_140 : decode cX10_flood 140 = .ok (.iinc 9 1, 3) := by decide +kernel
theorem dX10_flood_143 : decode cX10_flood 143 = .ok (.goto (-47), 3) := by decide +kernel
theorem dX10_flood_146 : decode cX10_flood 146 = .ok (.iload 8, 2) := by decide +kernel
theorem dX10_flood_148 : decode cX10_flood 148 = .ok (.ireturn, 1) := by decide +kernel
set_option maxRecDepth 20000 in
theorem ggX10_soften_X10_isIn : GoodIn wsX10_soften wsX10_isIn := goodIn_r _ [6] (by decide +kernel) (by decide +kernel)
set_option maxRecDepth 20000 in
theorem gX10_soften_X10_isIn : GoodIn wsX10_soften (va_wsS RX10 42 yX10_isIn wsX10_isIn) := goodIn_app (goodIn_of _ (by decide +kernel)) ggX10_soften_X10_isIn
set_option maxRecDepth 20000 in
theorem ggX10_soften_X10_can : GoodIn wsX10_soften wsX10_can := goodIn_r _ [10, 11, 24, 25, 26, 27, 28, 29, 30, 31, 32, 33, 34, 35, 36, 37] (by decide +kernel) (by decide +kernel)
set_option maxRecDepth 20000 in
theorem gX10_soften_X10_can : GoodIn wsX10_soften (wsV RX10 56 RX10 yX10_can wsX10_can) := goodIn_app (goodIn_of _ (by decide +kernel)) ggX10_soften_X10_can
set_option maxRecDepth 20000 in
theorem ggX10_soften_X10_groundOf : GoodIn wsX10_soften wsX10_groundOf := goodIn_r _ [15, 16, 17, 18, 24, 25, 26, 27, 28, 29, 30, 31, 32, 33, 34, 35, 36, 37] (by decide +kernel) (by decide +kernel)
set_option maxRecDepth 20000 in
theorem gX10_soften_X10_groundOf : GoodIn wsX10_soften (wsV RX10 94 RX10 yX10_groundOf wsX10_groundOf) := goodIn_app (goodIn_of _ (by decide +kernel)) ggX10_soften_X10_groundOf
set_option maxRecDepth 20000 in
theorem ggX10_soften_X10_lessens : GoodIn wsX10_soften wsX10_lessens := goodIn_r _ [22, 23, 24, 25, 26, 27, 28, 29, 30, 31, 32, 33, 34, 35, 36, 37] (by decide +kernel) (by decide +kernel)
set_option maxRecDepth 20000 in
theorem gX10_soften_X10_lessens : GoodIn wsX10_soften (wsV RX10 64 RX10 yX10_lessens wsX10_lessens) := goodIn_app (goodIn_of _ (by decide +kernel)) ggX10_soften_X10_lessens
theorem dX10_soften_0 : decode cX10_soften 0 = .ok (.aload_n 0, 1) := by decide +kernel
theorem dX10_soften_1 : decode cX10_soften 1 = .ok (.iload_n 1, 1) := by decide +kernel
theorem dX10_soften_2 : decode cX10_soften 2 = .ok (.iconst 1, 1) := by decide +kernel
theorem dX10_soften_3 : decode cX10_soften 3 = .ok (.bipush 40, 2) := by decide +kernel
theorem dX10_soften_5 : decode cX10_soften 5 = .ok (.invokestatic 42, 3) := by decide +kernel
theorem dX10_soften_8 : decode cX10_soften 8 = .ok (.ifCond .ne 7, 3) := by decide +kernel
theorem dX10_soften_11 : decode cX10_soften 11 = .ok (.iconst 1, 1) := by decide +kernel
theorem dX10_soften_12 : decode cX10_soften 12 = .ok (.goto 17, 3) := by decide +kernel
theorem dX10_soften_15 : decode cX10_soften 15 = .ok (.aload_n 0, 1) := by decide +kernel
theorem dX10_soften_16 : decode cX10_soften 16 = .ok (.getfield 87, 3) := by decide +kernel
theorem dX10_soften_19 : decode cX10_soften 19 = .ok (.bipush 100, 2) := by decide +kernel
theorem dX10_soften_21 : decode cX10_soften 21 = .ok (.if_icmp .ne 7, 3) := by decide +kernel
theorem dX10_soften_24 : decode cX10_soften 24 = .ok (.iconst 2, 1) := by decide +kernel
theorem dX10_soften_25 : decode cX10_soften 25 = .ok (.goto 4, 3) := by decide +kernel
theorem dX10_soften_28 : decode cX10_soften 28 = .ok (.iconst 0, 1) := by decide +kernel
theorem dX10_soften_29 : decode cX10_soften 29 = .ok (.invokevirtual 56, 3) := by decide +kernel
theorem dX10_soften_32 : decode cX10_soften 32 = .ok (.ifCond .ne 5, 3) := by decide +kernel
theorem dX10_soften_35 : decode cX10_soften 35 = .ok (.iconst 0, 1) := by decide +kernel
theorem dX10_soften_36 : decode cX10_soften 36 = .ok (.ireturn, 1) := by decide +kernel
theorem dX10_soften_37 : decode cX10_soften 37 = .ok (.aload_n 0, 1) := by decide +kernel
theorem dX10_soften_38 : decode cX10_soften 38 = .ok (.dup, 1) := by decide +kernel
theorem dX10_soften_39 : decode cX10_soften 39 = .ok (.getfield 87, 3) := by decide +kernel
theorem dX10_soften_42 : decode cX10_soften 42 = .ok (.iconst 1, 1) := by decide +kernel
theorem dX10_soften_43 : decode cX10_soften 43 = .ok (.iadd, 1) := by decide +kernel
theorem dX10_soften_44 : decode cX10_soften 44 = .ok (.putfield 87, 3) := by decide +kernel
theorem dX10_soften_47 : decode cX10_soften 47 = .ok (.iconst 0, 1) := by decide +kernel
theorem dX10_soften_48 : decode cX10_soften 48 = .ok (.istore_n 2, 1) := by decide +kernel
theorem dX10_soften_49 : decode cX10_soften 49 = .ok (.iconst 0, 1) := by decide +kernel
theorem dX10_soften_50 : decode cX10_soften 50 = .ok (.istore_n 3, 1) := by decide +kernel
theorem dX10_soften_51 : decode cX10_soften 51 = .ok (.iload_n 3, 1) := by decide +kernel
theorem dX10_soften_52 : decode cX10_soften 52 = .ok (.aload_n 0, 1) := by decide +kernel
theorem dX10_soften_53 : decode cX10_soften 53 = .ok (.getfield 53, 3) := by decide +kernel
theorem dX10_soften_56 : decode cX10_soften 56 = .ok (.if_icmp .ge 56, 3) := by decide +kernel
theorem dX10_soften_59 : decode cX10_soften 59 = .ok (.aload_n 0, 1) := by decide +kernel
theorem dX10_soften_60 : decode cX10_soften 60 = .ok (.iload_n 3, 1) := by decide +kernel
theorem dX10_soften_61 : decode cX10_soften 61 = .ok (.invokevirtual 94, 3) := by decide +kernel
theorem dX10_soften_64 : decode cX10_soften 64 = .ok (.istore 4, 2) := by decide +kernel
theorem dX10_soften_66 : decode cX10_soften 66 = .ok (.iload_n 2, 1) := by decide +kernel
theorem dX10_soften_67 : decode cX10_soften 67 = .ok (.aload_n 0, 1) := by decide +kernel
theorem dX10_soften_68 : decode cX10_soften 68 = .ok (.iload_n 3, 1) := by decide +kernel
theorem dX10_soften_69 : decode cX10_soften 69 = .ok (.iload 4, 2) := by decide +kernel
theorem dX10_soften_71 : decode cX10_soften 71 = .ok (.ifCond .ne 9, 3) := by decide +kernel
theorem dX10_soften_74 : decode cX10_soften 74 = .ok (.iload_n 1, 1) := by decide +kernel
theorem dX10_soften_75 : decode cX10_soften 75 = .ok (.iconst 2, 1) := by decide +kernel
theorem dX10_soften_76 : decode cX10_soften 76 = .ok (.idiv, 1) := by decide +kernel
theorem dX10_soften_77 : decode cX10_soften 77 = .ok (.goto 16, 3) := by decide +kernel
theorem dX10_soften_80 : decode cX10_soften 80 = .ok (.iload 4, 2) := by decide +kernel
theorem dX10_soften_82 : decode cX10_soften 82 = .ok (.iconst 1, 1) := by decide +kernel
theorem dX10_soften_83 : decode cX10_soften 83 = .ok (.if_icmp .ne 7, 3) := by decide +kernel
theorem dX10_soften_86 : decode cX10_soften 86 = .ok (.iload_n 1, 1) := by decide +kernel
theorem dX10_soften_87 : decode cX10_soften 87 = .ok (.goto 6, 3) := by decide +kernel
theorem dX10_soften_90 : decode cX10_soften 90 = .ok (.iconst 2, 1) := by decide +kernel
theorem dX10_soften_91 : decode cX10_soften 91 = .ok (.iload_n 1, 1) := by decide +kernel
theorem dX10_soften_92 : decode cX10_soften 92 = .ok (.imul, 1) := by decide +kernel
theorem dX10_soften_93 : decode cX10_soften 93 = .ok (.invokevirtual 64, 3) := by decide +kernel
theorem dX10_soften_96 : decode cX10_soften 96 = .ok (.ifCond .eq 7, 3) := by decide +kernel
theorem dX10_soften_99 : decode cX10_soften 99 = .ok (.iconst 1, 1) := by decide +kernel
theorem dX10_soften_100 : decode cX10_soften 100 = .ok (.goto 4, 3) := by decide +kernel
theorem dX10_soften_103 : decode cX10_soften 103 = .ok (.iconst 0, 1) := by decide +kernel
theorem dX10_soften_104 : decode cX10_soften 104 = .ok (.iadd, 1) := by decide +kernel
theorem dX10_soften_105 : decode cX10_soften 105 = .ok (.istore_n 2, 1) := by decide +kernel
theorem dX10_soften_106 : decode cX10_soften 106 = .ok (.iinc 3 1, 3) := by decide +kernel
theorem dX10_soften_109 : decode cX10_soften 109 = .ok (.goto (-58), 3) := by decide +kernel
theorem dX10_soften_112 : decode cX10_soften 112 = .ok (.iload_n 2, 1) := by decide +kernel
theorem dX10_soften_113 : decode cX10_soften 113 = .ok (.ireturn, 1) := by decide +kernel
set_option maxRecDepth 20000 in
theorem ggX10_eye_X10_isIn : GoodIn wsX10_eye wsX10_isIn := goodIn_r _ [6] (by decide +kernel) (by decide +kernel)
set_option maxRecDepth 20000 in
theorem gX10_eye_X10_isIn : GoodIn wsX10_eye (va_wsS RX10 42 yX10_isIn wsX10_isIn) := goodIn_app (goodIn_of _ (by decide +kernel)) ggX10_eye_X10_isIn
set_option maxRecDepth 20000 in
theorem ggX10_eye_X10_can : GoodIn wsX10_eye wsX10_can := goodIn_r _ [10, 11, 12, 13, 14, 15, 16, 17, 18, 19, 20, 21, 22, 23, 24, 25] (by decide +kernel) (by decide +kernel)
set_option maxRecDepth 20000 in
theorem gX10_eye_X10_can : GoodIn wsX10_eye (wsV RX10 56 RX10 yX10_can wsX10_can) := goodIn_app (goodIn_of _ (by decide +kernel)) ggX10_eye_X10_can
theorem dX10_eye_0 : decode cX10_eye 0 = .ok (.aload_n 0, 1) := by decide +kernel
theorem dX10_eye_1 : decode cX10_eye 1 = .ok (.iload_n 1, 1) := by decide +kernel
theorem dX10_eye_2 : decode cX10_eye 2 = .ok (.iconst 1, 1) := by decide +kernel
theorem dX10_eye_3 : decode cX10_eye 3 = .ok (.bipush 9, 2) := by decide +kernel
theorem dX10_eye_5 : decode cX10_eye 5 = .ok (.invokestatic 42, 3) := by decide +kernel
theorem dX10_eye_8 : decode cX10_eye 8 = .ok (.ifCond .ne 7, 3) := by decide +kernel
theorem dX10_eye_11 : decode cX10_eye 11 = .ok (.iconst 1, 1) := by decide +kernel
theorem dX10_eye_12 : decode cX10_eye 12 = .ok (.goto 17, 3) := by decide +kernel
theorem dX10_eye_15 : decode cX10_eye 15 = .ok (.aload_n 0, 1) := by decide +kernel
theorem dX10_eye_16 : decode cX10_eye 16 = .ok (.getfield 50, 3) := by decide +kernel
theorem dX10_eye_19 : decode cX10_eye 19 = .ok (.bipush 6, 2) := by decide +kernel
theorem dX10_eye_21 : decode cX10_eye 21 = .ok (.if_icmp .ne 7, 3) := by decide +kernel
theorem dX10_eye_24 : decode cX10_eye 24 = .ok (.iconst 2, 1) := by decide +kernel
theorem dX10_eye_25 : decode cX10_eye 25 = .ok (.goto 4, 3) := by decide +kernel
theorem dX10_eye_28 : decode cX10_eye 28 = .ok (.iconst 0, 1) := by decide +kernel
theorem dX10_eye_29 : decode cX10_eye 29 = .ok (.invokevirtual 56, 3) := by decide +kernel
theorem dX10_eye_32 : decode cX10_eye 32 = .ok (.ifCond .ne 5, 3) := by decide +kernel
theorem dX10_eye_35 : decode cX10_eye 35 = .ok (.iconst 0, 1) := by decide +kernel
theorem dX10_eye_36 : decode cX10_eye 36 = .ok (.ireturn, 1) := by decide +kernel
theorem dX10_eye_37 : decode cX10_eye 37 = .ok (.aload_n 0, 1) := by decide +kernel
theorem dX10_eye_38 : decode cX10_eye 38 = .ok (.getfield 29, 3) := by decide +kernel
theorem dX10_eye_41 : decode cX10_eye 41 = .ok (.aload_n 0, 1) := by decide +kernel
theorem dX10_eye_42 : decode cX10_eye 42 = .ok (.getfield 50, 3) := by decide +kernel
theorem dX10_eye_45 : decode cX10_eye 45 = .ok (.iload_n 1, 1) := by decide +kernel
theorem dX10_eye_46 : decode cX10_eye 46 = .ok (.iastore, 1) := by decide +kernel
theorem dX10_eye_47 : decode cX10_eye 47 = .ok (.aload_n 0, 1) := by decide +kernel
theorem dX10_eye_48 : decode cX10_eye 48 = .ok (.dup, 1) := by decide +kernel
theorem dX10_eye_49 : decode cX10_eye 49 = .ok (.getfield 50, 3) := by decide +kernel
theorem dX10_eye_52 : decode cX10_eye 52 = .ok (.iconst 1, 1) := by decide +kernel
theorem dX10_eye_53 : decode cX10_eye 53 = .ok (.iadd, 1) := by decide +kernel
theorem dX10_eye_54 : decode cX10_eye 54 = .ok (.putfield 50, 3) := by decide +kernel
theorem dX10_eye_57 : decode cX10_eye 57 = .ok (.aload_n 0, 1) := by decide +kernel
theorem dX10_eye_58 : decode cX10_eye 58 = .ok (.getfield 50, 3) := by decide +kernel
theorem dX10_eye_61 : decode cX10_eye 61 = .ok (.iconst 1, 1) := by decide +kernel
theorem dX10_eye_62 : decode cX10_eye 62 = .ok (.isub, 1) := by decide +kernel
theorem dX10_eye_63 : decode cX10_eye 63 = .ok (.ireturn, 1) := by decide +kernel
set_option maxRecDepth 20000 in
theorem ggX10_anchor_X10_can : GoodIn wsX10_anchor wsX10_can := goodIn_r _ [10, 11, 12, 13, 14, 15, 16, 17, 18, 19, 20, 21, 22, 23, 24, 25] (by decide +kernel) (by decide +kernel)
set_option maxRecDepth 20000 in
theorem gX10_anchor_X10_can : GoodIn wsX10_anchor (wsV RX10 56 RX10 yX10_can wsX10_can) := goodIn_app (goodIn_of _ (by decide +kernel)) ggX10_anchor_X10_can
theorem dX10_anchor_0 : decode cX10_anchor 0 = .ok (.lload_n 1, 1) := by decide +kernel
theorem dX10_anchor_1 : decode cX10_anchor 1 = .ok (.lconst 1, 1) := by decide +kernel
theorem dX10_anchor_2 : decode cX10_anchor 2 = .ok (.lcmp, 1) := by decide +kernel
theorem dX10_anchor_3 : decode cX10_anchor 3 = .ok (.ifCond .lt 29, 3) := by decide +kernel
theorem dX10_anchor_6 : decode cX10_anchor 6 = .ok (.lload_n 1, 1) := by decide +kernel
theorem dX10_anchor_7 : decode cX10_anchor 7 = .ok (.ldc2_w 97, 3) := by decide +kernel
theorem dX10_anchor_10 : decode cX10_anchor 10 = .ok (.lcmp, 1) := by decide +kernel
theorem dX10_anchor_11 : decode cX10_anchor 11 = .ok (.ifCond .gt 21, 3) := by decide +kernel
theorem dX10_anchor_14 : decode cX10_anchor 14 = .ok (.lload_n 3, 1) := by decide +kernel
theorem dX10_anchor_15 : decode cX10_anchor 15 = .ok (.lconst 1, 1) := by decide +kernel
theorem dX10_anchor_16 : decode cX10_anchor 16 = .ok (.lcmp, 1) := by decide +kernel
theorem dX10_anchor_17 : decode cX10_anchor 17 = .ok (.ifCond .lt 15, 3) := by decide +kernel
theorem dX10_anchor_20 : decode cX10_anchor 20 = .ok (.lload_n 3, 1) := by decide +kernel
theorem dX10_anchor_21 : decode cX10_anchor 21 = .ok (.ldc2_w 99, 3) := by decide +kernel
theorem dX10_anchor_24 : decode cX10_anchor 24 = .ok (.lcmp, 1) := by decide +kernel
theorem dX10_anchor_25 : decode cX10_anchor 25 = .ok (.ifCond .gt 7, 3) := by decide +kernel
theorem dX10_anchor_28 : decode cX10_anchor 28 = .ok (.iconst 1, 1) := by decide +kernel
theorem dX10_anchor_29 : decode cX10_anchor 29 = .ok (.goto 4, 3) := by decide +kernel
theorem dX10_anchor_32 : decode cX10_anchor 32 = .ok (.iconst 0, 1) := by decide +kernel
theorem dX10_anchor_33 : decode cX10_anchor 33 = .ok (.istore 5, 2) := by decide +kernel
theorem dX10_anchor_35 : decode cX10_anchor 35 = .ok (.aload_n 0, 1) := by decide +kernel
theorem dX10_anchor_36 : decode cX10_anchor 36 = .ok (.getfield 101, 3) := by decide +kernel
theorem dX10_anchor_39 : decode cX10_anchor 39 = .ok (.ifCond .eq 44, 3) := by decide +kernel
theorem dX10_anchor_42 : decode cX10_anchor 42 = .ok (.aload_n 0, 1) := by decide +kernel
theorem dX10_anchor_43 : decode cX10_anchor 43 = .ok (.getfield 101, 3) := by decide +kernel
theorem dX10_anchor_46 : decode cX10_anchor 46 = .ok (.bipush 8, 2) := by decide +kernel
theorem dX10_anchor_48 : decode cX10_anchor 48 = .ok (.if_icmp .ge 39, 3) := by decide +kernel
theorem dX10_anchor_51 : decode cX10_anchor 51 = .ok (.lload_n 1, 1) := by decide +kernel
theorem dX10_anchor_52 : decode cX10_anchor 52 = .ok (.aload_n 0, 1) := by decide +kernel
theorem dX10_anchor_53 : decode cX10_anchor 53 = .ok (.getfield 32, 3) := by decide +kernel
theorem dX10_anchor_56 : decode cX10_anchor 56 = .ok (.aload_n 0, 1) := by decide +kernel
theorem dX10_anchor_57 : decode cX10_anchor 57 = .ok (.getfield 101, 3) := by decide +kernel
theorem dX10_anchor_60 : decode cX10_anchor 60 = .ok (.iconst 1, 1) := by decide +kernel
theorem dX10_anchor_61 : decode cX10_anchor 61 = .ok (.isub, 1) := by decide +kernel
theorem dX10_anchor_62 : decode cX10_anchor 62 = .ok (.laload, 1) := by decide +kernel
theorem dX10_anchor_63 : decode cX10_anchor 63 = .ok (.lcmp, 1) := by decide +kernel
theorem dX10_anchor_64 : decode cX10_anchor 64 = .ok (.ifCond .le 23, 3) := by decide +kernel
theorem dX10_anchor_67 : decode cX10_anchor 67 = .ok (.lload_n 3, 1) := by decide +kernel
theorem dX10_anchor_68 : decode cX10_anchor 68 = .ok (.aload_n 0, 1) := by decide +kernel
theorem dX10_anchor_69 : decode cX10_anchor 69 = .ok (.getfield 36, 3) := by decide +kernel
theorem dX10_anchor_72 : decode cX10_anchor 72 = .ok (.aload_n 0, 1) := by decide +kernel
theorem dX10_anchor_73 : decode cX10_anchor 73 = .ok (.getfield 101, 3) := by decide +kernel
theorem dX10_anchor_76 : decode cX10_anchor 76 = .ok (.iconst 1, 1) := by decide +kernel
theorem dX10_anchor_77 : decode cX10_anchor 77 = .ok (.isub, 1) := by decide +kernel
theorem dX10_anchor_78 : decode cX10_anchor 78 = .ok (.laload, 1) := by decide +kernel
theorem dX10_anchor_79 : decode cX10_anchor 79 = .ok (.lcmp, 1) := by decide +kernel
theorem dX10_anchor_80 : decode cX10_anchor 80 = .ok (.ifCond .le 7, 3) := by decide +kernel
theorem dX10_anchor_83 : decode cX10_anchor 83 = .ok (.iconst 1, 1) := by decide +kernel
theorem dX10_anchor_84 : decode cX10_anchor 84 = .ok (.goto 4, 3) := by decide +kernel
theorem dX10_anchor_87 : decode cX10_anchor 87 = .ok (.iconst 0, 1) := by decide +kernel
theorem dX10_anchor_88 : decode cX10_anchor 88 = .ok (.istore 6, 2) := by decide +kernel
theorem dX10_anchor_90 : decode cX10_anchor 90 = .ok (.aload_n 0, 1) := by decide +kernel
theorem dX10_anchor_91 : decode cX10_anchor 91 = .ok (.iload 5, 2) := by decide +kernel
theorem dX10_anchor_93 : decode cX10_anchor 93 = .ok (.ifCond .ne 7, 3) := by decide +kernel
theorem dX10_anchor_96 : decode cX10_anchor 96 = .ok (.iconst 1, 1) := by decide +kernel
theorem dX10_anchor_97 : decode cX10_anchor 97 = .ok (.goto 13, 3) := by decide +kernel
theorem dX10_anchor_100 : decode cX10_anchor 100 = .ok (.iload 6, 2) := by decide +kernel
theorem dX10_anchor_102 : decode cX10_anchor 102 = .ok (.ifCond .eq 7, 3) := by decide +kernel
theorem dX10_anchor_105 : decode cX10_anchor 105 = .ok (.iconst 0, 1) := by decide +kernel
theorem dX10_anchor_106 : decode cX10_anchor 106 = .ok (.goto 4, 3) := by decide +kernel
theorem dX10_anchor_109 : decode cX10_anchor 109 = .ok (.iconst 2, 1) := by decide +kernel
theorem dX10_anchor_110 : decode cX10_anchor 110 = .ok (.invokevirtual 56, 3) := by decide +kernel
theorem dX10_anchor_113 : decode cX10_anchor 113 = .ok (.ifCond .ne 5, 3) := by decide +kernel
theorem dX10_anchor_116 : decode cX10_anchor 116 = .ok (.iconst 0, 1) := by decide +kernel
theorem dX10_anchor_117 : decode cX10_anchor 117 = .ok (.ireturn, 1) := by decide +kernel
theorem dX10_anchor_118 : decode cX10_anchor 118 = .ok (.aload_n 0, 1) := by decide +kernel
theorem dX10_anchor_119 : decode cX10_anchor 119 = .ok (.getfield 32, 3) := by decide +kernel
theorem dX10_anchor_122 : decode cX10_anchor 122 = .ok (.aload_n 0, 1) := by decide +kernel
theorem dX10_anchor_123 : decode cX10_anchor 123 = .ok (.getfield 101, 3) := by decide +kernel
theorem dX10_anchor_126 : decode cX10_anchor 126 = .ok (.lload_n 1, 1) := by decide +kernel
theorem dX10_anchor_127 : decode cX10_anchor 127 = .ok (.lastore, 1) := by decide +kernel
theorem dX10_anchor_128 : decode cX10_anchor 128 = .ok (.aload_n 0, 1) := by decide +kernel
theorem dX10_anchor_129 : decode cX10_anchor 129 = .ok (.getfield 36, 3) := by decide +kernel
theorem dX10_anchor_132 : decode cX10_anchor 132 = .ok (.aload_n 0, 1) := by decide +kernel
theorem dX10_anchor_133 : decode cX10_anchor 133 = .ok (.getfield 101, 3) := by decide +kernel
theorem dX10_anchor_136 : decode cX10_anchor 136 = .ok (.lload_n 3, 1) := by decide +kernel
theorem dX10_anchor_137 : decode cX10_anchor 137 = .ok (.lastore, 1) := by decide +kernel
theorem dX10_anchor_138 : decode cX10_anchor 138 = .ok (.aload_n 0, 1) := by decide +kernel
theorem dX10_anchor_139 : decode cX10_anchor 139 = .ok (.dup, 1) := by decide +kernel
theorem dX10_anchor_140 : decode cX10_anchor 140 = .ok (.getfield 101, 3) := by decide +kernel
theorem dX10_anchor_143 : decode cX10_anchor 143 = .ok (.iconst 1, 1) := by decide +kernel
theorem dX10_anchor_144 : decode cX10_anchor 144 = .ok (.iadd, 1) := by decide +kernel
theorem dX10_anchor_145 : decode cX10_anchor 145 = .ok (.putfield 101, 3) := by decide +kernel
theorem dX10_anchor_148 : decode cX10_anchor 148 = .ok (.aload_n 0, 1) := by decide +kernel
theorem dX10_anchor_149 : decode cX10_anchor 149 = .ok (.getfield 101, 3) := by decide +kernel
theorem dX10_anchor_152 : decode cX10_anchor 152 = .ok (.ireturn, 1) := by decide +kernel
set_option maxRecDepth 20000 in
theorem ggX10_counts_X10_isWithin : GoodIn wsX10_counts wsX10_isWithin := goodIn_r _ [9, 10, 11, 12, 13, 8, 14, 15, 16, 17, 18, 19, 20, 21, 22, 23, 24, 25, 26, 27, 28] (by decide +kernel) (by decide +kernel)
set_option maxRecDepth 20000 in
theorem gX10_counts_X10_isWithin : GoodIn wsX10_counts (wsV RX10 90 RX10 yX10_isWithin wsX10_isWithin) := goodIn_app (goodIn_of _ (by decide +kernel)) ggX10_counts_X10_isWithin
theorem dX10_counts_0 : decode cX10_counts 0 = .ok (.iconst 0, 1) := by decide +kernel
theorem dX10_counts_1 : decode cX10_counts 1 = .ok (.istore 7, 2) := by decide +kernel
theorem dX10_counts_3 : decode cX10_counts 3 = .ok (.iconst 0, 1) := by decide +kernel
theorem dX10_counts_4 : decode cX10_counts 4 = .ok (.istore 8, 2) := by decide +kernel
theorem dX10_counts_6 : decode cX10_counts 6 = .ok (.iload 8, 2) := by decide +kernel
theorem dX10_counts_8 : decode cX10_counts 8 = .ok (.aload_n 0, 1) := by decide +kernel
theorem dX10_counts_9 : decode cX10_counts 9 = .ok (.getfield 53, 3) := by decide +kernel
theorem dX10_counts_12 : decode cX10_counts 12 = .ok (.if_icmp .ge 87, 3) := by decide +kernel
theorem dX10_counts_15 : decode cX10_counts 15 = .ok (.aload_n 0, 1) := by decide +kernel
theorem dX10_counts_16 : decode cX10_counts 16 = .ok (.getfield 22, 3) := by decide +kernel
theorem dX10_counts_19 : decode cX10_counts 19 = .ok (.iload 8, 2) := by decide +kernel
theorem dX10_counts_21 : decode cX10_counts 21 = .ok (.iaload, 1) := by decide +kernel
theorem dX10_counts_22 : decode cX10_counts 22 = .ok (.ifCond .le 26, 3) := by decide +kernel
theorem dX10_counts_25 : decode cX10_counts 25 = .ok (.aload_n 0, 1) := by decide +kernel
theorem dX10_counts_26 : decode cX10_counts 26 = .ok (.getfield 22, 3) := by decide +kernel
theorem dX10_counts_29 : decode cX10_counts 29 = .ok (.iload 8, 2) := by decide +kernel
theorem dX10_counts_31 : decode cX10_counts 31 = .ok (.iaload, 1) := by decide +kernel
theorem dX10_counts_32 : decode cX10_counts 32 = .ok (.bipush 10, 2) := by decide +kernel
theorem dX10_counts_34 : decode cX10_counts 34 = .ok (.aload_n 0, 1) := by decide +kernel
theorem dX10_counts_35 : decode cX10_counts 35 = .ok (.getfield 29, 3) := by decide +kernel
theorem dX10_counts_38 : decode cX10_counts 38 = .ok (.iload_n 1, 1) := by decide +kernel
theorem dX10_counts_39 : decode cX10_counts 39 = .ok (.iaload, 1) := by decide +kernel
theorem dX10_counts_40 : decode cX10_counts 40 = .ok (.isub, 1) := by decide +kernel
theorem dX10_counts_41 : decode cX10_counts 41 = .ok (.if_icmp .lt 7, 3) := by decide +kernel
theorem dX10_counts_44 : decode cX10_counts 44 = .ok (.iconst 1, 1) := by decide +kernel
theorem dX10_counts_45 : decode cX10_counts 45 = .ok (.goto 4, 3) := by decide +kernel
theorem dX10_counts_48 : decode cX10_counts 48 = .ok (.iconst 0, 1) := by decide +kernel
theorem dX10_counts_49 : decode cX10_counts 49 = .ok (.istore 9, 2) := by decide +kernel
theorem dX10_counts_51 : decode cX10_counts 51 = .ok (.iload 7, 2) := by decide +kernel
theorem dX10_counts_53 : decode cX10_counts 53 = .ok (.iload 9, 2) := by decide +kernel
theorem dX10_counts_55 : decode cX10_counts 55 = .ok (.ifCond .eq 34, 3) := by decide +kernel
theorem dX10_counts_58 : decode cX10_counts 58 = .ok (.aload_n 0, 1) := by decide +kernel
theorem dX10_counts_59 : decode cX10_counts 59 = .ok (.getfield 19, 3) := by decide +kernel
theorem dX10_counts_62 : decode cX10_counts 62 = .ok (.iload 8, 2) := by decide +kernel
theorem dX10_counts_64 : decode cX10_counts 64 = .ok (.iaload, 1) := by decide +kernel
theorem dX10_counts_65 : decode cX10_counts 65 = .ok (.iload 6, 2) := by decide +kernel
theorem dX10_counts_67 : decode cX10_counts 67 = .ok (.if_icmp .lt 22, 3) := by decide +kernel
theorem dX10_counts_70 : decode cX10_counts 70 = .ok (.aload_n 0, 1) := by decide +kernel
theorem dX10_counts_71 : decode cX10_counts 71 = .ok (.iload 8, 2) := by decide +kernel
theorem dX10_counts_73 : decode cX10_counts 73 = .ok (.iload_n 2, 1) := by decide +kernel
theorem dX10_counts_74 : decode cX10_counts 74 = .ok (.iload_n 3, 1) := by decide +kernel
theorem dX10_counts_75 : decode cX10_counts 75 = .ok (.iload 4, 2) := by decide +kernel
theorem dX10_counts_77 : decode cX10_counts 77 = .ok (.iload 5, 2) := by decide +kernel
theorem dX10_counts_79 : decode cX10_counts 79 = .ok (.invokevirtual 90, 3) := by decide +kernel
theorem dX10_counts_82 : decode cX10_counts 82 = .ok (.ifCond .eq 7, 3) := by decide +kernel
theorem dX10_counts_85 : decode cX10_counts 85 = .ok (.iconst 1, 1) := by decide +kernel
theorem dX10_counts_86 : decode cX10_counts 86 = .ok (.goto 4, 3) := by decide +kernel
theorem dX10_counts_89 : decode cX10_counts 89 = .ok (.iconst 0, 1) := by decide +kernel
theorem dX10_counts_90 : decode cX10_counts 90 = .ok (.iadd, 1) := by decide +kernel
theorem dX10_counts_91 : decode cX10_counts 91 = .ok (.istore 7, 2) := by decide +kernel
theorem dX10_counts_93 : decode cX10_counts 93 = .ok (.iinc 8 1, 3) := by decide +kernel
theorem dX10_counts_96 : decode cX10_counts 96 = .ok (.goto (-90), 3) := by decide +kernel
theorem dX10_counts_99 : decode cX10_counts 99 = .ok (.iload 7, 2) := by decide +kernel
theorem dX10_counts_101 : decode cX10_counts 101 = .ok (.ireturn, 1) := by decide +kernel
set_option maxRecDepth 20000 in
theorem ggX10_count_X10_isEye : GoodIn wsX10_count wsX10_isEye := goodIn_r _ [5, 6, 7, 8, 4, 9, 35, 36, 37, 38, 39, 40, 41, 42, 43, 44, 45, 46, 47, 48] (by decide +kernel) (by decide +kernel)
set_option maxRecDepth 20000 in
theorem gX10_count_X10_isEye : GoodIn wsX10_count (wsV RX10 104 RX10 yX10_isEye wsX10_isEye) := goodIn_app (goodIn_of _ (by decide +kernel)) ggX10_count_X10_isEye
set_option maxRecDepth 20000 in
theorem ggX10_count_X10_areCells : GoodIn wsX10_count wsX10_areCells := goodIn_r _ [12, 13, 14, 4, 15, 7, 8, 9] (by decide +kernel) (by decide +kernel)
set_option maxRecDepth 20000 in
theorem gX10_count_X10_areCells : GoodIn wsX10_count (va_wsS RX10 83 yX10_areCells wsX10_areCells) := goodIn_app (goodIn_of _ (by decide +kernel)) ggX10_count_X10_areCells
set_option maxRecDepth 20000 in
theorem ggX10_count_X10_isIn : GoodIn wsX10_count wsX10_isIn := goodIn_r _ [9] (by decide +kernel) (by decide +kernel)
set_option maxRecDepth 20000 in
theorem gX10_count_X10_isIn : GoodIn wsX10_count (va_wsS RX10 42 yX10_isIn wsX10_isIn) := goodIn_app (goodIn_of _ (by decide +kernel)) ggX10_count_X10_isIn
set_option maxRecDepth 20000 in
theorem ggX10_count_X10_can : GoodIn wsX10_count wsX10_can := goodIn_r _ [19, 20, 35, 36, 37, 38, 39, 40, 41, 42, 43, 44, 45, 46, 47, 48] (by decide +kernel) (by decide +kernel)
set_option maxRecDepth 20000 in
theorem gX10_count_X10_can : GoodIn wsX10_count (wsV RX10 56 RX10 yX10_can wsX10_can) := goodIn_app (goodIn_of _ (by decide +kernel)) ggX10_count_X10_can
set_option maxRecDepth 20000 in
theorem ggX10_count_X10_counts : GoodIn wsX10_count wsX10_counts := goodIn_r _ [24, 25, 26, 27, 28, 29, 30, 31, 4, 32, 33, 34, 7, 8, 9, 35, 36, 37, 38, 39, 40, 41, 42, 43, 44, 45, 46, 47, 48] (by decide +kernel) (by decide +kernel)
set_option maxRecDepth 20000 in
theorem gX10_count_X10_counts : GoodIn wsX10_count (wsV RX10 107 RX10 yX10_counts wsX10_counts) := goodIn_app (goodIn_of _ (by decide +kernel)) ggX10_count_X10_counts
theorem dX10_count_0 : decode cX10_count 0 = .ok (.aload_n 0, 1) := by decide +kernel
theorem dX10_count_1 : decode cX10_count 1 = .ok (.iload_n 1, 1) := by decide +kernel
theorem dX10_count_2 : decode cX10_count 2 = .ok (.invokevirtual 104, 3) := by decide +kernel
theorem dX10_count_5 : decode cX10_count 5 = .ok (.ifCond .eq 19, 3) := by decide +kernel
theorem dX10_count_8 : decode cX10_count 8 = .ok (.iload_n 2, 1) := by decide +kernel
theorem dX10_count_9 : decode cX10_count 9 = .ok (.iload_n 3, 1) := by decide +kernel
theorem dX10_count_10 : decode cX10_count 10 = .ok (.iload 4, 2) := by decide +kernel
theorem dX10_count_12 : decode cX10_count 12 = .ok (.iload 5, 2) := by decide +kernel
theorem dX10_count_14 : decode cX10_count 14 = .ok (.invokestatic 83, 3) := by decide +kernel
theorem dX10_count_17 : decode cX10_count 17 = .ok (.ifCond .eq 7, 3) := by decide +kernel
theorem dX10_count_20 : decode cX10_count 20 = .ok (.iconst 1, 1) := by decide +kernel
theorem dX10_count_21 : decode cX10_count 21 = .ok (.goto 4, 3) := by decide +kernel
theorem dX10_count_24 : decode cX10_count 24 = .ok (.iconst 0, 1) := by decide +kernel
theorem dX10_count_25 : decode cX10_count 25 = .ok (.istore 7, 2) := by decide +kernel
theorem dX10_count_27 : decode cX10_count 27 = .ok (.iload 4, 2) := by decide +kernel
theorem dX10_count_29 : decode cX10_count 29 = .ok (.iload_n 2, 1) := by decide +kernel
theorem dX10_count_30 : decode cX10_count 30 = .ok (.if_icmp .lt 24, 3) := by decide +kernel
theorem dX10_count_33 : decode cX10_count 33 = .ok (.iload 5, 2) := by decide +kernel
theorem dX10_count_35 : decode cX10_count 35 = .ok (.iload_n 3, 1) := by decide +kernel
theorem dX10_count_36 : decode cX10_count 36 = .ok (.if_icmp .lt 18, 3) := by decide +kernel
theorem dX10_count_39 : decode cX10_count 39 = .ok (.iload 6, 2) := by decide +kernel
theorem dX10_count_41 : decode cX10_count 41 = .ok (.iconst 1, 1) := by decide +kernel
theorem dX10_count_42 : decode cX10_count 42 = .ok (.bipush 7, 2) := by decide +kernel
theorem dX10_count_44 : decode cX10_count 44 = .ok (.invokestatic 42, 3) := by decide +kernel
theorem dX10_count_47 : decode cX10_count 47 = .ok (.ifCond .eq 7, 3) := by decide +kernel
theorem dX10_count_50 : decode cX10_count 50 = .ok (.iconst 1, 1) := by decide +kernel
theorem dX10_count_51 : decode cX10_count 51 = .ok (.goto 4, 3) := by decide +kernel
theorem dX10_count_54 : decode cX10_count 54 = .ok (.iconst 0, 1) := by decide +kernel
theorem dX10_count_55 : decode cX10_count 55 = .ok (.istore 8, 2) := by decide +kernel
theorem dX10_count_57 : decode cX10_count 57 = .ok (.aload_n 0, 1) := by decide +kernel
theorem dX10_count_58 : decode cX10_count 58 = .ok (.iload 7, 2) := by decide +kernel
theorem dX10_count_60 : decode cX10_count 60 = .ok (.ifCond .ne 7, 3) := by decide +kernel
theorem dX10_count_63 : decode cX10_count 63 = .ok (.iconst 1, 1) := by decide +kernel
theorem dX10_count_64 : decode cX10_count 64 = .ok (.goto 13, 3) := by decide +kernel
theorem dX10_count_67 : decode cX10_count 67 = .ok (.iload 8, 2) := by decide +kernel
theorem dX10_count_69 : decode cX10_count 69 = .ok (.ifCond .eq 7, 3) := by decide +kernel
theorem dX10_count_72 : decode cX10_count 72 = .ok (.iconst 0, 1) := by decide +kernel
theorem dX10_count_73 : decode cX10_count 73 = .ok (.goto 4, 3) := by decide +kernel
theorem dX10_count_76 : decode cX10_count 76 = .ok (.iconst 2, 1) := by decide +kernel
theorem dX10_count_77 : decode cX10_count 77 = .ok (.invokevirtual 56, 3) := by decide +kernel
theorem dX10_count_80 : decode cX10_count 80 = .ok (.ifCond .eq 19, 3) := by decide +kernel
theorem dX10_count_83 : decode cX10_count 83 = .ok (.aload_n 0, 1) := by decide +kernel
theorem dX10_count_84 : decode cX10_count 84 = .ok (.iload_n 1, 1) := by decide +kernel
theorem dX10_count_85 : decode cX10_count 85 = .ok (.iload_n 2, 1) := by decide +kernel
theorem dX10_count_86 : decode cX10_count 86 = .ok (.iload_n 3, 1) := by decide +kernel
theorem dX10_count_87 : decode cX10_count 87 = .ok (.iload 4, 2) := by decide +kernel
theorem dX10_count_89 : decode cX10_count 89 = .ok (.iload 5, 2) := by decide +kernel
theorem dX10_count_91 : decode cX10_count 91 = .ok (.iload 6, 2) := by decide +kernel
theorem dX10_count_93 : decode cX10_count 93 = .ok (.invokevirtual 107, 3) := by decide +kernel
theorem dX10_count_96 : decode cX10_count 96 = .ok (.goto 4, 3) := by decide +kernel
theorem dX10_count_99 : decode cX10_count 99 = .ok (.iconst 0, 1) := by decide +kernel
theorem dX10_count_100 : decode cX10_count 100 = .ok (.ireturn, 1) := by decide +kernel
set_option maxRecDepth 20000 in
theorem ggX10_densityOf_X10_counts : GoodIn wsX10_densityOf wsX10_counts := goodIn_r _ [6, 7, 8, 9, 10, 11, 12, 13, 5, 14, 15, 16, 17, 18, 19, 20, 21, 22, 23, 24, 25, 26, 27, 28, 29, 30, 31, 32, 33] (by decide +kernel) (by decide +kernel)
set_option maxRecDepth 20000 in
theorem gX10_densityOf_X10_counts : GoodIn wsX10_densityOf (wsV RX10 107 RX10 yX10_counts wsX10_counts) := goodIn_app (goodIn_of _ (by decide +kernel)) ggX10_densityOf_X10_counts
theorem dX10_densityOf_0 : decode cX10_densityOf 0 = .ok (.aload_n 0, 1) := by decide +kernel
theorem dX10_densityOf_1 : decode cX10_densityOf 1 = .ok (.iload_n 1, 1) := by decide +kernel
theorem dX10_densityOf_2 : decode cX10_densityOf 2 = .ok (.iload_n 2, 1) := by decide +kernel
theorem dX10_densityOf_3 : decode cX10_densityOf 3 = .ok (.iload_n 3, 1) := by decide +kernel
theorem dX10_densityOf_4 : decode cX10_densityOf 4 = .ok (.iload 4, 2) := by decide +kernel
theorem dX10_densityOf_6 : decode cX10_densityOf 6 = .ok (.iload 5, 2) := by decide +kernel
theorem dX10_densityOf_8 : decode cX10_densityOf 8 = .ok (.iconst 1, 1) := by decide +kernel
theorem dX10_densityOf_9 : decode cX10_densityOf 9 = .ok (.invokevirtual 107, 3) := by decide +kernel
theorem dX10_densityOf_12 : decode cX10_densityOf 12 = .ok (.i2l, 1) := by decide +kernel
theorem dX10_densityOf_13 : decode cX10_densityOf 13 = .ok (.ldc2_w 111, 3) := by decide +kernel
theorem dX10_densityOf_16 : decode cX10_densityOf 16 = .ok (.lmul, 1) := by decide +kernel
theorem dX10_densityOf_17 : decode cX10_densityOf 17 = .ok (.iload 4, 2) := by decide +kernel
theorem dX10_densityOf_19 : decode cX10_densityOf 19 = .ok (.iload_n 2, 1) := by decide +kernel
theorem dX10_densityOf_20 : decode cX10_densityOf 20 = .ok (.isub, 1) := by decide +kernel
theorem dX10_densityOf_21 : decode cX10_densityOf 21 = .ok (.iconst 1, 1) := by decide +kernel
theorem dX10_densityOf_22 : decode cX10_densityOf 22 = .ok (.iadd, 1) := by decide +kernel
theorem dX10_densityOf_23 : decode cX10_densityOf 23 = .ok (.iload 5, 2) := by decide +kernel
theorem dX10_densityOf_25 : decode cX10_densityOf 25 = .ok (.iload_n 3, 1) := by decide +kernel
theorem dX10_densityOf_26 : decode cX10_densityOf 26 = .ok (.isub, 1) := by decide +kernel
theorem dX10_densityOf_27 : decode cX10_densityOf 27 = .ok (.iconst 1, 1) := by decide +kernel
theorem dX10_densityOf_28 : decode cX10_densityOf 28 = .ok (.iadd, 1) := by decide +kernel
theorem dX10_densityOf_29 : decode cX10_densityOf 29 = .ok (.imul, 1) := by decide +kernel
theorem dX10_densityOf_30 : decode cX10_densityOf 30 = .ok (.i2l, 1) := by decide +kernel
theorem dX10_densityOf_31 : decode cX10_densityOf 31 = .ok (.ldiv, 1) := by decide +kernel
theorem dX10_densityOf_32 : decode cX10_densityOf 32 = .ok (.lreturn, 1) := by decide +kernel
set_option maxRecDepth 20000 in
theorem ggX10_reason_X10_densityOf : GoodIn wsX10_reason wsX10_densityOf := goodIn_r _ [7, 8, 9, 10, 11, 6, 12, 13, 14, 15, 16, 17, 18, 19, 20, 21, 22, 23, 24, 25, 26, 27, 28, 29, 30, 31, 32, 33, 34, 35, 36, 37, 38, 39] (by decide +kernel) (by decide +kernel)
set_option maxRecDepth 20000 in
theorem gX10_reason_X10_densityOf : GoodIn wsX10_reason (wsV RX10 113 RX10 yX10_densityOf wsX10_densityOf) := goodIn_app (goodIn_of _ (by decide +kernel)) ggX10_reason_X10_densityOf
theorem dX10_reason_0 : decode cX10_reason 0 = .ok (.aload_n 0, 1) := by decide +kernel
theorem dX10_reason_1 : decode cX10_reason 1 = .ok (.getfield 101, 3) := by decide +kernel
theorem dX10_reason_4 : decode cX10_reason 4 = .ok (.iconst 2, 1) := by decide +kernel
theorem dX10_reason_5 : decode cX10_reason 5 = .ok (.if_icmp .ge 7, 3) := by decide +kernel
theorem dX10_reason_8 : decode cX10_reason 8 = .ok (.iconst 1, 1) := by decide +kernel
theorem dX10_reason_9 : decode cX10_reason 9 = .ok (.goto 34, 3) := by decide +kernel
theorem dX10_reason_12 : decode cX10_reason 12 = .ok (.aload_n 0, 1) := by decide +kernel
theorem dX10_reason_13 : decode cX10_reason 13 = .ok (.iload_n 1, 1) := by decide +kernel
theorem dX10_reason_14 : decode cX10_reason 14 = .ok (.iload_n 2, 1) := by decide +kernel
theorem dX10_reason_15 : decode cX10_reason 15 = .ok (.iload_n 3, 1) := by decide +kernel
theorem dX10_reason_16 : decode cX10_reason 16 = .ok (.iload 4, 2) := by decide +kernel
theorem dX10_reason_18 : decode cX10_reason 18 = .ok (.iload 5, 2) := by decide +kernel
theorem dX10_reason_20 : decode cX10_reason 20 = .ok (.invokevirtual 113, 3) := by decide +kernel
theorem dX10_reason_23 : decode cX10_reason 23 = .ok (.aload_n 0, 1) := by decide +kernel
theorem dX10_reason_24 : decode cX10_reason 24 = .ok (.getfield 36, 3) := by decide +kernel
theorem dX10_reason_27 : decode cX10_reason 27 = .ok (.aload_n 0, 1) := by decide +kernel
theorem dX10_reason_28 : decode cX10_reason 28 = .ok (.getfield 101, 3) := by decide +kernel
theorem dX10_reason_31 : decode cX10_reason 31 = .ok (.iconst 1, 1) := by decide +kernel
theorem dX10_reason_32 : decode cX10_reason 32 = .ok (.isub, 1) := by decide +kernel
theorem dX10_reason_33 : decode cX10_reason 33 = .ok (.laload, 1) := by decide +kernel
theorem dX10_reason_34 : decode cX10_reason 34 = .ok (.lcmp, 1) := by decide +kernel
theorem dX10_reason_35 : decode cX10_reason 35 = .ok (.ifCond .le 7, 3) := by decide +kernel
theorem dX10_reason_38 : decode cX10_reason 38 = .ok (.iconst 2, 1) := by decide +kernel
theorem dX10_reason_39 : decode cX10_reason 39 = .ok (.goto 4, 3) := by decide +kernel
theorem dX10_reason_42 : decode cX10_reason 42 = .ok (.iconst 0, 1) := by decide +kernel
theorem dX10_reason_43 : decode cX10_reason 43 = .ok (.ireturn, 1) := by decide +kernel
theorem dX10_ageBy_0 : decode cX10_ageBy 0 = .ok (.lload_n 1, 1) := by decide +kernel
theorem dX10_ageBy_1 : decode cX10_ageBy 1 = .ok (.aload_n 0, 1) := by decide +kernel
theorem dX10_ageBy_2 : decode cX10_ageBy 2 = .ok (.getfield 36, 3) := by decide +kernel
theorem dX10_ageBy_5 : decode cX10_ageBy 5 = .ok (.iconst 0, 1) := by decide +kernel
theorem dX10_ageBy_6 : decode cX10_ageBy 6 = .ok (.laload, 1) := by decide +kernel
theorem dX10_ageBy_7 : decode cX10_ageBy 7 = .ok (.lcmp, 1) := by decide +kernel
theorem dX10_ageBy_8 : decode cX10_ageBy 8 = .ok (.ifCond .gt 19, 3) := by decide +kernel
theorem dX10_ageBy_11 : decode cX10_ageBy 11 = .ok (.aload_n 0, 1) := by decide +kernel
theorem dX10_ageBy_12 : decode cX10_ageBy 12 = .ok (.getfield 32, 3) := by decide +kernel
theorem dX10_ageBy_15 : decode cX10_ageBy 15 = .ok (.iconst 0, 1) := by decide +kernel
theorem dX10_ageBy_16 : decode cX10_ageBy 16 = .ok (.laload, 1) := by decide +kernel
theorem dX10_ageBy_17 : decode cX10_ageBy 17 = .ok (.lload_n 1, 1) := by decide +kernel
theorem dX10_ageBy_18 : decode cX10_ageBy 18 = .ok (.lmul, 1) := by decide +kernel
theorem dX10_ageBy_19 : decode cX10_ageBy 19 = .ok (.aload_n 0, 1) := by decide +kernel
theorem dX10_ageBy_20 : decode cX10_ageBy 20 = .ok (.getfield 36, 3) := by decide +kernel
theorem dX10_ageBy_23 : decode cX10_ageBy 23 = .ok (.iconst 0, 1) := by decide +kernel
theorem dX10_ageBy_24 : decode cX10_ageBy 24 = .ok (.laload, 1) := by decide +kernel
theorem dX10_ageBy_25 : decode cX10_ageBy 25 = .ok (.ldiv, 1) := by decide +kernel
theorem dX10_ageBy_26 : decode cX10_ageBy 26 = .ok (.lreturn, 1) := by decide +kernel
theorem dX10_ageBy_27 : decode cX10_ageBy 27 = .ok (.iconst 1, 1) := by decide +kernel
theorem dX10_ageBy_28 : decode cX10_ageBy 28 = .ok (.istore_n 3, 1) := by decide +kernel
theorem dX10_ageBy_29 : decode cX10_ageBy 29 = .ok (.lload_n 1, 1) := by decide +kernel
theorem dX10_ageBy_30 : decode cX10_ageBy 30 = .ok (.aload_n 0, 1) := by decide +kernel
theorem dX10_ageBy_31 : decode cX10_ageBy 31 = .ok (.getfield 36, 3) := by decide +kernel
theorem dX10_ageBy_34 : decode cX10_ageBy 34 = .ok (.iload_n 3, 1) := by decide +kernel
theorem dX10_ageBy_35 : decode cX10_ageBy 35 = .ok (.laload, 1) := by decide +kernel
theorem dX10_ageBy_36 : decode cX10_ageBy 36 = .ok (.lcmp, 1) := by decide +kernel
theorem dX10_ageBy_37 : decode cX10_ageBy 37 = .ok (.ifCond .le 9, 3) := by decide +kernel
theorem dX10_ageBy_40 : decode cX10_ageBy 40 = .ok (.iinc 3 1, 3) := by decide +kernel
theorem dX10_ageBy_43 : decode cX10_ageBy 43 = .ok (.goto (-14), 3) := by decide +kernel
theorem dX10_ageBy_46 : decode cX10_ageBy 46 = .ok (.aload_n 0, 1) := by decide +kernel
theorem dX10_ageBy_47 : decode cX10_ageBy 47 = .ok (.getfield 32, 3) := by decide +kernel
theorem dX10_ageBy_50 : decode cX10_ageBy 50 = .ok (.iload_n 3, 1) := by decide +kernel
theorem dX10_ageBy_51 : decode cX10_ageBy 51 = .ok (.iconst 1, 1) := by decide +kernel
theorem dX10_ageBy_52 : decode cX10_ageBy 52 = .ok (.isub, 1) := by decide +kernel
theorem dX10_ageBy_53 : decode cX10_ageBy 53 = .ok (.laload, 1) := by decide +kernel
theorem dX10_ageBy_54 : decode cX10_ageBy 54 = .ok (.aload_n 0, 1) := by decide +kernel
theorem dX10_ageBy_55 : decode cX10_ageBy 55 = .ok (.getfield 32, 3) := by decide +kernel
theorem dX10_ageBy_58 : decode cX10_ageBy 58 = .ok (.iload_n 3, 1) := by decide +kernel
theorem dX10_ageBy_59 : decode cX10_ageBy 59 = .ok (.laload, 1) := by decide +kernel
theorem dX10_ageBy_60 : decode cX10_ageBy 60 = .ok (.aload_n 0, 1) := by decide +kernel
theorem dX10_ageBy_61 : decode cX10_ageBy 61 = .ok (.getfield 32, 3) := by decide +kernel
theorem dX10_ageBy_64 : decode cX10_ageBy 64 = .ok (.iload_n 3, 1) := by decide +kernel
theorem dX10_ageBy_65 : decode cX10_ageBy 65 = .ok (.iconst 1, 1) := by decide +kernel
theorem dX10_ageBy_66 : decode cX10_ageBy 66 = .ok (.isub, 1) := by decide +kernel
theorem dX10_ageBy_67 : decode cX10_ageBy 67 = .ok (.laload, 1) := by decide +kernel
theorem dX10_ageBy_68 : decode cX10_ageBy 68 = .ok (.lsub, 1) := by decide +kernel
theorem dX10_ageBy_69 : decode cX10_ageBy 69 = .ok (.lload_n 1, 1) := by decide +kernel
theorem dX10_ageBy_70 : decode cX10_ageBy 70 = .ok (.aload_n 0, 1) := by decide +kernel
theorem dX10_ageBy_71 : decode cX10_ageBy 71 = .ok (.getfield 36, 3) := by decide +kernel
theorem dX10_ageBy_74 : decode cX10_ageBy 74 = .ok (.iload_n 3, 1) := by decide +kernel
theorem dX10_ageBy_75 : decode cX10_ageBy 75 = .ok (.iconst 1, 1) := by decide +kernel
theorem dX10_ageBy_76 : decode cX10_ageBy 76 = .ok (.isub, 1) := by decide +kernel
theorem dX10_ageBy_77 : decode cX10_ageBy 77 = .ok (.laload, 1) := by decide +kernel
theorem dX10_ageBy_78 : decode cX10_ageBy 78 = .ok (.lsub, 1) := by decide +kernel
theorem dX10_ageBy_79 : decode cX10_ageBy 79 = .ok (.lmul, 1) := by decide +kernel
theorem dX10_ageBy_80 : decode cX10_ageBy 80 = .ok (.aload_n 0, 1) := by decide +kernel
theorem dX10_ageBy_81 : decode cX10_ageBy 81 = .ok (.getfield 36, 3) := by decide +kernel
theorem dX10_ageBy_84 : decode cX10_ageBy 84 = .ok (.iload_n 3, 1) := by decide +kernel
theorem dX10_ageBy_85 : decode cX10_ageBy 85 = .ok (.laload, 1) := by decide +kernel
theorem dX10_ageBy_86 : decode cX10_ageBy 86 = .ok (.aload_n 0, 1) := by decide +kernel
theorem dX10_ageBy_87 : decode cX10_ageBy 87 = .ok (.getfield 36, 3) := by decide +kernel
theorem dX10_ageBy_90 : decode cX10_ageBy 90 = .ok (.iload_n 3, 1) := by decide +kernel
theorem dX10_ageBy_91 : decode cX10_ageBy 91 = .ok (.iconst 1, 1) := by decide +kernel
theorem dX10_ageBy_92 : decode cX10_ageBy 92 = .ok (.isub, 1) := by decide +kernel
theorem dX10_ageBy_93 : decode cX10_ageBy 93 = .ok (.laload, 1) := by decide +kernel
theorem dX10_ageBy_94 : decode cX10_ageBy 94 = .ok (.lsub, 1) := by decide +kernel
theorem dX10_ageBy_95 : decode cX10_ageBy 95 = .ok (.ldiv, 1) := by decide +kernel
theorem dX10_ageBy_96 : decode cX10_ageBy 96 = .ok (.ladd, 1) := by decide +kernel
theorem dX10_ageBy_97 : decode cX10_ageBy 97 = .ok (.lreturn, 1) := by decide +kernel
set_option maxRecDepth 20000 in
theorem ggX10_age_X10_isEye : GoodIn wsX10_age wsX10_isEye := goodIn_r _ [5, 6, 7, 8, 4, 9, 51, 52, 53, 54, 55, 56, 57, 58, 59, 60, 61, 62, 63, 64] (by decide +kernel) (by decide +kernel)
set_option maxRecDepth 20000 in
theorem gX10_age_X10_isEye : GoodIn wsX10_age (wsV RX10 104 RX10 yX10_isEye wsX10_isEye) := goodIn_app (goodIn_of _ (by decide +kernel)) ggX10_age_X10_isEye
set_option maxRecDepth 20000 in
theorem ggX10_age_X10_areCells : GoodIn wsX10_age wsX10_areCells := goodIn_r _ [12, 13, 14, 4, 15, 7, 8, 9] (by decide +kernel) (by decide +kernel)
set_option maxRecDepth 20000 in
theorem gX10_age_X10_areCells : GoodIn wsX10_age (va_wsS RX10 83 yX10_areCells wsX10_areCells) := goodIn_app (goodIn_of _ (by decide +kernel)) ggX10_age_X10_areCells
set_option maxRecDepth 20000 in
theorem ggX10_age_X10_reason : GoodIn wsX10_age wsX10_reason := goodIn_r _ [19, 20, 21, 22, 23, 24, 4, 25, 26, 27, 28, 29, 30, 31, 32, 33, 34, 35, 36, 37, 38, 39, 40, 7, 8, 9, 51, 52, 53, 54, 55, 56, 57, 58, 59, 60, 61, 62, 63, 64] (by decide +kernel) (by decide +kernel)
set_option maxRecDepth 20000 in
theorem gX10_age_X10_reason : GoodIn wsX10_age (wsV RX10 117 RX10 yX10_reason wsX10_reason) := goodIn_app (goodIn_of _ (by decide +kernel)) ggX10_age_X10_reason
set_option maxRecDepth 20000 in
theorem ggX10_age_X10_can : GoodIn wsX10_age wsX10_can := goodIn_r _ [44, 45, 51, 52, 53, 54, 55, 56, 57, 58, 59, 60, 61, 62, 63, 64] (by decide +kernel) (by decide +kernel)
set_option maxRecDepth 20000 in
theorem gX10_age_X10_can : GoodIn wsX10_age (wsV RX10 56 RX10 yX10_can wsX10_can) := goodIn_app (goodIn_of _ (by decide +kernel)) ggX10_age_X10_can
set_option maxRecDepth 20000 in
theorem ggX10_age_X10_densityOf : GoodIn wsX10_age wsX10_densityOf := goodIn_r _ [25, 26, 27, 28, 29, 4, 30, 31, 32, 33, 34, 35, 36, 37, 38, 39, 40, 7, 8, 9, 51, 52, 53, 54, 55, 56, 57, 58, 59, 60, 61, 62, 63, 64] (by decide +kernel) (by decide +kernel)
set_option maxRecDepth 20000 in
theorem gX10_age_X10_densityOf : GoodIn wsX10_age (wsV RX10 113 RX10 yX10_densityOf wsX10_densityOf) := goodIn_app (goodIn_of _ (by decide +kernel)) ggX10_age_X10_densityOf
set_option maxRecDepth 20000 in
theorem ggX10_age_X10_ageBy : GoodIn wsX10_age wsX10_ageBy := goodIn_r _ [49, 21, 50, 51, 52, 53, 54, 55, 56, 57, 58, 59, 60, 61, 62, 63, 64] (by decide +kernel) (by decide +kernel)
set_option maxRecDepth 20000 in
theorem gX10_age_X10_ageBy : GoodIn wsX10_age (wsV RX10 121 RX10 yX10_ageBy wsX10_ageBy) := goodIn_app (goodIn_of _ (by decide +kernel)) ggX10_age_X10_ageBy
theorem dX10_age_0 : decode cX10_age 0 = .ok (.aload_n 0, 1) := by decide +kernel
theorem dX10_age_1 : decode cX10_age 1 = .ok (.iload_n 1, 1) := by decide +kernel
theorem dX10_age_2 : decode cX10_age 2 = .ok (.invokevirtual 104, 3) := by decide +kernel
theorem dX10_age_5 : decode cX10_age 5 = .ok (.ifCond .eq 19, 3) := by decide +kernel
theorem dX10_age_8 : decode cX10_age 8 = .ok (.iload_n 2, 1) := by decide +kernel
theorem dX10_age_9 : decode cX10_age 9 = .ok (.iload_n 3, 1) := by decide +kernel
theorem dX10_age_10 : decode cX10_age 10 = .ok (.iload 4, 2) := by decide +kernel
theorem dX10_age_12 : decode cX10_age 12 = .ok (.iload 5, 2) := by decide +kernel
theorem dX10_age_14 : decode cX10_age 14 = .ok (.invokestatic 83, 3) := by decide +kernel
theorem dX10_age_17 : decode cX10_age 17 = .ok (.ifCond .eq 7, 3) := by decide +kernel
theorem dX10_age_20 : decode cX10_age 20 = .ok (.iconst 1, 1) := by decide +kernel
theorem dX10_age_21 : decode cX10_age 21 = .ok (.goto 4, 3) := by decide +kernel
theorem dX10_age_24 : decode cX10_age 24 = .ok (.iconst 0, 1) := by decide +kernel
theorem dX10_age_25 : decode cX10_age 25 = .ok (.istore 6, 2) := by decide +kernel
theorem dX10_age_27 : decode cX10_age 27 = .ok (.iload 4, 2) := by decide +kernel
theorem dX10_age_29 : decode cX10_age 29 = .ok (.iload_n 2, 1) := by decide +kernel
theorem dX10_age_30 : decode cX10_age 30 = .ok (.if_icmp .lt 13, 3) := by decide +kernel
theorem dX10_age_33 : decode cX10_age 33 = .ok (.iload 5, 2) := by decide +kernel
theorem dX10_age_35 : decode cX10_age 35 = .ok (.iload_n 3, 1) := by decide +kernel
theorem dX10_age_36 : decode cX10_age 36 = .ok (.if_icmp .lt 7, 3) := by decide +kernel
theorem dX10_age_39 : decode cX10_age 39 = .ok (.iconst 1, 1) := by decide +kernel
theorem dX10_age_40 : decode cX10_age 40 = .ok (.goto 4, 3) := by decide +kernel
theorem dX10_age_43 : decode cX10_age 43 = .ok (.iconst 0, 1) := by decide +kernel
theorem dX10_age_44 : decode cX10_age 44 = .ok (.istore 7, 2) := by decide +kernel
theorem dX10_age_46 : decode cX10_age 46 = .ok (.aload_n 0, 1) := by decide +kernel
theorem dX10_age_47 : decode cX10_age 47 = .ok (.iload 6, 2) := by decide +kernel
theorem dX10_age_49 : decode cX10_age 49 = .ok (.ifCond .ne 7, 3) := by decide +kernel
theorem dX10_age_52 : decode cX10_age 52 = .ok (.iconst 1, 1) := by decide +kernel
theorem dX10_age_53 : decode cX10_age 53 = .ok (.goto 31, 3) := by decide +kernel
theorem dX10_age_56 : decode cX10_age 56 = .ok (.iload 7, 2) := by decide +kernel
theorem dX10_age_58 : decode cX10_age 58 = .ok (.ifCond .ne 7, 3) := by decide +kernel
theorem dX10_age_61 : decode cX10_age 61 = .ok (.iconst 2, 1) := by decide +kernel
theorem dX10_age_62 : decode cX10_age 62 = .ok (.goto 22, 3) := by decide +kernel
theorem dX10_age_65 : decode cX10_age 65 = .ok (.aload_n 0, 1) := by decide +kernel
theorem dX10_age_66 : decode cX10_age 66 = .ok (.iload_n 1, 1) := by decide +kernel
theorem dX10_age_67 : decode cX10_age 67 = .ok (.iload_n 2, 1) := by decide +kernel
theorem dX10_age_68 : decode cX10_age 68 = .ok (.iload_n 3, 1) := by decide +kernel
theorem dX10_age_69 : decode cX10_age 69 = .ok (.iload 4, 2) := by decide +kernel
theorem dX10_age_71 : decode cX10_age 71 = .ok (.iload 5, 2) := by decide +kernel
theorem dX10_age_73 : decode cX10_age 73 = .ok (.invokevirtual 117, 3) := by decide +kernel
theorem dX10_age_76 : decode cX10_age 76 = .ok (.ifCond .le 7, 3) := by decide +kernel
theorem dX10_age_79 : decode cX10_age 79 = .ok (.iconst 3, 1) := by decide +kernel
theorem dX10_age_80 : decode cX10_age 80 = .ok (.goto 4, 3) := by decide +kernel
theorem dX10_age_83 : decode cX10_age 83 = .ok (.iconst 0, 1) := by decide +kernel
theorem dX10_age_84 : decode cX10_age 84 = .ok (.invokevirtual 56, 3) := by decide +kernel
theorem dX10_age_87 : decode cX10_age 87 = .ok (.ifCond .ne 5, 3) := by decide +kernel
theorem dX10_age_90 : decode cX10_age 90 = .ok (.lconst 0, 1) := by decide +kernel
end
section
theorem dX10_age_91 : decode cX10_age 91 = .ok (.lreturn, 1) := by decide +kernel
theorem dX10_age_92 : decode cX10_age 92 = .ok (.aload_n 0, 1) := by decide +kernel
theorem dX10_age_93 : decode cX10_age 93 = .ok (.aload_n 0, 1) := by decide +kernel
theorem dX10_age_94 : decode cX10_age 94 = .ok (.iload_n 1, 1) := by decide +kernel
theorem dX10_age_95 : decode cX10_age 95 = .ok (.iload_n 2, 1) := by decide +kernel
theorem dX10_age_96 : decode cX10_age 96 = .ok (.iload_n 3, 1) := by decide +kernel
theorem dX10_age_97 : decode cX10_age 97 = .ok (.iload 4, 2) := by decide +kernel
theorem dX10_age_99 : decode cX10_age 99 = .ok (.iload 5, 2) := by decide +kernel
theorem dX10_age_101 : decode cX10_age 101 = .ok (.invokevirtual 113, 3) := by decide +kernel
theorem dX10_age_104 : decode cX10_age 104 = .ok (.invokevirtual 121, 3) := by decide +kernel
theorem dX10_age_107 : decode cX10_age 107 = .ok (.lreturn, 1) := by decide +kernel
set_option maxRecDepth 20000 in
theorem ggX10_whyNot_X10_isEye : GoodIn wsX10_whyNot wsX10_isEye := goodIn_r _ [5, 6, 7, 8, 4, 9, 46, 47, 48, 49, 50, 51, 52, 53, 54, 55, 56, 57, 58, 59] (by decide +kernel) (by decide +kernel)
set_option maxRecDepth 20000 in
theorem gX10_whyNot_X10_isEye : GoodIn wsX10_whyNot (wsV RX10 104 RX10 yX10_isEye wsX10_isEye) := goodIn_app (goodIn_of _ (by decide +kernel)) ggX10_whyNot_X10_isEye
set_option maxRecDepth 20000 in
theorem ggX10_whyNot_X10_areCells : GoodIn wsX10_whyNot wsX10_areCells := goodIn_r _ [12, 13, 14, 4, 15, 7, 8, 9] (by decide +kernel) (by decide +kernel)
set_option maxRecDepth 20000 in
theorem gX10_whyNot_X10_areCells : GoodIn wsX10_whyNot (va_wsS RX10 83 yX10_areCells wsX10_areCells) := goodIn_app (goodIn_of _ (by decide +kernel)) ggX10_whyNot_X10_areCells
set_option maxRecDepth 20000 in
theorem ggX10_whyNot_X10_can : GoodIn wsX10_whyNot wsX10_can := goodIn_r _ [19, 20, 46, 47, 48, 49, 50, 51, 52, 53, 54, 55, 56, 57, 58, 59] (by decide +kernel) (by decide +kernel)
set_option maxRecDepth 20000 in
theorem gX10_whyNot_X10_can : GoodIn wsX10_whyNot (wsV RX10 56 RX10 yX10_can wsX10_can) := goodIn_app (goodIn_of _ (by decide +kernel)) ggX10_whyNot_X10_can
set_option maxRecDepth 20000 in
theorem ggX10_whyNot_X10_reason : GoodIn wsX10_whyNot wsX10_reason := goodIn_r _ [24, 25, 26, 27, 28, 29, 4, 30, 31, 32, 33, 34, 35, 36, 37, 38, 39, 40, 41, 42, 43, 44, 45, 7, 8, 9, 46, 47, 48, 49, 50, 51, 52, 53, 54, 55, 56, 57, 58, 59] (by decide +kernel) (by decide +kernel)
set_option maxRecDepth 20000 in
theorem gX10_whyNot_X10_reason : GoodIn wsX10_whyNot (wsV RX10 117 RX10 yX10_reason wsX10_reason) := goodIn_app (goodIn_of _ (by decide +kernel)) ggX10_whyNot_X10_reason
theorem dX10_whyNot_0 : decode cX10_whyNot 0 = .ok (.aload_n 0, 1) := by decide +kernel
theorem dX10_whyNot_1 : decode cX10_whyNot 1 = .ok (.iload_n 1, 1) := by decide +kernel
theorem dX10_whyNot_2 : decode cX10_whyNot 2 = .ok (.invokevirtual 104, 3) := by decide +kernel
theorem dX10_whyNot_5 : decode cX10_whyNot 5 = .ok (.ifCond .eq 19, 3) := by decide +kernel
theorem dX10_whyNot_8 : decode cX10_whyNot 8 = .ok (.iload_n 2, 1) := by decide +kernel
theorem dX10_whyNot_9 : decode cX10_whyNot 9 = .ok (.iload_n 3, 1) := by decide +kernel
theorem dX10_whyNot_10 : decode cX10_whyNot 10 = .ok (.iload 4, 2) := by decide +kernel
theorem dX10_whyNot_12 : decode cX10_whyNot 12 = .ok (.iload 5, 2) := by decide +kernel
theorem dX10_whyNot_14 : decode cX10_whyNot 14 = .ok (.invokestatic 83, 3) := by decide +kernel
theorem dX10_whyNot_17 : decode cX10_whyNot 17 = .ok (.ifCond .eq 7, 3) := by decide +kernel
theorem dX10_whyNot_20 : decode cX10_whyNot 20 = .ok (.iconst 1, 1) := by decide +kernel
theorem dX10_whyNot_21 : decode cX10_whyNot 21 = .ok (.goto 4, 3) := by decide +kernel
theorem dX10_whyNot_24 : decode cX10_whyNot 24 = .ok (.iconst 0, 1) := by decide +kernel
theorem dX10_whyNot_25 : decode cX10_whyNot 25 = .ok (.istore 6, 2) := by decide +kernel
theorem dX10_whyNot_27 : decode cX10_whyNot 27 = .ok (.iload 4, 2) := by decide +kernel
theorem dX10_whyNot_29 : decode cX10_whyNot 29 = .ok (.iload_n 2, 1) := by decide +kernel
theorem dX10_whyNot_30 : decode cX10_whyNot 30 = .ok (.if_icmp .lt 13, 3) := by decide +kernel
theorem dX10_whyNot_33 : decode cX10_whyNot 33 = .ok (.iload 5, 2) := by decide +kernel
theorem dX10_whyNot_35 : decode cX10_whyNot 35 = .ok (.iload_n 3, 1) := by decide +kernel
theorem dX10_whyNot_36 : decode cX10_whyNot 36 = .ok (.if_icmp .lt 7, 3) := by decide +kernel
theorem dX10_whyNot_39 : decode cX10_whyNot 39 = .ok (.iconst 1, 1) := by decide +kernel
theorem dX10_whyNot_40 : decode cX10_whyNot 40 = .ok (.goto 4, 3) := by decide +kernel
theorem dX10_whyNot_43 : decode cX10_whyNot 43 = .ok (.iconst 0, 1) := by decide +kernel
theorem dX10_whyNot_44 : decode cX10_whyNot 44 = .ok (.istore 7, 2) := by decide +kernel
theorem dX10_whyNot_46 : decode cX10_whyNot 46 = .ok (.aload_n 0, 1) := by decide +kernel
theorem dX10_whyNot_47 : decode cX10_whyNot 47 = .ok (.iload 6, 2) := by decide +kernel
theorem dX10_whyNot_49 : decode cX10_whyNot 49 = .ok (.ifCond .ne 7, 3) := by decide +kernel
theorem dX10_whyNot_52 : decode cX10_whyNot 52 = .ok (.iconst 1, 1) := by decide +kernel
theorem dX10_whyNot_53 : decode cX10_whyNot 53 = .ok (.goto 13, 3) := by decide +kernel
theorem dX10_whyNot_56 : decode cX10_whyNot 56 = .ok (.iload 7, 2) := by decide +kernel
theorem dX10_whyNot_58 : decode cX10_whyNot 58 = .ok (.ifCond .eq 7, 3) := by decide +kernel
theorem dX10_whyNot_61 : decode cX10_whyNot 61 = .ok (.iconst 0, 1) := by decide +kernel
theorem dX10_whyNot_62 : decode cX10_whyNot 62 = .ok (.goto 4, 3) := by decide +kernel
theorem dX10_whyNot_65 : decode cX10_whyNot 65 = .ok (.iconst 2, 1) := by decide +kernel
theorem dX10_whyNot_66 : decode cX10_whyNot 66 = .ok (.invokevirtual 56, 3) := by decide +kernel
theorem dX10_whyNot_69 : decode cX10_whyNot 69 = .ok (.ifCond .eq 17, 3) := by decide +kernel
theorem dX10_whyNot_72 : decode cX10_whyNot 72 = .ok (.aload_n 0, 1) := by decide +kernel
theorem dX10_whyNot_73 : decode cX10_whyNot 73 = .ok (.iload_n 1, 1) := by decide +kernel
theorem dX10_whyNot_74 : decode cX10_whyNot 74 = .ok (.iload_n 2, 1) := by decide +kernel
theorem dX10_whyNot_75 : decode cX10_whyNot 75 = .ok (.iload_n 3, 1) := by decide +kernel
theorem dX10_whyNot_76 : decode cX10_whyNot 76 = .ok (.iload 4, 2) := by decide +kernel
theorem dX10_whyNot_78 : decode cX10_whyNot 78 = .ok (.iload 5, 2) := by decide +kernel
theorem dX10_whyNot_80 : decode cX10_whyNot 80 = .ok (.invokevirtual 117, 3) := by decide +kernel
theorem dX10_whyNot_83 : decode cX10_whyNot 83 = .ok (.goto 4, 3) := by decide +kernel
theorem dX10_whyNot_86 : decode cX10_whyNot 86 = .ok (.iconst 0, 1) := by decide +kernel
theorem dX10_whyNot_87 : decode cX10_whyNot 87 = .ok (.ireturn, 1) := by decide +kernel
theorem dX10_craters_0 : decode cX10_craters 0 = .ok (.aload_n 0, 1) := by decide +kernel
theorem dX10_craters_1 : decode cX10_craters 1 = .ok (.iconst 0, 1) := by decide +kernel
theorem dX10_craters_2 : decode cX10_craters 2 = .ok (.putfield 39, 3) := by decide +kernel
theorem dX10_craters_5 : decode cX10_craters 5 = .ok (.aload_n 0, 1) := by decide +kernel
theorem dX10_craters_6 : decode cX10_craters 6 = .ok (.getfield 53, 3) := by decide +kernel
theorem dX10_craters_9 : decode cX10_craters 9 = .ok (.ireturn, 1) := by decide +kernel
set_option maxRecDepth 20000 in
theorem ggX10_about_X10_isCrater : GoodIn wsX10_about wsX10_isCrater := goodIn_r _ [9, 10, 11, 12, 8, 13, 19, 20, 21, 22, 23, 24, 25, 26, 27, 28, 29, 30, 31, 32] (by decide +kernel) (by decide +kernel)
set_option maxRecDepth 20000 in
theorem gX10_about_X10_isCrater : GoodIn wsX10_about (wsV RX10 125 RX10 yX10_isCrater wsX10_isCrater) := goodIn_app (goodIn_of _ (by decide +kernel)) ggX10_about_X10_isCrater
set_option maxRecDepth 20000 in
theorem ggX10_about_X10_isIn : GoodIn wsX10_about wsX10_isIn := goodIn_r _ [13] (by decide +kernel) (by decide +kernel)
set_option maxRecDepth 20000 in
theorem gX10_about_X10_isIn : GoodIn wsX10_about (va_wsS RX10 42 yX10_isIn wsX10_isIn) := goodIn_app (goodIn_of _ (by decide +kernel)) ggX10_about_X10_isIn
set_option maxRecDepth 20000 in
theorem ggX10_about_X10_can : GoodIn wsX10_about wsX10_can := goodIn_r _ [17, 18, 19, 20, 21, 22, 23, 24, 25, 26, 27, 28, 29, 30, 31, 32] (by decide +kernel) (by decide +kernel)
set_option maxRecDepth 20000 in
theorem gX10_about_X10_can : GoodIn wsX10_about (wsV RX10 56 RX10 yX10_can wsX10_can) := goodIn_app (goodIn_of _ (by decide +kernel)) ggX10_about_X10_can
theorem dX10_about_0 : decode cX10_about 0 = .ok (.aload_n 0, 1) := by decide +kernel
theorem dX10_about_1 : decode cX10_about 1 = .ok (.aload_n 0, 1) := by decide +kernel
theorem dX10_about_2 : decode cX10_about 2 = .ok (.iload_n 1, 1) := by decide +kernel
theorem dX10_about_3 : decode cX10_about 3 = .ok (.invokevirtual 125, 3) := by decide +kernel
theorem dX10_about_6 : decode cX10_about 6 = .ok (.ifCond .ne 7, 3) := by decide +kernel
theorem dX10_about_9 : decode cX10_about 9 = .ok (.iconst 1, 1) := by decide +kernel
theorem dX10_about_10 : decode cX10_about 10 = .ok (.goto 17, 3) := by decide +kernel
theorem dX10_about_13 : decode cX10_about 13 = .ok (.iload_n 2, 1) := by decide +kernel
theorem dX10_about_14 : decode cX10_about 14 = .ok (.iconst 0, 1) := by decide +kernel
theorem dX10_about_15 : decode cX10_about 15 = .ok (.iconst 3, 1) := by decide +kernel
theorem dX10_about_16 : decode cX10_about 16 = .ok (.invokestatic 42, 3) := by decide +kernel
theorem dX10_about_19 : decode cX10_about 19 = .ok (.ifCond .eq 7, 3) := by decide +kernel
theorem dX10_about_22 : decode cX10_about 22 = .ok (.iconst 0, 1) := by decide +kernel
theorem dX10_about_23 : decode cX10_about 23 = .ok (.goto 4, 3) := by decide +kernel
theorem dX10_about_26 : decode cX10_about 26 = .ok (.iconst 2, 1) := by decide +kernel
theorem dX10_about_27 : decode cX10_about 27 = .ok (.invokevirtual 56, 3) := by decide +kernel
theorem dX10_about_30 : decode cX10_about 30 = .ok (.ifCond .ne 5, 3) := by decide +kernel
theorem dX10_about_33 : decode cX10_about 33 = .ok (.iconst 0, 1) := by decide +kernel
theorem dX10_about_34 : decode cX10_about 34 = .ok (.ireturn, 1) := by decide +kernel
theorem dX10_about_35 : decode cX10_about 35 = .ok (.iload_n 2, 1) := by decide +kernel
theorem dX10_about_36 : decode cX10_about 36 = .ok (.ifCond .ne 12, 3) := by decide +kernel
theorem dX10_about_39 : decode cX10_about 39 = .ok (.aload_n 0, 1) := by decide +kernel
theorem dX10_about_40 : decode cX10_about 40 = .ok (.getfield 13, 3) := by decide +kernel
theorem dX10_about_43 : decode cX10_about 43 = .ok (.iload_n 1, 1) := by decide +kernel
theorem dX10_about_44 : decode cX10_about 44 = .ok (.iaload, 1) := by decide +kernel
theorem dX10_about_45 : decode cX10_about 45 = .ok (.goto 37, 3) := by decide +kernel
theorem dX10_about_48 : decode cX10_about 48 = .ok (.iload_n 2, 1) := by decide +kernel
theorem dX10_about_49 : decode cX10_about 49 = .ok (.iconst 1, 1) := by decide +kernel
theorem dX10_about_50 : decode cX10_about 50 = .ok (.if_icmp .ne 12, 3) := by decide +kernel
theorem dX10_about_53 : decode cX10_about 53 = .ok (.aload_n 0, 1) := by decide +kernel
theorem dX10_about_54 : decode cX10_about 54 = .ok (.getfield 16, 3) := by decide +kernel
theorem dX10_about_57 : decode cX10_about 57 = .ok (.iload_n 1, 1) := by decide +kernel
theorem dX10_about_58 : decode cX10_about 58 = .ok (.iaload, 1) := by decide +kernel
theorem dX10_about_59 : decode cX10_about 59 = .ok (.goto 23, 3) := by decide +kernel
theorem dX10_about_62 : decode cX10_about 62 = .ok (.iload_n 2, 1) := by decide +kernel
theorem dX10_about_63 : decode cX10_about 63 = .ok (.iconst 2, 1) := by decide +kernel
theorem dX10_about_64 : decode cX10_about 64 = .ok (.if_icmp .ne 12, 3) := by decide +kernel
theorem dX10_about_67 : decode cX10_about 67 = .ok (.aload_n 0, 1) := by decide +kernel
theorem dX10_about_68 : decode cX10_about 68 = .ok (.getfield 19, 3) := by decide +kernel
theorem dX10_about_71 : decode cX10_about 71 = .ok (.iload_n 1, 1) := by decide +kernel
theorem dX10_about_72 : decode cX10_about 72 = .ok (.iaload, 1) := by decide +kernel
theorem dX10_about_73 : decode cX10_about 73 = .ok (.goto 9, 3) := by decide +kernel
theorem dX10_about_76 : decode cX10_about 76 = .ok (.aload_n 0, 1) := by decide +kernel
theorem dX10_about_77 : decode cX10_about 77 = .ok (.getfield 22, 3) := by decide +kernel
theorem dX10_about_80 : decode cX10_about 80 = .ok (.iload_n 1, 1) := by decide +kernel
theorem dX10_about_81 : decode cX10_about 81 = .ok (.iaload, 1) := by decide +kernel
theorem dX10_about_82 : decode cX10_about 82 = .ok (.ireturn, 1) := by decide +kernel
set_option maxRecDepth 20000 in
theorem ggX10_depthAnew_X10_isCrater : GoodIn wsX10_depthAnew wsX10_isCrater := goodIn_r _ [6, 7, 8, 9, 5, 10, 16, 17, 18, 19, 20, 21, 22, 23, 24, 25, 26, 27, 28, 29] (by decide +kernel) (by decide +kernel)
set_option maxRecDepth 20000 in
theorem gX10_depthAnew_X10_isCrater : GoodIn wsX10_depthAnew (wsV RX10 125 RX10 yX10_isCrater wsX10_isCrater) := goodIn_app (goodIn_of _ (by decide +kernel)) ggX10_depthAnew_X10_isCrater
set_option maxRecDepth 20000 in
theorem ggX10_depthAnew_X10_can : GoodIn wsX10_depthAnew wsX10_can := goodIn_r _ [14, 15, 16, 17, 18, 19, 20, 21, 22, 23, 24, 25, 26, 27, 28, 29] (by decide +kernel) (by decide +kernel)
set_option maxRecDepth 20000 in
theorem gX10_depthAnew_X10_can : GoodIn wsX10_depthAnew (wsV RX10 56 RX10 yX10_can wsX10_can) := goodIn_app (goodIn_of _ (by decide +kernel)) ggX10_depthAnew_X10_can
theorem dX10_depthAnew_0 : decode cX10_depthAnew 0 = .ok (.aload_n 0, 1) := by decide +kernel
theorem dX10_depthAnew_1 : decode cX10_depthAnew 1 = .ok (.aload_n 0, 1) := by decide +kernel
theorem dX10_depthAnew_2 : decode cX10_depthAnew 2 = .ok (.iload_n 1, 1) := by decide +kernel
theorem dX10_depthAnew_3 : decode cX10_depthAnew 3 = .ok (.invokevirtual 125, 3) := by decide +kernel
theorem dX10_depthAnew_6 : decode cX10_depthAnew 6 = .ok (.ifCond .eq 7, 3) := by decide +kernel
theorem dX10_depthAnew_9 : decode cX10_depthAnew 9 = .ok (.iconst 0, 1) := by decide +kernel
theorem dX10_depthAnew_10 : decode cX10_depthAnew 10 = .ok (.goto 4, 3) := by decide +kernel
theorem dX10_depthAnew_13 : decode cX10_depthAnew 13 = .ok (.iconst 1, 1) := by decide +kernel
theorem dX10_depthAnew_14 : decode cX10_depthAnew 14 = .ok (.invokevirtual 56, 3) := by decide +kernel
theorem dX10_depthAnew_17 : decode cX10_depthAnew 17 = .ok (.ifCond .eq 12, 3) := by decide +kernel
theorem dX10_depthAnew_20 : decode cX10_depthAnew 20 = .ok (.aload_n 0, 1) := by decide +kernel
theorem dX10_depthAnew_21 : decode cX10_depthAnew 21 = .ok (.getfield 22, 3) := by decide +kernel
theorem dX10_depthAnew_24 : decode cX10_depthAnew 24 = .ok (.iload_n 1, 1) := by decide +kernel
theorem dX10_depthAnew_25 : decode cX10_depthAnew 25 = .ok (.iaload, 1) := by decide +kernel
theorem dX10_depthAnew_26 : decode cX10_depthAnew 26 = .ok (.goto 4, 3) := by decide +kernel
theorem dX10_depthAnew_29 : decode cX10_depthAnew 29 = .ok (.iconst 0, 1) := by decide +kernel
theorem dX10_depthAnew_30 : decode cX10_depthAnew 30 = .ok (.ireturn, 1) := by decide +kernel
set_option maxRecDepth 20000 in
theorem ggX10_topOf_X10_square : GoodIn wsX10_topOf wsX10_square := goodIn_r _ [8, 9, 10, 11, 12, 13, 14, 15, 16, 17, 18, 19, 20, 21, 22, 23, 24] (by decide +kernel) (by decide +kernel)
set_option maxRecDepth 20000 in
theorem gX10_topOf_X10_square : GoodIn wsX10_topOf (wsV RX10 60 RX10 yX10_square wsX10_square) := goodIn_app (goodIn_of _ (by decide +kernel)) ggX10_topOf_X10_square
theorem dX10_topOf_0 : decode cX10_topOf 0 = .ok (.iconst (-1), 1) := by decide +kernel
theorem dX10_topOf_1 : decode cX10_topOf 1 = .ok (.istore_n 3, 1) := by decide +kernel
theorem dX10_topOf_2 : decode cX10_topOf 2 = .ok (.iconst 0, 1) := by decide +kernel
theorem dX10_topOf_3 : decode cX10_topOf 3 = .ok (.istore 4, 2) := by decide +kernel
theorem dX10_topOf_5 : decode cX10_topOf 5 = .ok (.iload 4, 2) := by decide +kernel
theorem dX10_topOf_7 : decode cX10_topOf 7 = .ok (.aload_n 0, 1) := by decide +kernel
theorem dX10_topOf_8 : decode cX10_topOf 8 = .ok (.getfield 53, 3) := by decide +kernel
theorem dX10_topOf_11 : decode cX10_topOf 11 = .ok (.if_icmp .ge 52, 3) := by decide +kernel
theorem dX10_topOf_14 : decode cX10_topOf 14 = .ok (.aload_n 0, 1) := by decide +kernel
theorem dX10_topOf_15 : decode cX10_topOf 15 = .ok (.getfield 22, 3) := by decide +kernel
theorem dX10_topOf_18 : decode cX10_topOf 18 = .ok (.iload 4, 2) := by decide +kernel
theorem dX10_topOf_20 : decode cX10_topOf 20 = .ok (.iaload, 1) := by decide +kernel
theorem dX10_topOf_21 : decode cX10_topOf 21 = .ok (.ifCond .le 34, 3) := by decide +kernel
theorem dX10_topOf_24 : decode cX10_topOf 24 = .ok (.aload_n 0, 1) := by decide +kernel
theorem dX10_topOf_25 : decode cX10_topOf 25 = .ok (.iload 4, 2) := by decide +kernel
theorem dX10_topOf_27 : decode cX10_topOf 27 = .ok (.iload_n 1, 1) := by decide +kernel
theorem dX10_topOf_28 : decode cX10_topOf 28 = .ok (.iload_n 2, 1) := by decide +kernel
theorem dX10_topOf_29 : decode cX10_topOf 29 = .ok (.invokevirtual 60, 3) := by decide +kernel
theorem dX10_topOf_32 : decode cX10_topOf 32 = .ok (.aload_n 0, 1) := by decide +kernel
theorem dX10_topOf_33 : decode cX10_topOf 33 = .ok (.getfield 19, 3) := by decide +kernel
theorem dX10_topOf_36 : decode cX10_topOf 36 = .ok (.iload 4, 2) := by decide +kernel
theorem dX10_topOf_38 : decode cX10_topOf 38 = .ok (.iaload, 1) := by decide +kernel
theorem dX10_topOf_39 : decode cX10_topOf 39 = .ok (.aload_n 0, 1) := by decide +kernel
theorem dX10_topOf_40 : decode cX10_topOf 40 = .ok (.getfield 19, 3) := by decide +kernel
theorem dX10_topOf_43 : decode cX10_topOf 43 = .ok (.iload 4, 2) := by decide +kernel
theorem dX10_topOf_45 : decode cX10_topOf 45 = .ok (.iaload, 1) := by decide +kernel
theorem dX10_topOf_46 : decode cX10_topOf 46 = .ok (.imul, 1) := by decide +kernel
theorem dX10_topOf_47 : decode cX10_topOf 47 = .ok (.if_icmp .gt 8, 3) := by decide +kernel
theorem dX10_topOf_50 : decode cX10_topOf 50 = .ok (.iload 4, 2) := by decide +kernel
theorem dX10_topOf_52 : decode cX10_topOf 52 = .ok (.goto 4, 3) := by decide +kernel
theorem dX10_topOf_55 : decode cX10_topOf 55 = .ok (.iload_n 3, 1) := by decide +kernel
theorem dX10_topOf_56 : decode cX10_topOf 56 = .ok (.istore_n 3, 1) := by decide +kernel
theorem dX10_topOf_57 : decode cX10_topOf 57 = .ok (.iinc 4 1, 3) := by decide +kernel
theorem dX10_topOf_60 : decode cX10_topOf 60 = .ok (.goto (-55), 3) := by decide +kernel
theorem dX10_topOf_63 : decode cX10_topOf 63 = .ok (.iload_n 3, 1) := by decide +kernel
theorem dX10_topOf_64 : decode cX10_topOf 64 = .ok (.ireturn, 1) := by decide +kernel
set_option maxRecDepth 20000 in
theorem ggX10_top_X10_isCell : GoodIn wsX10_top wsX10_isCell := goodIn_r _ [4, 5, 6, 3, 7] (by decide +kernel) (by decide +kernel)
set_option maxRecDepth 20000 in
theorem gX10_top_X10_isCell : GoodIn wsX10_top (va_wsS RX10 46 yX10_isCell wsX10_isCell) := goodIn_app (goodIn_of _ (by decide +kernel)) ggX10_top_X10_isCell
set_option maxRecDepth 20000 in
theorem ggX10_top_X10_can : GoodIn wsX10_top wsX10_can := goodIn_r _ [11, 12, 26, 27, 28, 29, 30, 31, 32, 33, 34, 35, 36, 37, 38, 39] (by decide +kernel) (by decide +kernel)
set_option maxRecDepth 20000 in
theorem gX10_top_X10_can : GoodIn wsX10_top (wsV RX10 56 RX10 yX10_can wsX10_can) := goodIn_app (goodIn_of _ (by decide +kernel)) ggX10_top_X10_can
set_option maxRecDepth 20000 in
theorem ggX10_top_X10_topOf : GoodIn wsX10_top wsX10_topOf := goodIn_r _ [16, 17, 18, 19, 20, 21, 22, 3, 23, 24, 25, 26, 27, 28, 29, 30, 31, 32, 33, 34, 35, 36, 37, 38, 39] (by decide +kernel) (by decide +kernel)
set_option maxRecDepth 20000 in
theorem gX10_top_X10_topOf : GoodIn wsX10_top (wsV RX10 128 RX10 yX10_topOf wsX10_topOf) := goodIn_app (goodIn_of _ (by decide +kernel)) ggX10_top_X10_topOf
theorem dX10_top_0 : decode cX10_top 0 = .ok (.aload_n 0, 1) := by decide +kernel
theorem dX10_top_1 : decode cX10_top 1 = .ok (.iload_n 1, 1) := by decide +kernel
theorem dX10_top_2 : decode cX10_top 2 = .ok (.iload_n 2, 1) := by decide +kernel
theorem dX10_top_3 : decode cX10_top 3 = .ok (.invokestatic 46, 3) := by decide +kernel
theorem dX10_top_6 : decode cX10_top 6 = .ok (.ifCond .eq 7, 3) := by decide +kernel
theorem dX10_top_9 : decode cX10_top 9 = .ok (.iconst 0, 1) := by decide +kernel
theorem dX10_top_10 : decode cX10_top 10 = .ok (.goto 4, 3) := by decide +kernel
theorem dX10_top_13 : decode cX10_top 13 = .ok (.iconst 1, 1) := by decide +kernel
theorem dX10_top_14 : decode cX10_top 14 = .ok (.invokevirtual 56, 3) := by decide +kernel
theorem dX10_top_17 : decode cX10_top 17 = .ok (.ifCond .eq 12, 3) := by decide +kernel
theorem dX10_top_20 : decode cX10_top 20 = .ok (.aload_n 0, 1) := by decide +kernel
theorem dX10_top_21 : decode cX10_top 21 = .ok (.iload_n 1, 1) := by decide +kernel
theorem dX10_top_22 : decode cX10_top 22 = .ok (.iload_n 2, 1) := by decide +kernel
theorem dX10_top_23 : decode cX10_top 23 = .ok (.invokevirtual 128, 3) := by decide +kernel
theorem dX10_top_26 : decode cX10_top 26 = .ok (.goto 4, 3) := by decide +kernel
theorem dX10_top_29 : decode cX10_top 29 = .ok (.iconst 0, 1) := by decide +kernel
theorem dX10_top_30 : decode cX10_top 30 = .ok (.ireturn, 1) := by decide +kernel
set_option maxRecDepth 20000 in
theorem ggX10_topAnew_X10_isCell : GoodIn wsX10_topAnew wsX10_isCell := goodIn_r _ [4, 5, 6, 3, 7] (by decide +kernel) (by decide +kernel)
set_option maxRecDepth 20000 in
theorem gX10_topAnew_X10_isCell : GoodIn wsX10_topAnew (va_wsS RX10 46 yX10_isCell wsX10_isCell) := goodIn_app (goodIn_of _ (by decide +kernel)) ggX10_topAnew_X10_isCell
set_option maxRecDepth 20000 in
theorem ggX10_topAnew_X10_can : GoodIn wsX10_topAnew wsX10_can := goodIn_r _ [11, 12, 26, 27, 28, 29, 30, 31, 32, 33, 34, 35, 36, 37, 38, 39] (by decide +kernel) (by decide +kernel)
set_option maxRecDepth 20000 in
theorem gX10_topAnew_X10_can : GoodIn wsX10_topAnew (wsV RX10 56 RX10 yX10_can wsX10_can) := goodIn_app (goodIn_of _ (by decide +kernel)) ggX10_topAnew_X10_can
set_option maxRecDepth 20000 in
theorem ggX10_topAnew_X10_topOf : GoodIn wsX10_topAnew wsX10_topOf := goodIn_r _ [16, 17, 18, 19, 20, 21, 22, 3, 23, 24, 25, 26, 27, 28, 29, 30, 31, 32, 33, 34, 35, 36, 37, 38, 39] (by decide +kernel) (by decide +kernel)
set_option maxRecDepth 20000 in
theorem gX10_topAnew_X10_topOf : GoodIn wsX10_topAnew (wsV RX10 128 RX10 yX10_topOf wsX10_topOf) := goodIn_app (goodIn_of _ (by decide +kernel)) ggX10_topAnew_X10_topOf
theorem dX10_topAnew_0 : decode cX10_topAnew 0 = .ok (.aload_n 0, 1) := by decide +kernel
theorem dX10_topAnew_1 : decode cX10_topAnew 1 = .ok (.iload_n 1, 1) := by decide +kernel
theorem dX10_topAnew_2 : decode cX10_topAnew 2 = .ok (.iload_n 2, 1) := by decide +kernel
theorem dX10_topAnew_3 : decode cX10_topAnew 3 = .ok (.invokestatic 46, 3) := by decide +kernel
theorem dX10_topAnew_6 : decode cX10_topAnew 6 = .ok (.ifCond .eq 7, 3) := by decide +kernel
theorem dX10_topAnew_9 : decode cX10_topAnew 9 = .ok (.iconst 0, 1) := by decide +kernel
theorem dX10_topAnew_10 : decode cX10_topAnew 10 = .ok (.goto 4, 3) := by decide +kernel
theorem dX10_topAnew_13 : decode cX10_topAnew 13 = .ok (.iconst 1, 1) := by decide +kernel
theorem dX10_topAnew_14 : decode cX10_topAnew 14 = .ok (.invokevirtual 56, 3) := by decide +kernel
theorem dX10_topAnew_17 : decode cX10_topAnew 17 = .ok (.ifCond .eq 12, 3) := by decide +kernel
theorem dX10_topAnew_20 : decode cX10_topAnew 20 = .ok (.aload_n 0, 1) := by decide +kernel
theorem dX10_topAnew_21 : decode cX10_topAnew 21 = .ok (.iload_n 1, 1) := by decide +kernel
theorem dX10_topAnew_22 : decode cX10_topAnew 22 = .ok (.iload_n 2, 1) := by decide +kernel
theorem dX10_topAnew_23 : decode cX10_topAnew 23 = .ok (.invokevirtual 128, 3) := by decide +kernel
theorem dX10_topAnew_26 : decode cX10_topAnew 26 = .ok (.goto 4, 3) := by decide +kernel
theorem dX10_topAnew_29 : decode cX10_topAnew 29 = .ok (.iconst 0, 1) := by decide +kernel
theorem dX10_topAnew_30 : decode cX10_topAnew 30 = .ok (.ireturn, 1) := by decide +kernel
theorem dJ9_max_7cf53_0 : decode cJ9_max_7cf53 0 = .ok (.iload_n 0, 1) := by decide +kernel
theorem dJ9_max_7cf53_1 : decode cJ9_max_7cf53 1 = .ok (.iload_n 1, 1) := by decide +kernel
theorem dJ9_max_7cf53_2 : decode cJ9_max_7cf53 2 = .ok (.if_icmp .lt 7, 3) := by decide +kernel
theorem dJ9_max_7cf53_5 : decode cJ9_max_7cf53 5 = .ok (.iload_n 0, 1) := by decide +kernel
theorem dJ9_max_7cf53_6 : decode cJ9_max_7cf53 6 = .ok (.goto 4, 3) := by decide +kernel
theorem dJ9_max_7cf53_9 : decode cJ9_max_7cf53 9 = .ok (.iload_n 1, 1) := by decide +kernel
theorem dJ9_max_7cf53_10 : decode cJ9_max_7cf53 10 = .ok (.ireturn, 1) := by decide +kernel
theorem dJ9_min_7cf53_0 : decode cJ9_min_7cf53 0 = .ok (.iload_n 0, 1) := by decide +kernel
theorem dJ9_min_7cf53_1 : decode cJ9_min_7cf53 1 = .ok (.iload_n 1, 1) := by decide +kernel
theorem dJ9_min_7cf53_2 : decode cJ9_min_7cf53 2 = .ok (.if_icmp .gt 7, 3) := by decide +kernel
theorem dJ9_min_7cf53_5 : decode cJ9_min_7cf53 5 = .ok (.iload_n 0, 1) := by decide +kernel
theorem dJ9_min_7cf53_6 : decode cJ9_min_7cf53 6 = .ok (.goto 4, 3) := by decide +kernel
theorem dJ9_min_7cf53_9 : decode cJ9_min_7cf53 9 = .ok (.iload_n 1, 1) := by decide +kernel
theorem dJ9_min_7cf53_10 : decode cJ9_min_7cf53 10 = .ok (.ireturn, 1) := by decide +kernel
theorem dJxa1e45_init_da8c8_0 : decode cJxa1e45_init_da8c8 0 = .ok (.aload_n 0, 1) := by decide +kernel
theorem dJxa1e45_init_da8c8_1 : decode cJxa1e45_init_da8c8 1 = .ok (.invokespecial 1, 3) := by decide +kernel
theorem dJxa1e45_init_da8c8_4 : decode cJxa1e45_init_da8c8 4 = .ok (.return_, 1) := by decide +kernel
set_option maxRecDepth 20000 in
theorem ggJxc12de_init_da8c8_Jxa1e45_init_da8c8 : GoodIn wsJxc12de_init_da8c8 wsJxa1e45_init_da8c8 := goodIn_r _ [5, 6, 7, 8] (by decide +kernel) (by decide +kernel)
set_option maxRecDepth 20000 in
theorem gJxc12de_init_da8c8_Jxa1e45_init_da8c8 : GoodIn wsJxc12de_init_da8c8 (wsJxa1e45_init_da8c8) := ggJxc12de_init_da8c8_Jxa1e45_init_da8c8
theorem dJxc12de_init_da8c8_0 : decode cJxc12de_init_da8c8 0 = .ok (.aload_n 0, 1) := by decide +kernel
theorem dJxc12de_init_da8c8_1 : decode cJxc12de_init_da8c8 1 = .ok (.invokespecial 1, 3) := by decide +kernel
theorem dJxc12de_init_da8c8_4 : decode cJxc12de_init_da8c8 4 = .ok (.aload_n 0, 1) := by decide +kernel
theorem dJxc12de_init_da8c8_5 : decode cJxc12de_init_da8c8 5 = .ok (.iconst 0, 1) := by decide +kernel
theorem dJxc12de_init_da8c8_6 : decode cJxc12de_init_da8c8 6 = .ok (.putfield 7, 3) := by decide +kernel
theorem dJxc12de_init_da8c8_9 : decode cJxc12de_init_da8c8 9 = .ok (.return_, 1) := by decide +kernel
set_option maxRecDepth 20000 in
theorem ggJx4a65c_init_da8c8_Jxc12de_init_da8c8 : GoodIn wsJx4a65c_init_da8c8 wsJxc12de_init_da8c8 := goodIn_r _ [6, 7, 8, 9, 10, 11, 12, 13, 14, 15, 16, 17] (by decide +kernel) (by decide +kernel)
set_option maxRecDepth 20000 in
theorem gJx4a65c_init_da8c8_Jxc12de_init_da8c8 : GoodIn wsJx4a65c_init_da8c8 (wsJxc12de_init_da8c8) := ggJx4a65c_init_da8c8_Jxc12de_init_da8c8
theorem dJx4a65c_init_da8c8_0 : decode cJx4a65c_init_da8c8 0 = .ok (.aload_n 0, 1) := by decide +kernel
theorem dJx4a65c_init_da8c8_1 : decode cJx4a65c_init_da8c8 1 = .ok (.invokespecial 1, 3) := by decide +kernel
theorem dJx4a65c_init_da8c8_4 : decode cJx4a65c_init_da8c8 4 = .ok (.aload_n 0, 1) := by decide +kernel
theorem dJx4a65c_init_da8c8_5 : decode cJx4a65c_init_da8c8 5 = .ok (.getstatic 39, 3) := by decide +kernel
theorem dJx4a65c_init_da8c8_8 : decode cJx4a65c_init_da8c8 8 = .ok (.putfield 9, 3) := by decide +kernel
theorem dJx4a65c_init_da8c8_11 : decode cJx4a65c_init_da8c8 11 = .ok (.return_, 1) := by decide +kernel
set_option maxRecDepth 20000 in
theorem ggJx4a65c_grow_92f84_J8_newLength_cabcc : GoodIn wsJx4a65c_grow_92f84 wsJ8_newLength_cabcc := goodIn_r _ [11, 12, 4, 5, 6, 13, 14, 15, 10, 16] (by decide +kernel) (by decide +kernel)
set_option maxRecDepth 20000 in
theorem gJx4a65c_grow_92f84_J8_newLength_cabcc : GoodIn wsJx4a65c_grow_92f84 (va_wsS RJx4a65c 73 yJ8_newLength_cabcc wsJ8_newLength_cabcc) := goodIn_app (goodIn_of _ (by decide +kernel)) ggJx4a65c_grow_92f84_J8_newLength_cabcc
set_option maxRecDepth 20000 in
theorem ggJx4a65c_grow_92f84_J7_copyOf_1904c : GoodIn wsJx4a65c_grow_92f84 wsJ7_copyOf_1904c := goodIn_r _ [20, 21, 22, 23, 24, 25, 26, 19, 27, 28, 29, 30, 31, 5, 32, 33, 34, 35, 36] (by decide +kernel) (by decide +kernel)
set_option maxRecDepth 20000 in
theorem gJx4a65c_grow_92f84_J7_copyOf_1904c : GoodIn wsJx4a65c_grow_92f84 (va_wsS RJx4a65c 66 yJ7_copyOf_1904c wsJ7_copyOf_1904c) := goodIn_app (goodIn_of _ (by decide +kernel)) ggJx4a65c_grow_92f84_J7_copyOf_1904c
theorem dJx4a65c_grow_92f84_0 : decode cJx4a65c_grow_92f84 0 = .ok (.aload_n 0, 1) := by decide +kernel
theorem dJx4a65c_grow_92f84_1 : decode cJx4a65c_grow_92f84 1 = .ok (.getfield 9, 3) := by decide +kernel
theorem dJx4a65c_grow_92f84_4 : decode cJx4a65c_grow_92f84 4 = .ok (.arraylength, 1) := by decide +kernel
theorem dJx4a65c_grow_92f84_5 : decode cJx4a65c_grow_92f84 5 = .ok (.istore_n 2, 1) := by decide +kernel
theorem dJx4a65c_grow_92f84_6 : decode cJx4a65c_grow_92f84 6 = .ok (.iload_n 2, 1) := by decide +kernel
theorem dJx4a65c_grow_92f84_7 : decode cJx4a65c_grow_92f84 7 = .ok (.ifCond .gt 13, 3) := by decide +kernel
theorem dJx4a65c_grow_92f84_10 : decode cJx4a65c_grow_92f84 10 = .ok (.aload_n 0, 1) := by decide +kernel
theorem dJx4a65c_grow_92f84_11 : decode cJx4a65c_grow_92f84 11 = .ok (.getfield 9, 3) := by decide +kernel
theorem dJx4a65c_grow_92f84_14 : decode cJx4a65c_grow_92f84 14 = .ok (.getstatic 39, 3) := by decide +kernel
theorem dJx4a65c_grow_92f84_17 : decode cJx4a65c_grow_92f84 17 = .ok (.if_acmp .eq 28, 3) := by decide +kernel
theorem dJx4a65c_grow_92f84_20 : decode cJx4a65c_grow_92f84 20 = .ok (.iload_n 2, 1) := by decide +kernel
theorem dJx4a65c_grow_92f84_21 : decode cJx4a65c_grow_92f84 21 = .ok (.iload_n 1, 1) := by decide +kernel
theorem dJx4a65c_grow_92f84_22 : decode cJx4a65c_grow_92f84 22 = .ok (.iload_n 2, 1) := by decide +kernel
theorem dJx4a65c_grow_92f84_23 : decode cJx4a65c_grow_92f84 23 = .ok (.isub, 1) := by decide +kernel
theorem dJx4a65c_grow_92f84_24 : decode cJx4a65c_grow_92f84 24 = .ok (.iload_n 2, 1) := by decide +kernel
theorem dJx4a65c_grow_92f84_25 : decode cJx4a65c_grow_92f84 25 = .ok (.iconst 1, 1) := by decide +kernel
theorem dJx4a65c_grow_92f84_26 : decode cJx4a65c_grow_92f84 26 = .ok (.ishr, 1) := by decide +kernel
theorem dJx4a65c_grow_92f84_27 : decode cJx4a65c_grow_92f84 27 = .ok (.invokestatic 73, 3) := by decide +kernel
theorem dJx4a65c_grow_92f84_30 : decode cJx4a65c_grow_92f84 30 = .ok (.istore_n 3, 1) := by decide +kernel
theorem dJx4a65c_grow_92f84_31 : decode cJx4a65c_grow_92f84 31 = .ok (.aload_n 0, 1) := by decide +kernel
theorem dJx4a65c_grow_92f84_32 : decode cJx4a65c_grow_92f84 32 = .ok (.aload_n 0, 1) := by decide +kernel
theorem dJx4a65c_grow_92f84_33 : decode cJx4a65c_grow_92f84 33 = .ok (.getfield 9, 3) := by decide +kernel
theorem dJx4a65c_grow_92f84_36 : decode cJx4a65c_grow_92f84 36 = .ok (.iload_n 3, 1) := by decide +kernel
theorem dJx4a65c_grow_92f84_37 : decode cJx4a65c_grow_92f84 37 = .ok (.invokestatic 66, 3) := by decide +kernel
theorem dJx4a65c_grow_92f84_40 : decode cJx4a65c_grow_92f84 40 = .ok (.dup_x1, 1) := by decide +kernel
theorem dJx4a65c_grow_92f84_41 : decode cJx4a65c_grow_92f84 41 = .ok (.putfield 9, 3) := by decide +kernel
theorem dJx4a65c_grow_92f84_44 : decode cJx4a65c_grow_92f84 44 = .ok (.areturn, 1) := by decide +kernel
theorem dJx4a65c_grow_92f84_45 : decode cJx4a65c_grow_92f84 45 = .ok (.aload_n 0, 1) := by decide +kernel
theorem dJx4a65c_grow_92f84_46 : decode cJx4a65c_grow_92f84 46 = .ok (.bipush 10, 2) := by decide +kernel
theorem dJx4a65c_grow_92f84_48 : decode cJx4a65c_grow_92f84 48 = .ok (.iload_n 1, 1) := by decide +kernel
theorem dJx4a65c_grow_92f84_49 : decode cJx4a65c_grow_92f84 49 = .ok (.invokestatic 79, 3) := by decide +kernel
theorem dJx4a65c_grow_92f84_52 : decode cJx4a65c_grow_92f84 52 = .ok (.anewarray 7, 3) := by decide +kernel
theorem dJx4a65c_grow_92f84_55 : decode cJx4a65c_grow_92f84 55 = .ok (.dup_x1, 1) := by decide +kernel
theorem dJx4a65c_grow_92f84_56 : decode cJx4a65c_grow_92f84 56 = .ok (.putfield 9, 3) := by decide +kernel
theorem dJx4a65c_grow_92f84_59 : decode cJx4a65c_grow_92f84 59 = .ok (.areturn, 1) := by decide +kernel
set_option maxRecDepth 20000 in
theorem ggJx4a65c_grow_d5877_Jx4a65c_grow_92f84 : GoodIn wsJx4a65c_grow_d5877 wsJx4a65c_grow_92f84 := goodIn_r _ [6, 7, 8, 9, 10, 11, 12, 13, 14, 15, 16, 17, 18, 19, 20, 21, 22, 23, 24, 25, 26, 27, 28, 29, 30, 31, 32, 33, 34, 35, 36, 37, 38, 39, 40, 41, 42, 43, 44, 45] (by decide +kernel) (by decide +kernel)
set_option maxRecDepth 20000 in
theorem gJx4a65c_grow_d5877_Jx4a65c_grow_92f84 : GoodIn wsJx4a65c_grow_d5877 (wsV RJx4a65c 69 RJx4a65c yJx4a65c_grow_92f84 wsJx4a65c_grow_92f84) := goodIn_app (goodIn_of _ (by decide +kernel)) ggJx4a65c_grow_d5877_Jx4a65c_grow_92f84
theorem dJx4a65c_grow_d5877_0 : decode cJx4a65c_grow_d5877 0 = .ok (.aload_n 0, 1) := by decide +kernel
theorem dJx4a65c_grow_d5877_1 : decode cJx4a65c_grow_d5877 1 = .ok (.aload_n 0, 1) := by decide +kernel
theorem dJx4a65c_grow_d5877_2 : decode cJx4a65c_grow_d5877 2 = .ok (.getfield 48, 3) := by decide +kernel
theorem dJx4a65c_grow_d5877_5 : decode cJx4a65c_grow_d5877 5 = .ok (.iconst 1, 1) := by decide +kernel
theorem dJx4a65c_grow_d5877_6 : decode cJx4a65c_grow_d5877 6 = .ok (.iadd, 1) := by decide +kernel
theorem dJx4a65c_grow_d5877_7 : decode cJx4a65c_grow_d5877 7 = .ok (.invokevirtual 69, 3) := by decide +kernel
theorem dJx4a65c_grow_d5877_10 : decode cJx4a65c_grow_d5877 10 = .ok (.areturn, 1) := by decide +kernel
theorem dJx4a65c_size_8abf5_0 : decode cJx4a65c_size_8abf5 0 = .ok (.aload_n 0, 1) := by decide +kernel
theorem dJx4a65c_size_8abf5_1 : decode cJx4a65c_size_8abf5 1 = .ok (.getfield 48, 3) := by decide +kernel
theorem dJx4a65c_size_8abf5_4 : decode cJx4a65c_size_8abf5 4 = .ok (.ireturn, 1) := by decide +kernel
theorem dJx4a65c_elementData_915e3_0 : decode cJx4a65c_elementData_915e3 0 = .ok (.aload_n 0, 1) := by decide +kernel
theorem dJx4a65c_elementData_915e3_1 : decode cJx4a65c_elementData_915e3 1 = .ok (.getfield 9, 3) := by decide +kernel
theorem dJx4a65c_elementData_915e3_4 : decode cJx4a65c_elementData_915e3 4 = .ok (.iload_n 1, 1) := by decide +kernel
theorem dJx4a65c_elementData_915e3_5 : decode cJx4a65c_elementData_915e3 5 = .ok (.aaload, 1) := by decide +kernel
theorem dJx4a65c_elementData_915e3_6 : decode cJx4a65c_elementData_915e3 6 = .ok (.areturn, 1) := by decide +kernel
set_option maxRecDepth 20000 in
theorem ggJx4a65c_get_915e3_J15_checkIndex_7cf53 : GoodIn wsJx4a65c_get_915e3 wsJ15_checkIndex_7cf53 := goodIn_r _ [5, 6, 7, 8, 9] (by decide +kernel) (by decide +kernel)
set_option maxRecDepth 20000 in
theorem gJx4a65c_get_915e3_J15_checkIndex_7cf53 : GoodIn wsJx4a65c_get_915e3 (va_wsS RJx4a65c 118 yJ15_checkIndex_7cf53 wsJ15_checkIndex_7cf53) := goodIn_app (goodIn_of _ (by decide +kernel)) ggJx4a65c_get_915e3_J15_checkIndex_7cf53
set_option maxRecDepth 20000 in
theorem ggJx4a65c_get_915e3_Jx4a65c_elementData_915e3 : GoodIn wsJx4a65c_get_915e3 wsJx4a65c_elementData_915e3 := goodIn_r _ [14, 15, 16, 17, 18] (by decide +kernel) (by decide +kernel)
set_option maxRecDepth 20000 in
theorem gJx4a65c_get_915e3_Jx4a65c_elementData_915e3 : GoodIn wsJx4a65c_get_915e3 (wsV RJx4a65c 123 RJx4a65c yJx4a65c_elementData_915e3 wsJx4a65c_elementData_915e3) := goodIn_app (goodIn_of _ (by decide +kernel)) ggJx4a65c_get_915e3_Jx4a65c_elementData_915e3
theorem dJx4a65c_get_915e3_0 : decode cJx4a65c_get_915e3 0 = .ok (.iload_n 1, 1) := by decide +kernel
theorem dJx4a65c_get_915e3_1 : decode cJx4a65c_get_915e3 1 = .ok (.aload_n 0, 1) := by decide +kernel
theorem dJx4a65c_get_915e3_2 : decode cJx4a65c_get_915e3 2 = .ok (.getfield 48, 3) := by decide +kernel
theorem dJx4a65c_get_915e3_5 : decode cJx4a65c_get_915e3 5 = .ok (.invokestatic 118, 3) := by decide +kernel
theorem dJx4a65c_get_915e3_8 : decode cJx4a65c_get_915e3 8 = .ok (.pop, 1) := by decide +kernel
theorem dJx4a65c_get_915e3_9 : decode cJx4a65c_get_915e3 9 = .ok (.aload_n 0, 1) := by decide +kernel
theorem dJx4a65c_get_915e3_10 : decode cJx4a65c_get_915e3 10 = .ok (.iload_n 1, 1) := by decide +kernel
theorem dJx4a65c_get_915e3_11 : decode cJx4a65c_get_915e3 11 = .ok (.invokevirtual 123, 3) := by decide +kernel
theorem dJx4a65c_get_915e3_14 : decode cJx4a65c_get_915e3 14 = .ok (.areturn, 1) := by decide +kernel
set_option maxRecDepth 20000 in
theorem ggJx4a65c_add_72be8_Jx4a65c_grow_d5877 : GoodIn wsJx4a65c_add_72be8 wsJx4a65c_grow_d5877 := goodIn_r _ [6, 1, 7, 8, 9, 5, 10, 11, 12, 13, 14, 15, 16, 17, 18, 19, 20, 21, 22, 23, 24, 25, 26, 27, 28, 29, 30, 31, 32, 33, 34, 35, 36, 37, 38, 39, 40, 41, 42, 43, 44, 45, 46, 47, 48, 49] (by decide +kernel) (by decide +kernel)
set_option maxRecDepth 20000 in
theorem gJx4a65c_add_72be8_Jx4a65c_grow_d5877 : GoodIn wsJx4a65c_add_72be8 (wsV RJx4a65c 129 RJx4a65c yJx4a65c_grow_d5877 wsJx4a65c_grow_d5877) := goodIn_app (goodIn_of _ (by decide +kernel)) ggJx4a65c_add_72be8_Jx4a65c_grow_d5877
theorem dJx4a65c_add_72be8_0 : decode cJx4a65c_add_72be8 0 = .ok (.iload_n 3, 1) := by decide +kernel
theorem dJx4a65c_add_72be8_1 : decode cJx4a65c_add_72be8 1 = .ok (.aload_n 2, 1) := by decide +kernel
theorem dJx4a65c_add_72be8_2 : decode cJx4a65c_add_72be8 2 = .ok (.arraylength, 1) := by decide +kernel
theorem dJx4a65c_add_72be8_3 : decode cJx4a65c_add_72be8 3 = .ok (.if_icmp .ne 8, 3) := by decide +kernel
theorem dJx4a65c_add_72be8_6 : decode cJx4a65c_add_72be8 6 = .ok (.aload_n 0, 1) := by decide +kernel
theorem dJx4a65c_add_72be8_7 : decode cJx4a65c_add_72be8 7 = .ok (.invokevirtual 129, 3) := by decide +kernel
theorem dJx4a65c_add_72be8_10 : decode cJx4a65c_add_72be8 10 = .ok (.astore_n 2, 1) := by decide +kernel
theorem dJx4a65c_add_72be8_11 : decode cJx4a65c_add_72be8 11 = .ok (.aload_n 2, 1) := by decide +kernel
theorem dJx4a65c_add_72be8_12 : decode cJx4a65c_add_72be8 12 = .ok (.iload_n 3, 1) := by decide +kernel
theorem dJx4a65c_add_72be8_13 : decode cJx4a65c_add_72be8 13 = .ok (.aload_n 1, 1) := by decide +kernel
theorem dJx4a65c_add_72be8_14 : decode cJx4a65c_add_72be8 14 = .ok (.aastore, 1) := by decide +kernel
theorem dJx4a65c_add_72be8_15 : decode cJx4a65c_add_72be8 15 = .ok (.aload_n 0, 1) := by decide +kernel
theorem dJx4a65c_add_72be8_16 : decode cJx4a65c_add_72be8 16 = .ok (.iload_n 3, 1) := by decide +kernel
theorem dJx4a65c_add_72be8_17 : decode cJx4a65c_add_72be8 17 = .ok (.iconst 1, 1) := by decide +kernel
theorem dJx4a65c_add_72be8_18 : decode cJx4a65c_add_72be8 18 = .ok (.iadd, 1) := by decide +kernel
theorem dJx4a65c_add_72be8_19 : decode cJx4a65c_add_72be8 19 = .ok (.putfield 48, 3) := by decide +kernel
theorem dJx4a65c_add_72be8_22 : decode cJx4a65c_add_72be8 22 = .ok (.return_, 1) := by decide +kernel
set_option maxRecDepth 20000 in
theorem ggJx4a65c_add_9ea2d_Jx4a65c_add_72be8 : GoodIn wsJx4a65c_add_9ea2d wsJx4a65c_add_72be8 := goodIn_r _ [9, 4, 10, 11, 12, 8, 13, 14, 15, 16, 17, 3, 18, 19, 20, 21, 22, 23, 24, 25, 26, 27, 28, 29, 30, 31, 32, 33, 34, 35, 36, 37, 38, 39, 40, 41, 42, 43, 44, 45, 46, 47, 48, 49, 50, 51, 52, 53, 54, 55] (by decide +kernel) (by decide +kernel)
set_option maxRecDepth 20000 in
theorem gJx4a65c_add_9ea2d_Jx4a65c_add_72be8 : GoodIn wsJx4a65c_add_9ea2d (wsV RJx4a65c 131 RJx4a65c yJx4a65c_add_72be8 wsJx4a65c_add_72be8) := goodIn_app (goodIn_of _ (by decide +kernel)) ggJx4a65c_add_9ea2d_Jx4a65c_add_72be8
theorem dJx4a65c_add_9ea2d_0 : decode cJx4a65c_add_9ea2d 0 = .ok (.aload_n 0, 1) := by decide +kernel
theorem dJx4a65c_add_9ea2d_1 : decode cJx4a65c_add_9ea2d 1 = .ok (.dup, 1) := by decide +kernel
theorem dJx4a65c_add_9ea2d_2 : decode cJx4a65c_add_9ea2d 2 = .ok (.getfield 63, 3) := by decide +kernel
theorem dJx4a65c_add_9ea2d_5 : decode cJx4a65c_add_9ea2d 5 = .ok (.iconst 1, 1) := by decide +kernel
theorem dJx4a65c_add_9ea2d_6 : decode cJx4a65c_add_9ea2d 6 = .ok (.iadd, 1) := by decide +kernel
theorem dJx4a65c_add_9ea2d_7 : decode cJx4a65c_add_9ea2d 7 = .ok (.putfield 63, 3) := by decide +kernel
theorem dJx4a65c_add_9ea2d_10 : decode cJx4a65c_add_9ea2d 10 = .ok (.aload_n 0, 1) := by decide +kernel
theorem dJx4a65c_add_9ea2d_11 : decode cJx4a65c_add_9ea2d 11 = .ok (.aload_n 1, 1) := by decide +kernel
theorem dJx4a65c_add_9ea2d_12 : decode cJx4a65c_add_9ea2d 12 = .ok (.aload_n 0, 1) := by decide +kernel
theorem dJx4a65c_add_9ea2d_13 : decode cJx4a65c_add_9ea2d 13 = .ok (.getfield 9, 3) := by decide +kernel
theorem dJx4a65c_add_9ea2d_16 : decode cJx4a65c_add_9ea2d 16 = .ok (.aload_n 0, 1) := by decide +kernel
theorem dJx4a65c_add_9ea2d_17 : decode cJx4a65c_add_9ea2d 17 = .ok (.getfield 48, 3) := by decide +kernel
theorem dJx4a65c_add_9ea2d_20 : decode cJx4a65c_add_9ea2d 20 = .ok (.invokevirtual 131, 3) := by decide +kernel
theorem dJx4a65c_add_9ea2d_23 : decode cJx4a65c_add_9ea2d 23 = .ok (.iconst 1, 1) := by decide +kernel
theorem dJx4a65c_add_9ea2d_24 : decode cJx4a65c_add_9ea2d 24 = .ok (.ireturn, 1) := by decide +kernel
set_option maxRecDepth 20000 in
theorem ggJ7_copyOf_1904c_J7_copyOf_6403c : GoodIn wsJ7_copyOf_1904c wsJ7_copyOf_6403c := goodIn_r _ [8, 9, 10, 11, 12, 13, 14, 15, 16, 17, 18] (by decide +kernel) (by decide +kernel)
set_option maxRecDepth 20000 in
theorem gJ7_copyOf_1904c_J7_copyOf_6403c : GoodIn wsJ7_copyOf_1904c (va_wsS RJ7 300 yJ7_copyOf_6403c wsJ7_copyOf_6403c) := goodIn_app (goodIn_of _ (by decide +kernel)) ggJ7_copyOf_1904c_J7_copyOf_6403c
theorem dJ7_copyOf_1904c_0 : decode cJ7_copyOf_1904c 0 = .ok (.aload_n 0, 1) := by decide +kernel
theorem dJ7_copyOf_1904c_1 : decode cJ7_copyOf_1904c 1 = .ok (.iload_n 1, 1) := by decide +kernel
theorem dJ7_copyOf_1904c_2 : decode cJ7_copyOf_1904c 2 = .ok (.aload_n 0, 1) := by decide +kernel
theorem dJ7_copyOf_1904c_3 : decode cJ7_copyOf_1904c 3 = .ok (.invokevirtual 86, 3) := by decide +kernel
theorem dJ7_copyOf_1904c_6 : decode cJ7_copyOf_1904c 6 = .ok (.invokestatic 300, 3) := by decide +kernel
theorem dJ7_copyOf_1904c_9 : decode cJ7_copyOf_1904c 9 = .ok (.areturn, 1) := by decide +kernel
theorem dJ7_copyOf_6403c_0 : decode cJ7_copyOf_6403c 0 = .ok (.aload_n 2, 1) := by decide +kernel
theorem dJ7_copyOf_6403c_1 : decode cJ7_copyOf_6403c 1 = .ok (.ldc 110, 2) := by decide +kernel
theorem dJ7_copyOf_6403c_3 : decode cJ7_copyOf_6403c 3 = .ok (.if_acmp .ne 10, 3) := by decide +kernel
theorem dJ7_copyOf_6403c_6 : decode cJ7_copyOf_6403c 6 = .ok (.iload_n 1, 1) := by decide +kernel
theorem dJ7_copyOf_6403c_7 : decode cJ7_copyOf_6403c 7 = .ok (.anewarray 2, 3) := by decide +kernel
theorem dJ7_copyOf_6403c_10 : decode cJ7_copyOf_6403c 10 = .ok (.goto 14, 3) := by decide +kernel
theorem dJ7_copyOf_6403c_13 : decode cJ7_copyOf_6403c 13 = .ok (.aload_n 2, 1) := by decide +kernel
theorem dJ7_copyOf_6403c_14 : decode cJ7_copyOf_6403c 14 = .ok (.invokevirtual 90, 3) := by decide +kernel
theorem dJ7_copyOf_6403c_17 : decode cJ7_copyOf_6403c 17 = .ok (.iload_n 1, 1) := by decide +kernel
theorem dJ7_copyOf_6403c_18 : decode cJ7_copyOf_6403c 18 = .ok (.invokestatic 95, 3) := by decide +kernel
theorem dJ7_copyOf_6403c_21 : decode cJ7_copyOf_6403c 21 = .ok (.checkcast 110, 3) := by decide +kernel
theorem dJ7_copyOf_6403c_24 : decode cJ7_copyOf_6403c 24 = .ok (.astore_n 3, 1) := by decide +kernel
theorem dJ7_copyOf_6403c_25 : decode cJ7_copyOf_6403c 25 = .ok (.aload_n 0, 1) := by decide +kernel
theorem dJ7_copyOf_6403c_26 : decode cJ7_copyOf_6403c 26 = .ok (.iconst 0, 1) := by decide +kernel
theorem dJ7_copyOf_6403c_27 : decode cJ7_copyOf_6403c 27 = .ok (.aload_n 3, 1) := by decide +kernel
theorem dJ7_copyOf_6403c_28 : decode cJ7_copyOf_6403c 28 = .ok (.iconst 0, 1) := by decide +kernel
theorem dJ7_copyOf_6403c_29 : decode cJ7_copyOf_6403c 29 = .ok (.aload_n 0, 1) := by decide +kernel
theorem dJ7_copyOf_6403c_30 : decode cJ7_copyOf_6403c 30 = .ok (.arraylength, 1) := by decide +kernel
theorem dJ7_copyOf_6403c_31 : decode cJ7_copyOf_6403c 31 = .ok (.iload_n 1, 1) := by decide +kernel
theorem dJ7_copyOf_6403c_32 : decode cJ7_copyOf_6403c 32 = .ok (.invokestatic 304, 3) := by decide +kernel
theorem dJ7_copyOf_6403c_35 : decode cJ7_copyOf_6403c 35 = .ok (.invokestatic 150, 3) := by decide +kernel
theorem dJ7_copyOf_6403c_38 : decode cJ7_copyOf_6403c 38 = .ok (.aload_n 3, 1) := by decide +kernel
theorem dJ7_copyOf_6403c_39 : decode cJ7_copyOf_6403c 39 = .ok (.areturn, 1) := by decide +kernel
set_option maxRecDepth 20000 in
theorem ggJ15_checkIndex_7cf53_J3_checkIndex_8e157 : GoodIn wsJ15_checkIndex_7cf53 wsJ3_checkIndex_8e157 := goodIn_r _ [4] (by decide +kernel) (by decide +kernel)
set_option maxRecDepth 20000 in
theorem gJ15_checkIndex_7cf53_J3_checkIndex_8e157 : GoodIn wsJ15_checkIndex_7cf53 (va_wsS RJ15 105 yJ3_checkIndex_8e157 wsJ3_checkIndex_8e157) := goodIn_app (goodIn_of _ (by decide +kernel)) ggJ15_checkIndex_7cf53_J3_checkIndex_8e157
theorem dJ15_checkIndex_7cf53_0 : decode cJ15_checkIndex_7cf53 0 = .ok (.iload_n 0, 1) := by decide +kernel
theorem dJ15_checkIndex_7cf53_1 : decode cJ15_checkIndex_7cf53 1 = .ok (.iload_n 1, 1) := by decide +kernel
theorem dJ15_checkIndex_7cf53_2 : decode cJ15_checkIndex_7cf53 2 = .ok (.aconst_null, 1) := by decide +kernel
theorem dJ15_checkIndex_7cf53_3 : decode cJ15_checkIndex_7cf53 3 = .ok (.invokestatic 105, 3) := by decide +kernel
theorem dJ15_checkIndex_7cf53_6 : decode cJ15_checkIndex_7cf53 6 = .ok (.ireturn, 1) := by decide +kernel
set_option maxRecDepth 20000 in
theorem ggJ8_newLength_cabcc_J8_hugeLength_7cf53 : GoodIn wsJ8_newLength_cabcc wsJ8_hugeLength_7cf53 := goodIn_r _ [9, 5] (by decide +kernel) (by decide +kernel)
set_option maxRecDepth 20000 in
theorem gJ8_newLength_cabcc_J8_hugeLength_7cf53 : GoodIn wsJ8_newLength_cabcc (va_wsS RJ8 201 yJ8_hugeLength_7cf53 wsJ8_hugeLength_7cf53) := goodIn_app (goodIn_of _ (by decide +kernel)) ggJ8_newLength_cabcc_J8_hugeLength_7cf53
theorem dJ8_newLength_cabcc_0 : decode cJ8_newLength_cabcc 0 = .ok (.iload_n 0, 1) := by decide +kernel
theorem dJ8_newLength_cabcc_1 : decode cJ8_newLength_cabcc 1 = .ok (.iload_n 1, 1) := by decide +kernel
theorem dJ8_newLength_cabcc_2 : decode cJ8_newLength_cabcc 2 = .ok (.iload_n 2, 1) := by decide +kernel
theorem dJ8_newLength_cabcc_3 : decode cJ8_newLength_cabcc 3 = .ok (.invokestatic 194, 3) := by decide +kernel
theorem dJ8_newLength_cabcc_6 : decode cJ8_newLength_cabcc 6 = .ok (.iadd, 1) := by decide +kernel
theorem dJ8_newLength_cabcc_7 : decode cJ8_newLength_cabcc 7 = .ok (.istore_n 3, 1) := by decide +kernel
theorem dJ8_newLength_cabcc_8 : decode cJ8_newLength_cabcc 8 = .ok (.iconst 0, 1) := by decide +kernel
theorem dJ8_newLength_cabcc_9 : decode cJ8_newLength_cabcc 9 = .ok (.iload_n 3, 1) := by decide +kernel
theorem dJ8_newLength_cabcc_10 : decode cJ8_newLength_cabcc 10 = .ok (.if_icmp .ge 11, 3) := by decide +kernel
theorem dJ8_newLength_cabcc_13 : decode cJ8_newLength_cabcc 13 = .ok (.iload_n 3, 1) := by decide +kernel
theorem dJ8_newLength_cabcc_14 : decode cJ8_newLength_cabcc 14 = .ok (.ldc 200, 2) := by decide +kernel
theorem dJ8_newLength_cabcc_16 : decode cJ8_newLength_cabcc 16 = .ok (.if_icmp .gt 5, 3) := by decide +kernel
theorem dJ8_newLength_cabcc_19 : decode cJ8_newLength_cabcc 19 = .ok (.iload_n 3, 1) := by decide +kernel
theorem dJ8_newLength_cabcc_20 : decode cJ8_newLength_cabcc 20 = .ok (.ireturn, 1) := by decide +kernel
theorem dJ8_newLength_cabcc_21 : decode cJ8_newLength_cabcc 21 = .ok (.iload_n 0, 1) := by decide +kernel
theorem dJ8_newLength_cabcc_22 : decode cJ8_newLength_cabcc 22 = .ok (.iload_n 1, 1) := by decide +kernel
theorem dJ8_newLength_cabcc_23 : decode cJ8_newLength_cabcc 23 = .ok (.invokestatic 201, 3) := by decide +kernel
theorem dJ8_newLength_cabcc_26 : decode cJ8_newLength_cabcc 26 = .ok (.ireturn, 1) := by decide +kernel
theorem dJ8_hugeLength_7cf53_0 : decode cJ8_hugeLength_7cf53 0 = .ok (.iload_n 0, 1) := by decide +kernel
theorem dJ8_hugeLength_7cf53_1 : decode cJ8_hugeLength_7cf53 1 = .ok (.iload_n 1, 1) := by decide +kernel
theorem dJ8_hugeLength_7cf53_2 : decode cJ8_hugeLength_7cf53 2 = .ok (.iadd, 1) := by decide +kernel
theorem dJ8_hugeLength_7cf53_3 : decode cJ8_hugeLength_7cf53 3 = .ok (.istore_n 2, 1) := by decide +kernel
theorem dJ8_hugeLength_7cf53_4 : decode cJ8_hugeLength_7cf53 4 = .ok (.iload_n 2, 1) := by decide +kernel
theorem dJ8_hugeLength_7cf53_5 : decode cJ8_hugeLength_7cf53 5 = .ok (.ifCond .ge 44, 3) := by decide +kernel
theorem dJ8_hugeLength_7cf53_8 : decode cJ8_hugeLength_7cf53 8 = .ok (.new 204, 3) := by decide +kernel
theorem dJ8_hugeLength_7cf53_11 : decode cJ8_hugeLength_7cf53 11 = .ok (.dup, 1) := by decide +kernel
theorem dJ8_hugeLength_7cf53_12 : decode cJ8_hugeLength_7cf53 12 = .ok (.new 89, 3) := by decide +kernel
theorem dJ8_hugeLength_7cf53_15 : decode cJ8_hugeLength_7cf53 15 = .ok (.dup, 1) := by decide +kernel
theorem dJ8_hugeLength_7cf53_16 : decode cJ8_hugeLength_7cf53 16 = .ok (.invokespecial 91, 3) := by decide +kernel
theorem dJ8_hugeLength_7cf53_19 : decode cJ8_hugeLength_7cf53 19 = .ok (.ldc 206, 2) := by decide +kernel
theorem dJ8_hugeLength_7cf53_21 : decode cJ8_hugeLength_7cf53 21 = .ok (.invokevirtual 94, 3) := by decide +kernel
theorem dJ8_hugeLength_7cf53_24 : decode cJ8_hugeLength_7cf53 24 = .ok (.iload_n 0, 1) := by decide +kernel
theorem dJ8_hugeLength_7cf53_25 : decode cJ8_hugeLength_7cf53 25 = .ok (.invokevirtual 98, 3) := by decide +kernel
theorem dJ8_hugeLength_7cf53_28 : decode cJ8_hugeLength_7cf53 28 = .ok (.ldc 208, 2) := by decide +kernel
theorem dJ8_hugeLength_7cf53_30 : decode cJ8_hugeLength_7cf53 30 = .ok (.invokevirtual 94, 3) := by decide +kernel
theorem dJ8_hugeLength_7cf53_33 : decode cJ8_hugeLength_7cf53 33 = .ok (.iload_n 1, 1) := by decide +kernel
theorem dJ8_hugeLength_7cf53_34 : decode cJ8_hugeLength_7cf53 34 = .ok (.invokevirtual 98, 3) := by decide +kernel
theorem dJ8_hugeLength_7cf53_37 : decode cJ8_hugeLength_7cf53 37 = .ok (.ldc 210, 2) := by decide +kernel
theorem dJ8_hugeLength_7cf53_39 : decode cJ8_hugeLength_7cf53 39 = .ok (.invokevirtual 94, 3) := by decide +kernel
theorem dJ8_hugeLength_7cf53_42 : decode cJ8_hugeLength_7cf53 42 = .ok (.invokevirtual 101, 3) := by decide +kernel
theorem dJ8_hugeLength_7cf53_45 : decode cJ8_hugeLength_7cf53 45 = .ok (.invokespecial 212, 3) := by decide +kernel
theorem dJ8_hugeLength_7cf53_48 : decode cJ8_hugeLength_7cf53 48 = .ok (.athrow, 1) := by decide +kernel
theorem dJ8_hugeLength_7cf53_49 : decode cJ8_hugeLength_7cf53 49 = .ok (.iload_n 2, 1) := by decide +kernel
theorem dJ8_hugeLength_7cf53_50 : decode cJ8_hugeLength_7cf53 50 = .ok (.ldc 200, 2) := by decide +kernel
theorem dJ8_hugeLength_7cf53_52 : decode cJ8_hugeLength_7cf53 52 = .ok (.if_icmp .gt 6, 3) := by decide +kernel
theorem dJ8_hugeLength_7cf53_55 : decode cJ8_hugeLength_7cf53 55 = .ok (.ldc 200, 2) := by decide +kernel
theorem dJ8_hugeLength_7cf53_57 : decode cJ8_hugeLength_7cf53 57 = .ok (.ireturn, 1) := by decide +kernel
theorem dJ8_hugeLength_7cf53_58 : decode cJ8_hugeLength_7cf53 58 = .ok (.iload_n 2, 1) := by decide +kernel
theorem dJ8_hugeLength_7cf53_59 : decode cJ8_hugeLength_7cf53 59 = .ok (.ireturn, 1) := by decide +kernel
theorem dJ3_checkIndex_8e157_0 : decode cJ3_checkIndex_8e157 0 = .ok (.iload_n 0, 1) := by decide +kernel
theorem dJ3_checkIndex_8e157_1 : decode cJ3_checkIndex_8e157 1 = .ok (.ifCond .lt 8, 3) := by decide +kernel
theorem dJ3_checkIndex_8e157_4 : decode cJ3_checkIndex_8e157 4 = .ok (.iload_n 0, 1) := by decide +kernel
theorem dJ3_checkIndex_8e157_5 : decode cJ3_checkIndex_8e157 5 = .ok (.iload_n 1, 1) := by decide +kernel
theorem dJ3_checkIndex_8e157_6 : decode cJ3_checkIndex_8e157 6 = .ok (.if_icmp .lt 10, 3) := by decide +kernel
theorem dJ3_checkIndex_8e157_9 : decode cJ3_checkIndex_8e157 9 = .ok (.aload_n 2, 1) := by decide +kernel
theorem dJ3_checkIndex_8e157_10 : decode cJ3_checkIndex_8e157 10 = .ok (.iload_n 0, 1) := by decide +kernel
theorem dJ3_checkIndex_8e157_11 : decode cJ3_checkIndex_8e157 11 = .ok (.iload_n 1, 1) := by decide +kernel
theorem dJ3_checkIndex_8e157_12 : decode cJ3_checkIndex_8e157 12 = .ok (.invokestatic 95, 3) := by decide +kernel
theorem dJ3_checkIndex_8e157_15 : decode cJ3_checkIndex_8e157 15 = .ok (.athrow, 1) := by decide +kernel
theorem dJ3_checkIndex_8e157_16 : decode cJ3_checkIndex_8e157 16 = .ok (.iload_n 0, 1) := by decide +kernel
theorem dJ3_checkIndex_8e157_17 : decode cJ3_checkIndex_8e157 17 = .ok (.ireturn, 1) := by decide +kernel
set_option maxRecDepth 20000 in
theorem ggL_ground_X9_ground : GoodIn wsL_ground wsX9_ground := goodIn_ca (goodIn_ca (goodIn_r _ [7, 8, 9, 10, 11, 6, 12, 13, 14, 15, 16, 17, 18, 19, 20, 21, 22, 23, 24, 25, 26, 27, 28, 29, 30, 31, 32, 33, 34, 35, 36] (by decide +kernel) (by decide +kernel)) (goodIn_sub (fun _ h => List.mem_cons_of_mem _ (List.mem_append_left _ (List.mem_append_right _ h))) (by decide +kernel))) (goodIn_sub (fun _ h => List.mem_cons_of_mem _ (List.mem_append_right _ h)) (by decide +kernel))
set_option maxRecDepth 20000 in
theorem gL_ground_X9_ground : GoodIn wsL_ground (wsV RL 7 RX9 yX9_ground wsX9_ground) := goodIn_app (goodIn_of _ (by decide +kernel)) ggL_ground_X9_ground
theorem dL_ground_0 : decode cL_ground 0 = .ok (.aload 4, 2) := by decide +kernel
theorem dL_ground_2 : decode cL_ground 2 = .ok (.iconst 0, 1) := by decide +kernel
theorem dL_ground_3 : decode cL_ground 3 = .ok (.aload_n 0, 1) := by decide +kernel
theorem dL_ground_4 : decode cL_ground 4 = .ok (.iload_n 1, 1) := by decide +kernel
theorem dL_ground_5 : decode cL_ground 5 = .ok (.iload_n 2, 1) := by decide +kernel
theorem dL_ground_6 : decode cL_ground 6 = .ok (.iload_n 3, 1) := by decide +kernel
theorem dL_ground_7 : decode cL_ground 7 = .ok (.invokevirtual 7, 3) := by decide +kernel
theorem dL_ground_10 : decode cL_ground 10 = .ok (.i2l, 1) := by decide +kernel
theorem dL_ground_11 : decode cL_ground 11 = .ok (.lastore, 1) := by decide +kernel
theorem dL_ground_12 : decode cL_ground 12 = .ok (.goto 11, 3) := by decide +kernel
theorem dL_ground_15 : decode cL_ground 15 = .ok (.astore 5, 2) := by decide +kernel
theorem dL_ground_17 : decode cL_ground 17 = .ok (.iconst 1, 1) := by decide +kernel
theorem dL_ground_18 : decode cL_ground 18 = .ok (.ireturn, 1) := by decide +kernel
theorem dL_ground_19 : decode cL_ground 19 = .ok (.astore 5, 2) := by decide +kernel
theorem dL_ground_21 : decode cL_ground 21 = .ok (.iconst 2, 1) := by decide +kernel
theorem dL_ground_22 : decode cL_ground 22 = .ok (.ireturn, 1) := by decide +kernel
theorem dL_ground_23 : decode cL_ground 23 = .ok (.iconst 0, 1) := by decide +kernel
theorem dL_ground_24 : decode cL_ground 24 = .ok (.ireturn, 1) := by decide +kernel
set_option maxRecDepth 20000 in
theorem ggL_stone_X9_stone : GoodIn wsL_stone wsX9_stone := goodIn_ca (goodIn_ca (goodIn_ca (goodIn_r _ [8, 9, 10, 11, 7, 12, 13, 14, 15, 16, 17, 18, 19, 20, 21, 22, 23, 24, 25, 26, 27, 28, 29, 30, 31, 32, 33, 34, 35, 36, 37, 38, 39, 40, 41, 42, 43, 44, 45, 46, 47, 48, 49, 50, 51, 52, 53, 54, 55, 56, 57, 58, 59, 60, 61, 62, 63, 64, 65, 66, 67, 68, 69, 70, 71, 72, 73, 74, 75, 76, 77, 78, 79, 80, 81, 82, 83, 84, 85, 86, 87, 88, 89, 90, 91, 92, 93, 94, 95, 96, 97, 98, 99, 100, 101, 102, 103, 104, 105, 106, 107, 108, 109, 110, 111, 112, 113, 114, 115, 116, 117, 118, 119, 120, 121, 122, 123, 124, 125, 126, 127, 128, 129, 130, 131, 132, 133, 134, 135, 136, 137, 138, 139, 140, 141, 142, 143, 144, 145, 146, 147, 148, 149, 150, 151, 152, 153, 154, 155, 156, 157, 158, 159, 160, 161, 162, 163, 164] (by decide +kernel) (by decide +kernel)) (goodIn_sub (fun _ h => List.mem_cons_of_mem _ (List.mem_append_left _ (List.mem_append_left _ (List.mem_append_right _ h)))) (by decide +kernel))) (goodIn_sub (fun _ h => List.mem_cons_of_mem _ (List.mem_append_left _ (List.mem_append_right _ h))) (by decide +kernel))) (goodIn_sub (fun _ h => List.mem_cons_of_mem _ (List.mem_append_right _ h)) (by decide +kernel))
set_option maxRecDepth 20000 in
theorem gL_stone_X9_stone : GoodIn wsL_stone (wsV RL 17 RX9 yX9_stone wsX9_stone) := goodIn_app (goodIn_of _ (by decide +kernel)) ggL_stone_X9_stone
theorem dL_stone_0 : decode cL_stone 0 = .ok (.aload 4, 2) := by decide +kernel
theorem dL_stone_2 : decode cL_stone 2 = .ok (.iconst 0, 1) := by decide +kernel
theorem dL_stone_3 : decode cL_stone 3 = .ok (.aload_n 0, 1) := by decide +kernel
theorem dL_stone_4 : decode cL_stone 4 = .ok (.iload_n 1, 1) := by decide +kernel
theorem dL_stone_5 : decode cL_stone 5 = .ok (.iload_n 2, 1) := by decide +kernel
theorem dL_stone_6 : decode cL_stone 6 = .ok (.iload_n 3, 1) := by decide +kernel
theorem dL_stone_7 : decode cL_stone 7 = .ok (.invokevirtual 17, 3) := by decide +kernel
theorem dL_stone_10 : decode cL_stone 10 = .ok (.i2l, 1) := by decide +kernel
theorem dL_stone_11 : decode cL_stone 11 = .ok (.lastore, 1) := by decide +kernel
theorem dL_stone_12 : decode cL_stone 12 = .ok (.goto 15, 3) := by decide +kernel
theorem dL_stone_15 : decode cL_stone 15 = .ok (.astore 5, 2) := by decide +kernel
theorem dL_stone_17 : decode cL_stone 17 = .ok (.iconst 1, 1) := by decide +kernel
theorem dL_stone_18 : decode cL_stone 18 = .ok (.ireturn, 1) := by decide +kernel
theorem dL_stone_19 : decode cL_stone 19 = .ok (.astore 5, 2) := by decide +kernel
theorem dL_stone_21 : decode cL_stone 21 = .ok (.iconst 2, 1) := by decide +kernel
theorem dL_stone_22 : decode cL_stone 22 = .ok (.ireturn, 1) := by decide +kernel
theorem dL_stone_23 : decode cL_stone 23 = .ok (.astore 5, 2) := by decide +kernel
theorem dL_stone_25 : decode cL_stone 25 = .ok (.iconst 3, 1) := by decide +kernel
theorem dL_stone_26 : decode cL_stone 26 = .ok (.ireturn, 1) := by decide +kernel
theorem dL_stone_27 : decode cL_stone 27 = .ok (.iconst 0, 1) := by decide +kernel
theorem dL_stone_28 : decode cL_stone 28 = .ok (.ireturn, 1) := by decide +kernel
set_option maxRecDepth 20000 in
theorem ggL_draw_X9_draw : GoodIn wsL_draw wsX9_draw := goodIn_ca (goodIn_r _ [6, 7, 8, 9, 10, 5, 11, 12, 13, 14, 15, 16, 17, 18, 19] (by decide +kernel) (by decide +kernel)) (goodIn_sub (fun _ h => List.mem_cons_of_mem _ (List.mem_append_right _ h)) (by decide +kernel))
set_option maxRecDepth 20000 in
theorem gL_draw_X9_draw : GoodIn wsL_draw (wsV RL 22 RX9 yX9_draw wsX9_draw) := goodIn_app (goodIn_of _ (by decide +kernel)) ggL_draw_X9_draw
theorem dL_draw_0 : decode cL_draw 0 = .ok (.aload_n 2, 1) := by decide +kernel
theorem dL_draw_1 : decode cL_draw 1 = .ok (.iconst 0, 1) := by decide +kernel
theorem dL_draw_2 : decode cL_draw 2 = .ok (.aload_n 0, 1) := by decide +kernel
theorem dL_draw_3 : decode cL_draw 3 = .ok (.iload_n 1, 1) := by decide +kernel
theorem dL_draw_4 : decode cL_draw 4 = .ok (.invokevirtual 22, 3) := by decide +kernel
theorem dL_draw_7 : decode cL_draw 7 = .ok (.i2l, 1) := by decide +kernel
theorem dL_draw_8 : decode cL_draw 8 = .ok (.lastore, 1) := by decide +kernel
theorem dL_draw_9 : decode cL_draw 9 = .ok (.goto 6, 3) := by decide +kernel
theorem dL_draw_12 : decode cL_draw 12 = .ok (.astore_n 3, 1) := by decide +kernel
theorem dL_draw_13 : decode cL_draw 13 = .ok (.iconst 1, 1) := by decide +kernel
theorem dL_draw_14 : decode cL_draw 14 = .ok (.ireturn, 1) := by decide +kernel
theorem dL_draw_15 : decode cL_draw 15 = .ok (.iconst 0, 1) := by decide +kernel
theorem dL_draw_16 : decode cL_draw 16 = .ok (.ireturn, 1) := by decide +kernel
set_option maxRecDepth 20000 in
theorem ggL_rain_X9_rain : GoodIn wsL_rain wsX9_rain := goodIn_ca (goodIn_ca (goodIn_r _ [7, 8, 9, 10, 6, 11, 12, 13, 14, 15, 16, 17, 18, 19, 20, 21, 22, 23, 24, 25, 26, 27, 28, 29, 30, 31, 32, 33, 34, 35, 36, 37, 38, 39, 40, 41, 42, 43, 44, 45, 46, 47, 48, 49, 50, 51, 52, 53, 54, 55, 56, 57, 58, 59, 60, 61, 62, 63, 64, 65, 66, 67, 68, 69, 70, 71, 72, 73, 74, 75, 76, 77, 78, 79, 80, 81, 82, 83, 84, 85, 86, 87, 88, 89, 90, 91, 92, 93, 94, 95, 96, 97, 98, 99, 100, 101, 102, 103, 104, 105, 106, 107, 108, 109, 110, 111, 112, 113, 114, 115, 116, 117, 118, 119, 120, 121, 122, 123, 124, 125, 126, 127, 128, 129, 130, 131, 132, 133, 134, 135, 136, 137, 138, 139, 140, 141, 142, 143, 144, 145, 146, 147, 148, 149, 150, 151, 152, 153, 154, 155, 156, 157, 158, 159, 160, 161, 162, 163, 164, 165, 166, 167, 168, 169, 170, 171, 172] (by decide +kernel) (by decide +kernel)) (goodIn_sub (fun _ h => List.mem_cons_of_mem _ (List.mem_append_left _ (List.mem_append_right _ h))) (by decide +kernel))) (goodIn_sub (fun _ h => List.mem_cons_of_mem _ (List.mem_append_right _ h)) (by decide +kernel))
set_option maxRecDepth 20000 in
theorem gL_rain_X9_rain : GoodIn wsL_rain (wsV RL 26 RX9 yX9_rain wsX9_rain) := goodIn_app (goodIn_of _ (by decide +kernel)) ggL_rain_X9_rain
theorem dL_rain_0 : decode cL_rain 0 = .ok (.aload_n 2, 1) := by decide +kernel
theorem dL_rain_1 : decode cL_rain 1 = .ok (.iconst 0, 1) := by decide +kernel
theorem dL_rain_2 : decode cL_rain 2 = .ok (.aload_n 0, 1) := by decide +kernel
theorem dL_rain_3 : decode cL_rain 3 = .ok (.iload_n 1, 1) := by decide +kernel
theorem dL_rain_4 : decode cL_rain 4 = .ok (.invokevirtual 26, 3) := by decide +kernel
theorem dL_rain_7 : decode cL_rain 7 = .ok (.i2l, 1) := by decide +kernel
theorem dL_rain_8 : decode cL_rain 8 = .ok (.lastore, 1) := by decide +kernel
theorem dL_rain_9 : decode cL_rain 9 = .ok (.goto 9, 3) := by decide +kernel
theorem dL_rain_12 : decode cL_rain 12 = .ok (.astore_n 3, 1) := by decide +kernel
theorem dL_rain_13 : decode cL_rain 13 = .ok (.iconst 1, 1) := by decide +kernel
theorem dL_rain_14 : decode cL_rain 14 = .ok (.ireturn, 1) := by decide +kernel
theorem dL_rain_15 : decode cL_rain 15 = .ok (.astore_n 3, 1) := by decide +kernel
theorem dL_rain_16 : decode cL_rain 16 = .ok (.iconst 2, 1) := by decide +kernel
theorem dL_rain_17 : decode cL_rain 17 = .ok (.ireturn, 1) := by decide +kernel
theorem dL_rain_18 : decode cL_rain 18 = .ok (.iconst 0, 1) := by decide +kernel
theorem dL_rain_19 : decode cL_rain 19 = .ok (.ireturn, 1) := by decide +kernel
set_option maxRecDepth 20000 in
theorem ggL_flood_X9_flood : GoodIn wsL_flood wsX9_flood := goodIn_ca (goodIn_ca (goodIn_ca (goodIn_r _ [8, 9, 10, 11, 12, 13, 14, 15, 16, 17, 18, 7, 19, 20, 21, 22, 23, 24, 25, 26, 27, 28, 29, 30, 31, 32, 33, 34, 35, 36, 37, 38, 39, 40, 41, 42, 43, 44, 45, 46, 47, 48, 49, 50, 51, 52, 53, 54, 55, 56, 57, 58, 59, 60, 61, 62, 63, 64, 65, 66, 67, 68, 69, 70, 71, 72, 73, 74, 75, 76, 77, 78, 79, 80, 81, 82, 83, 84, 85, 86, 87, 88, 89, 90, 91, 92, 93, 94, 95, 96, 97, 98, 99, 100, 101, 102, 103, 104, 105, 106, 107, 108, 109, 110, 111, 112, 113, 114, 115, 116, 117, 118, 119, 120, 121, 122, 123, 124, 125, 126, 127, 128, 129, 130, 131, 132, 133, 134, 135, 136, 137, 138, 139, 140, 141, 142, 143, 144, 145, 146, 147, 148, 149, 150, 151, 152, 153, 154, 155, 156, 157, 158, 159, 160, 161, 162, 163, 164, 165, 166, 167, 168, 169, 170, 171, 172, 173, 174, 175, 176, 177, 178, 179, 180, 181, 182, 183, 184, 185, 186, 187, 188, 189, 190, 191, 192, 193, 194, 195, 196] (by decide +kernel) (by decide +kernel)) (goodIn_sub (fun _ h => List.mem_cons_of_mem _ (List.mem_append_left _ (List.mem_append_left _ (List.mem_append_right _ h)))) (by decide +kernel))) (goodIn_sub (fun _ h => List.mem_cons_of_mem _ (List.mem_append_left _ (List.mem_append_right _ h))) (by decide +kernel))) (goodIn_sub (fun _ h => List.mem_cons_of_mem _ (List.mem_append_right _ h)) (by decide +kernel))
set_option maxRecDepth 20000 in
theorem gL_flood_X9_flood : GoodIn wsL_flood (wsV RL 29 RX9 yX9_flood wsX9_flood) := goodIn_app (goodIn_of _ (by decide +kernel)) ggL_flood_X9_flood
theorem dL_flood_0 : decode cL_flood 0 = .ok (.aload 6, 2) := by decide +kernel
theorem dL_flood_2 : decode cL_flood 2 = .ok (.iconst 0, 1) := by decide +kernel
theorem dL_flood_3 : decode cL_flood 3 = .ok (.aload_n 0, 1) := by decide +kernel
theorem dL_flood_4 : decode cL_flood 4 = .ok (.iload_n 1, 1) := by decide +kernel
theorem dL_flood_5 : decode cL_flood 5 = .ok (.iload_n 2, 1) := by decide +kernel
theorem dL_flood_6 : decode cL_flood 6 = .ok (.iload_n 3, 1) := by decide +kernel
theorem dL_flood_7 : decode cL_flood 7 = .ok (.iload 4, 2) := by decide +kernel
theorem dL_flood_9 : decode cL_flood 9 = .ok (.iload 5, 2) := by decide +kernel
theorem dL_flood_11 : decode cL_flood 11 = .ok (.invokevirtual 29, 3) := by decide +kernel
theorem dL_flood_14 : decode cL_flood 14 = .ok (.i2l, 1) := by decide +kernel
theorem dL_flood_15 : decode cL_flood 15 = .ok (.lastore, 1) := by decide +kernel
theorem dL_flood_16 : decode cL_flood 16 = .ok (.goto 15, 3) := by decide +kernel
theorem dL_flood_19 : decode cL_flood 19 = .ok (.astore 7, 2) := by decide +kernel
theorem dL_flood_21 : decode cL_flood 21 = .ok (.iconst 1, 1) := by decide +kernel
theorem dL_flood_22 : decode cL_flood 22 = .ok (.ireturn, 1) := by decide +kernel
theorem dL_flood_23 : decode cL_flood 23 = .ok (.astore 7, 2) := by decide +kernel
theorem dL_flood_25 : decode cL_flood 25 = .ok (.iconst 2, 1) := by decide +kernel
theorem dL_flood_26 : decode cL_flood 26 = .ok (.ireturn, 1) := by decide +kernel
theorem dL_flood_27 : decode cL_flood 27 = .ok (.astore 7, 2) := by decide +kernel
theorem dL_flood_29 : decode cL_flood 29 = .ok (.iconst 3, 1) := by decide +kernel
theorem dL_flood_30 : decode cL_flood 30 = .ok (.ireturn, 1) := by decide +kernel
theorem dL_flood_31 : decode cL_flood 31 = .ok (.iconst 0, 1) := by decide +kernel
theorem dL_flood_32 : decode cL_flood 32 = .ok (.ireturn, 1) := by decide +kernel
set_option maxRecDepth 20000 in
theorem ggL_soften_X9_soften : GoodIn wsL_soften wsX9_soften := goodIn_ca (goodIn_ca (goodIn_r _ [7, 8, 9, 10, 11, 12, 13, 14, 15, 6, 16, 17, 18, 19, 20, 21, 22, 23, 24, 25, 26, 27, 28, 29, 30, 31, 32, 33, 34, 35, 36, 37, 38, 39, 40, 41, 42, 43, 44, 45, 46, 47, 48, 49, 50, 51, 52, 53, 54, 55, 56, 57, 58, 59, 60, 61, 62, 63, 64, 65, 66, 67, 68, 69, 70, 71, 72, 73, 74, 75, 76, 77, 78, 79, 80, 81, 82, 83, 84, 85, 86, 87, 88, 89, 90, 91, 92, 93, 94, 95, 96, 97, 98, 99, 100, 101, 102, 103, 104, 105, 106, 107, 108, 109, 110, 111, 112, 113, 114, 115, 116, 117, 118, 119, 120, 121, 122, 123, 124, 125, 126, 127, 128, 129, 130, 131, 132, 133, 134, 135, 136, 137, 138, 139, 140, 141, 142, 143, 144, 145, 146, 147, 148, 149, 150, 151, 152, 153, 154, 155, 156, 157, 158, 159, 160, 161, 162, 163, 164, 165, 166, 167, 168, 169, 170, 171, 172, 173, 174, 175, 176, 177, 178, 179, 180, 181, 182, 183, 184, 185, 186, 187, 188, 189, 190, 191, 192, 193, 194, 195, 196, 197, 198] (by decide +kernel) (by decide +kernel)) (goodIn_sub (fun _ h => List.mem_cons_of_mem _ (List.mem_append_left _ (List.mem_append_right _ h))) (by decide +kernel))) (goodIn_sub (fun _ h => List.mem_cons_of_mem _ (List.mem_append_right _ h)) (by decide +kernel))
set_option maxRecDepth 20000 in
theorem gL_soften_X9_soften : GoodIn wsL_soften (wsV RL 33 RX9 yX9_soften wsX9_soften) := goodIn_app (goodIn_of _ (by decide +kernel)) ggL_soften_X9_soften
theorem dL_soften_0 : decode cL_soften 0 = .ok (.aload_n 2, 1) := by decide +kernel
theorem dL_soften_1 : decode cL_soften 1 = .ok (.iconst 0, 1) := by decide +kernel
theorem dL_soften_2 : decode cL_soften 2 = .ok (.aload_n 0, 1) := by decide +kernel
theorem dL_soften_3 : decode cL_soften 3 = .ok (.iload_n 1, 1) := by decide +kernel
theorem dL_soften_4 : decode cL_soften 4 = .ok (.invokevirtual 33, 3) := by decide +kernel
theorem dL_soften_7 : decode cL_soften 7 = .ok (.i2l, 1) := by decide +kernel
theorem dL_soften_8 : decode cL_soften 8 = .ok (.lastore, 1) := by decide +kernel
theorem dL_soften_9 : decode cL_soften 9 = .ok (.goto 9, 3) := by decide +kernel
theorem dL_soften_12 : decode cL_soften 12 = .ok (.astore_n 3, 1) := by decide +kernel
theorem dL_soften_13 : decode cL_soften 13 = .ok (.iconst 1, 1) := by decide +kernel
theorem dL_soften_14 : decode cL_soften 14 = .ok (.ireturn, 1) := by decide +kernel
theorem dL_soften_15 : decode cL_soften 15 = .ok (.astore_n 3, 1) := by decide +kernel
theorem dL_soften_16 : decode cL_soften 16 = .ok (.iconst 2, 1) := by decide +kernel
theorem dL_soften_17 : decode cL_soften 17 = .ok (.ireturn, 1) := by decide +kernel
theorem dL_soften_18 : decode cL_soften 18 = .ok (.iconst 0, 1) := by decide +kernel
theorem dL_soften_19 : decode cL_soften 19 = .ok (.ireturn, 1) := by decide +kernel
set_option maxRecDepth 20000 in
theorem ggL_eye_X9_eye : GoodIn wsL_eye wsX9_eye := goodIn_ca (goodIn_ca (goodIn_r _ [7, 8, 9, 10, 11, 12, 13, 14, 15, 16, 6, 17, 18, 19, 20, 21, 22, 23, 24, 25, 26, 27, 28, 29, 30, 31, 32, 33, 34, 35, 36, 37, 38, 39, 40, 41, 42, 43, 44, 45, 46, 47, 48, 49, 50, 51, 52, 53, 54, 55, 56, 57, 58, 59, 60, 61, 62, 63, 64, 65, 66, 67, 68, 69, 70, 71, 72, 73, 74, 75, 76, 77, 78, 79, 80, 81, 82, 83, 84, 85, 86, 87, 88, 89, 90, 91, 92, 93, 94, 95, 96] (by decide +kernel) (by decide +kernel)) (goodIn_sub (fun _ h => List.mem_cons_of_mem _ (List.mem_append_left _ (List.mem_append_right _ h))) (by decide +kernel))) (goodIn_sub (fun _ h => List.mem_cons_of_mem _ (List.mem_append_right _ h)) (by decide +kernel))
set_option maxRecDepth 20000 in
theorem gL_eye_X9_eye : GoodIn wsL_eye (wsV RL 36 RX9 yX9_eye wsX9_eye) := goodIn_app (goodIn_of _ (by decide +kernel)) ggL_eye_X9_eye
theorem dL_eye_0 : decode cL_eye 0 = .ok (.aload_n 2, 1) := by decide +kernel
theorem dL_eye_1 : decode cL_eye 1 = .ok (.iconst 0, 1) := by decide +kernel
theorem dL_eye_2 : decode cL_eye 2 = .ok (.aload_n 0, 1) := by decide +kernel
theorem dL_eye_3 : decode cL_eye 3 = .ok (.iload_n 1, 1) := by decide +kernel
theorem dL_eye_4 : decode cL_eye 4 = .ok (.invokevirtual 36, 3) := by decide +kernel
theorem dL_eye_7 : decode cL_eye 7 = .ok (.i2l, 1) := by decide +kernel
theorem dL_eye_8 : decode cL_eye 8 = .ok (.lastore, 1) := by decide +kernel
theorem dL_eye_9 : decode cL_eye 9 = .ok (.goto 9, 3) := by decide +kernel
theorem dL_eye_12 : decode cL_eye 12 = .ok (.astore_n 3, 1) := by decide +kernel
theorem dL_eye_13 : decode cL_eye 13 = .ok (.iconst 1, 1) := by decide +kernel
theorem dL_eye_14 : decode cL_eye 14 = .ok (.ireturn, 1) := by decide +kernel
theorem dL_eye_15 : decode cL_eye 15 = .ok (.astore_n 3, 1) := by decide +kernel
theorem dL_eye_16 : decode cL_eye 16 = .ok (.iconst 2, 1) := by decide +kernel
theorem dL_eye_17 : decode cL_eye 17 = .ok (.ireturn, 1) := by decide +kernel
theorem dL_eye_18 : decode cL_eye 18 = .ok (.iconst 0, 1) := by decide +kernel
theorem dL_eye_19 : decode cL_eye 19 = .ok (.ireturn, 1) := by decide +kernel
set_option maxRecDepth 20000 in
theorem ggL_anchor_X9_anchor : GoodIn wsL_anchor wsX9_anchor := goodIn_ca (goodIn_ca (goodIn_r _ [7, 8, 9, 10, 11, 12, 13, 14, 6, 15, 16, 17, 18, 19, 20, 21, 22, 23, 24, 25, 26, 27, 28, 29, 30, 31, 32, 33, 34, 35, 36, 37, 38, 39, 40, 41, 42, 43, 44, 45, 46, 47, 48, 49, 50, 51, 52, 53, 54, 55, 56, 57, 58, 59, 60, 61, 62, 63, 64, 65, 66, 67, 68, 69, 70, 71, 72, 73, 74, 75, 76, 77, 78, 79, 80, 81, 82, 83, 84, 85, 86, 87, 88, 89, 90, 91, 92, 93, 94, 95, 96, 97, 98, 99, 100, 101, 102, 103, 104, 105, 106, 107, 108, 109, 110, 111, 112, 113, 114, 115, 116, 117, 118, 119, 120, 121, 122, 123, 124, 125, 126, 127, 128, 129] (by decide +kernel) (by decide +kernel)) (goodIn_sub (fun _ h => List.mem_cons_of_mem _ (List.mem_append_left _ (List.mem_append_right _ h))) (by decide +kernel))) (goodIn_sub (fun _ h => List.mem_cons_of_mem _ (List.mem_append_right _ h)) (by decide +kernel))
set_option maxRecDepth 20000 in
theorem gL_anchor_X9_anchor : GoodIn wsL_anchor (wsV RL 39 RX9 yX9_anchor wsX9_anchor) := goodIn_app (goodIn_of _ (by decide +kernel)) ggL_anchor_X9_anchor
theorem dL_anchor_0 : decode cL_anchor 0 = .ok (.aload 5, 2) := by decide +kernel
theorem dL_anchor_2 : decode cL_anchor 2 = .ok (.iconst 0, 1) := by decide +kernel
theorem dL_anchor_3 : decode cL_anchor 3 = .ok (.aload_n 0, 1) := by decide +kernel
theorem dL_anchor_4 : decode cL_anchor 4 = .ok (.lload_n 1, 1) := by decide +kernel
theorem dL_anchor_5 : decode cL_anchor 5 = .ok (.lload_n 3, 1) := by decide +kernel
theorem dL_anchor_6 : decode cL_anchor 6 = .ok (.invokevirtual 39, 3) := by decide +kernel
theorem dL_anchor_9 : decode cL_anchor 9 = .ok (.i2l, 1) := by decide +kernel
theorem dL_anchor_10 : decode cL_anchor 10 = .ok (.lastore, 1) := by decide +kernel
theorem dL_anchor_11 : decode cL_anchor 11 = .ok (.goto 11, 3) := by decide +kernel
theorem dL_anchor_14 : decode cL_anchor 14 = .ok (.astore 6, 2) := by decide +kernel
theorem dL_anchor_16 : decode cL_anchor 16 = .ok (.iconst 1, 1) := by decide +kernel
theorem dL_anchor_17 : decode cL_anchor 17 = .ok (.ireturn, 1) := by decide +kernel
theorem dL_anchor_18 : decode cL_anchor 18 = .ok (.astore 6, 2) := by decide +kernel
theorem dL_anchor_20 : decode cL_anchor 20 = .ok (.iconst 2, 1) := by decide +kernel
theorem dL_anchor_21 : decode cL_anchor 21 = .ok (.ireturn, 1) := by decide +kernel
theorem dL_anchor_22 : decode cL_anchor 22 = .ok (.iconst 0, 1) := by decide +kernel
theorem dL_anchor_23 : decode cL_anchor 23 = .ok (.ireturn, 1) := by decide +kernel
set_option maxRecDepth 20000 in
theorem ggL_count_X9_count : GoodIn wsL_count wsX9_count := goodIn_ca (goodIn_ca (goodIn_r _ [7, 8, 9, 10, 11, 12, 13, 14, 6, 15, 16, 17, 18, 19, 20, 21, 22, 23, 24, 25, 26, 27, 28, 29, 30, 31, 32, 33, 34, 35, 36, 37, 38, 39, 40, 41, 42, 43, 44, 45, 46, 47, 48, 49, 50, 51, 52, 53, 54, 55, 56, 57, 58, 59, 60, 61, 62, 63, 64, 65, 66, 67, 68, 69, 70, 71, 72, 73, 74, 75, 76, 77, 78, 79, 80, 81, 82, 83, 84, 85, 86, 87, 88, 89, 90, 91, 92, 93, 94, 95, 96, 97, 98, 99, 100, 101, 102, 103] (by decide +kernel) (by decide +kernel)) (goodIn_sub (fun _ h => List.mem_cons_of_mem _ (List.mem_append_left _ (List.mem_append_right _ h))) (by decide +kernel))) (goodIn_sub (fun _ h => List.mem_cons_of_mem _ (List.mem_append_right _ h)) (by decide +kernel))
set_option maxRecDepth 20000 in
theorem gL_count_X9_count : GoodIn wsL_count (wsV RL 43 RX9 yX9_count wsX9_count) := goodIn_app (goodIn_of _ (by decide +kernel)) ggL_count_X9_count
theorem dL_count_0 : decode cL_count 0 = .ok (.aload 7, 2) := by decide +kernel
theorem dL_count_2 : decode cL_count 2 = .ok (.iconst 0, 1) := by decide +kernel
theorem dL_count_3 : decode cL_count 3 = .ok (.aload_n 0, 1) := by decide +kernel
theorem dL_count_4 : decode cL_count 4 = .ok (.iload_n 1, 1) := by decide +kernel
theorem dL_count_5 : decode cL_count 5 = .ok (.iload_n 2, 1) := by decide +kernel
theorem dL_count_6 : decode cL_count 6 = .ok (.iload_n 3, 1) := by decide +kernel
theorem dL_count_7 : decode cL_count 7 = .ok (.iload 4, 2) := by decide +kernel
theorem dL_count_9 : decode cL_count 9 = .ok (.iload 5, 2) := by decide +kernel
theorem dL_count_11 : decode cL_count 11 = .ok (.iload 6, 2) := by decide +kernel
theorem dL_count_13 : decode cL_count 13 = .ok (.invokevirtual 43, 3) := by decide +kernel
theorem dL_count_16 : decode cL_count 16 = .ok (.i2l, 1) := by decide +kernel
theorem dL_count_17 : decode cL_count 17 = .ok (.lastore, 1) := by decide +kernel
theorem dL_count_18 : decode cL_count 18 = .ok (.goto 11, 3) := by decide +kernel
theorem dL_count_21 : decode cL_count 21 = .ok (.astore 8, 2) := by decide +kernel
theorem dL_count_23 : decode cL_count 23 = .ok (.iconst 1, 1) := by decide +kernel
theorem dL_count_24 : decode cL_count 24 = .ok (.ireturn, 1) := by decide +kernel
theorem dL_count_25 : decode cL_count 25 = .ok (.astore 8, 2) := by decide +kernel
theorem dL_count_27 : decode cL_count 27 = .ok (.iconst 2, 1) := by decide +kernel
theorem dL_count_28 : decode cL_count 28 = .ok (.ireturn, 1) := by decide +kernel
theorem dL_count_29 : decode cL_count 29 = .ok (.iconst 0, 1) := by decide +kernel
theorem dL_count_30 : decode cL_count 30 = .ok (.ireturn, 1) := by decide +kernel
set_option maxRecDepth 20000 in
theorem ggL_age_X9_age : GoodIn wsL_age wsX9_age := goodIn_ca (goodIn_ca (goodIn_ca (goodIn_r _ [8, 9, 10, 11, 12, 13, 14, 15, 16, 17, 7, 18, 19, 20, 21, 22, 23, 24, 25, 26, 27, 28, 29, 30, 31, 32, 33, 34, 35, 36, 37, 38, 39, 40, 41, 42, 43, 44, 45, 46, 47, 48, 49, 50, 51, 52, 53, 54, 55, 56, 57, 58, 59, 60, 61, 62, 63, 64, 65, 66, 67, 68, 69, 70, 71, 72, 73, 74, 75, 76, 77, 78, 79, 80, 81, 82, 83, 84, 85, 86, 87, 88, 89, 90, 91, 92, 93, 94, 95, 96, 97, 98, 99, 100, 101, 102, 103, 104, 105, 106, 107, 108, 109, 110, 111, 112, 113, 114, 115, 116, 117, 118, 119, 120, 121, 122, 123, 124, 125, 126, 127, 128, 129, 130, 131, 132, 133, 134] (by decide +kernel) (by decide +kernel)) (goodIn_sub (fun _ h => List.mem_cons_of_mem _ (List.mem_append_left _ (List.mem_append_left _ (List.mem_append_right _ h)))) (by decide +kernel))) (goodIn_sub (fun _ h => List.mem_cons_of_mem _ (List.mem_append_left _ (List.mem_append_right _ h))) (by decide +kernel))) (goodIn_sub (fun _ h => List.mem_cons_of_mem _ (List.mem_append_right _ h)) (by decide +kernel))
set_option maxRecDepth 20000 in
theorem gL_age_X9_age : GoodIn wsL_age (wsV RL 47 RX9 yX9_age wsX9_age) := goodIn_app (goodIn_of _ (by decide +kernel)) ggL_age_X9_age
theorem dL_age_0 : decode cL_age 0 = .ok (.aload 6, 2) := by decide +kernel
theorem dL_age_2 : decode cL_age 2 = .ok (.iconst 0, 1) := by decide +kernel
theorem dL_age_3 : decode cL_age 3 = .ok (.aload_n 0, 1) := by decide +kernel
theorem dL_age_4 : decode cL_age 4 = .ok (.iload_n 1, 1) := by decide +kernel
theorem dL_age_5 : decode cL_age 5 = .ok (.iload_n 2, 1) := by decide +kernel
theorem dL_age_6 : decode cL_age 6 = .ok (.iload_n 3, 1) := by decide +kernel
theorem dL_age_7 : decode cL_age 7 = .ok (.iload 4, 2) := by decide +kernel
theorem dL_age_9 : decode cL_age 9 = .ok (.iload 5, 2) := by decide +kernel
theorem dL_age_11 : decode cL_age 11 = .ok (.invokevirtual 47, 3) := by decide +kernel
theorem dL_age_14 : decode cL_age 14 = .ok (.lastore, 1) := by decide +kernel
theorem dL_age_15 : decode cL_age 15 = .ok (.goto 15, 3) := by decide +kernel
theorem dL_age_18 : decode cL_age 18 = .ok (.astore 7, 2) := by decide +kernel
theorem dL_age_20 : decode cL_age 20 = .ok (.iconst 1, 1) := by decide +kernel
theorem dL_age_21 : decode cL_age 21 = .ok (.ireturn, 1) := by decide +kernel
theorem dL_age_22 : decode cL_age 22 = .ok (.astore 7, 2) := by decide +kernel
theorem dL_age_24 : decode cL_age 24 = .ok (.iconst 2, 1) := by decide +kernel
theorem dL_age_25 : decode cL_age 25 = .ok (.ireturn, 1) := by decide +kernel
theorem dL_age_26 : decode cL_age 26 = .ok (.astore 7, 2) := by decide +kernel
theorem dL_age_28 : decode cL_age 28 = .ok (.iconst 3, 1) := by decide +kernel
theorem dL_age_29 : decode cL_age 29 = .ok (.ireturn, 1) := by decide +kernel
theorem dL_age_30 : decode cL_age 30 = .ok (.iconst 0, 1) := by decide +kernel
theorem dL_age_31 : decode cL_age 31 = .ok (.ireturn, 1) := by decide +kernel
set_option maxRecDepth 20000 in
theorem ggL_whyNot_X9_whyNot : GoodIn wsL_whyNot wsX9_whyNot := goodIn_ca (goodIn_ca (goodIn_r _ [7, 8, 9, 10, 11, 12, 13, 14, 6, 15, 16, 17, 18, 19, 20, 21, 22, 23, 24, 25, 26, 27, 28, 29, 30, 31, 32, 33, 34, 35, 36, 37, 38, 39, 40, 41, 42, 43, 44, 45, 46, 47, 48, 49, 50, 51, 52, 53, 54, 55, 56, 57, 58, 59, 60, 61, 62, 63, 64, 65, 66, 67, 68, 69, 70, 71, 72, 73, 74, 75, 76, 77, 78, 79, 80, 81, 82, 83, 84, 85, 86, 87, 88, 89, 90, 91, 92, 93, 94, 95, 96, 97, 98, 99, 100, 101, 102, 103, 104, 105, 106, 107, 108, 109, 110, 111, 112, 113, 114, 115, 116, 117, 118, 119, 120, 121, 122, 123, 124, 125] (by decide +kernel) (by decide +kernel)) (goodIn_sub (fun _ h => List.mem_cons_of_mem _ (List.mem_append_left _ (List.mem_append_right _ h))) (by decide +kernel))) (goodIn_sub (fun _ h => List.mem_cons_of_mem _ (List.mem_append_right _ h)) (by decide +kernel))
set_option maxRecDepth 20000 in
theorem gL_whyNot_X9_whyNot : GoodIn wsL_whyNot (wsV RL 51 RX9 yX9_whyNot wsX9_whyNot) := goodIn_app (goodIn_of _ (by decide +kernel)) ggL_whyNot_X9_whyNot
theorem dL_whyNot_0 : decode cL_whyNot 0 = .ok (.aload 6, 2) := by decide +kernel
theorem dL_whyNot_2 : decode cL_whyNot 2 = .ok (.iconst 0, 1) := by decide +kernel
theorem dL_whyNot_3 : decode cL_whyNot 3 = .ok (.aload_n 0, 1) := by decide +kernel
theorem dL_whyNot_4 : decode cL_whyNot 4 = .ok (.iload_n 1, 1) := by decide +kernel
theorem dL_whyNot_5 : decode cL_whyNot 5 = .ok (.iload_n 2, 1) := by decide +kernel
theorem dL_whyNot_6 : decode cL_whyNot 6 = .ok (.iload_n 3, 1) := by decide +kernel
theorem dL_whyNot_7 : decode cL_whyNot 7 = .ok (.iload 4, 2) := by decide +kernel
theorem dL_whyNot_9 : decode cL_whyNot 9 = .ok (.iload 5, 2) := by decide +kernel
theorem dL_whyNot_11 : decode cL_whyNot 11 = .ok (.invokevirtual 51, 3) := by decide +kernel
theorem dL_whyNot_14 : decode cL_whyNot 14 = .ok (.i2l, 1) := by decide +kernel
theorem dL_whyNot_15 : decode cL_whyNot 15 = .ok (.lastore, 1) := by decide +kernel
theorem dL_whyNot_16 : decode cL_whyNot 16 = .ok (.goto 11, 3) := by decide +kernel
theorem dL_whyNot_19 : decode cL_whyNot 19 = .ok (.astore 7, 2) := by decide +kernel
theorem dL_whyNot_21 : decode cL_whyNot 21 = .ok (.iconst 1, 1) := by decide +kernel
theorem dL_whyNot_22 : decode cL_whyNot 22 = .ok (.ireturn, 1) := by decide +kernel
theorem dL_whyNot_23 : decode cL_whyNot 23 = .ok (.astore 7, 2) := by decide +kernel
theorem dL_whyNot_25 : decode cL_whyNot 25 = .ok (.iconst 2, 1) := by decide +kernel
theorem dL_whyNot_26 : decode cL_whyNot 26 = .ok (.ireturn, 1) := by decide +kernel
theorem dL_whyNot_27 : decode cL_whyNot 27 = .ok (.iconst 0, 1) := by decide +kernel
theorem dL_whyNot_28 : decode cL_whyNot 28 = .ok (.ireturn, 1) := by decide +kernel
set_option maxRecDepth 20000 in
theorem ggL_about_X9_about : GoodIn wsL_about wsX9_about := goodIn_ca (goodIn_ca (goodIn_r _ [7, 8, 9, 10, 11, 12, 13, 14, 15, 16, 17, 6, 18, 19, 20, 21, 22, 23, 24, 25, 26, 27, 28, 29, 30, 31, 32, 33, 34, 35, 36, 37, 38, 39, 40, 41, 42, 43, 44, 45, 46, 47, 48, 49, 50, 51, 52, 53, 54, 55, 56, 57, 58, 59, 60, 61, 62, 63] (by decide +kernel) (by decide +kernel)) (goodIn_sub (fun _ h => List.mem_cons_of_mem _ (List.mem_append_left _ (List.mem_append_right _ h))) (by decide +kernel))) (goodIn_sub (fun _ h => List.mem_cons_of_mem _ (List.mem_append_right _ h)) (by decide +kernel))
set_option maxRecDepth 20000 in
theorem gL_about_X9_about : GoodIn wsL_about (wsV RL 54 RX9 yX9_about wsX9_about) := goodIn_app (goodIn_of _ (by decide +kernel)) ggL_about_X9_about
theorem dL_about_0 : decode cL_about 0 = .ok (.aload_n 3, 1) := by decide +kernel
theorem dL_about_1 : decode cL_about 1 = .ok (.iconst 0, 1) := by decide +kernel
theorem dL_about_2 : decode cL_about 2 = .ok (.aload_n 0, 1) := by decide +kernel
theorem dL_about_3 : decode cL_about 3 = .ok (.iload_n 1, 1) := by decide +kernel
theorem dL_about_4 : decode cL_about 4 = .ok (.iload_n 2, 1) := by decide +kernel
theorem dL_about_5 : decode cL_about 5 = .ok (.invokevirtual 54, 3) := by decide +kernel
theorem dL_about_8 : decode cL_about 8 = .ok (.i2l, 1) := by decide +kernel
theorem dL_about_9 : decode cL_about 9 = .ok (.lastore, 1) := by decide +kernel
theorem dL_about_10 : decode cL_about 10 = .ok (.goto 11, 3) := by decide +kernel
theorem dL_about_13 : decode cL_about 13 = .ok (.astore 4, 2) := by decide +kernel
theorem dL_about_15 : decode cL_about 15 = .ok (.iconst 1, 1) := by decide +kernel
theorem dL_about_16 : decode cL_about 16 = .ok (.ireturn, 1) := by decide +kernel
theorem dL_about_17 : decode cL_about 17 = .ok (.astore 4, 2) := by decide +kernel
theorem dL_about_19 : decode cL_about 19 = .ok (.iconst 2, 1) := by decide +kernel
theorem dL_about_20 : decode cL_about 20 = .ok (.ireturn, 1) := by decide +kernel
theorem dL_about_21 : decode cL_about 21 = .ok (.iconst 0, 1) := by decide +kernel
theorem dL_about_22 : decode cL_about 22 = .ok (.ireturn, 1) := by decide +kernel
set_option maxRecDepth 20000 in
theorem ggL_depthAnew_X9_depthAnew : GoodIn wsL_depthAnew wsX9_depthAnew := goodIn_ca (goodIn_r _ [6, 7, 8, 9, 5, 10, 11, 12, 13, 14, 15, 16, 17, 18, 19, 20, 21, 22, 23, 24, 25, 26, 27, 28, 29, 30, 31, 32, 33, 34, 35, 36, 37, 38, 39, 40, 41, 42, 43, 44, 45, 46, 47, 48, 49, 50, 51, 52, 53, 54, 55, 56, 57, 58, 59, 60, 61, 62, 63, 64, 65, 66, 67, 68, 69, 70, 71, 72, 73, 74, 75, 76, 77, 78, 79, 80, 81, 82, 83, 84, 85, 86, 87, 88, 89, 90, 91, 92, 93, 94, 95, 96, 97, 98, 99, 100, 101, 102, 103, 104, 105, 106, 107, 108, 109, 110, 111, 112, 113, 114, 115, 116, 117, 118, 119, 120, 121, 122] (by decide +kernel) (by decide +kernel)) (goodIn_sub (fun _ h => List.mem_cons_of_mem _ (List.mem_append_right _ h)) (by decide +kernel))
set_option maxRecDepth 20000 in
theorem gL_depthAnew_X9_depthAnew : GoodIn wsL_depthAnew (wsV RL 58 RX9 yX9_depthAnew wsX9_depthAnew) := goodIn_app (goodIn_of _ (by decide +kernel)) ggL_depthAnew_X9_depthAnew
theorem dL_depthAnew_0 : decode cL_depthAnew 0 = .ok (.aload_n 2, 1) := by decide +kernel
theorem dL_depthAnew_1 : decode cL_depthAnew 1 = .ok (.iconst 0, 1) := by decide +kernel
theorem dL_depthAnew_2 : decode cL_depthAnew 2 = .ok (.aload_n 0, 1) := by decide +kernel
theorem dL_depthAnew_3 : decode cL_depthAnew 3 = .ok (.iload_n 1, 1) := by decide +kernel
theorem dL_depthAnew_4 : decode cL_depthAnew 4 = .ok (.invokevirtual 58, 3) := by decide +kernel
theorem dL_depthAnew_7 : decode cL_depthAnew 7 = .ok (.i2l, 1) := by decide +kernel
theorem dL_depthAnew_8 : decode cL_depthAnew 8 = .ok (.lastore, 1) := by decide +kernel
theorem dL_depthAnew_9 : decode cL_depthAnew 9 = .ok (.goto 6, 3) := by decide +kernel
theorem dL_depthAnew_12 : decode cL_depthAnew 12 = .ok (.astore_n 3, 1) := by decide +kernel
theorem dL_depthAnew_13 : decode cL_depthAnew 13 = .ok (.iconst 1, 1) := by decide +kernel
theorem dL_depthAnew_14 : decode cL_depthAnew 14 = .ok (.ireturn, 1) := by decide +kernel
theorem dL_depthAnew_15 : decode cL_depthAnew 15 = .ok (.iconst 0, 1) := by decide +kernel
theorem dL_depthAnew_16 : decode cL_depthAnew 16 = .ok (.ireturn, 1) := by decide +kernel
set_option maxRecDepth 20000 in
theorem ggL_top_X9_top : GoodIn wsL_top wsX9_top := goodIn_ca (goodIn_r _ [6, 7, 8, 9, 10, 11, 5, 12, 13, 14, 15, 16, 17, 18, 19, 20, 21, 22, 23, 24, 25, 26, 27, 28, 29, 30, 31, 32, 33, 34, 35, 36, 37, 38, 39, 40, 41, 42, 43, 44, 45, 46, 47, 48, 49, 50, 51, 52, 53, 54, 55, 56, 57, 58, 59, 60, 61, 62, 63, 64] (by decide +kernel) (by decide +kernel)) (goodIn_sub (fun _ h => List.mem_cons_of_mem _ (List.mem_append_right _ h)) (by decide +kernel))
set_option maxRecDepth 20000 in
theorem gL_top_X9_top : GoodIn wsL_top (wsV RL 61 RX9 yX9_top wsX9_top) := goodIn_app (goodIn_of _ (by decide +kernel)) ggL_top_X9_top
theorem dL_top_0 : decode cL_top 0 = .ok (.aload_n 3, 1) := by decide +kernel
theorem dL_top_1 : decode cL_top 1 = .ok (.iconst 0, 1) := by decide +kernel
theorem dL_top_2 : decode cL_top 2 = .ok (.aload_n 0, 1) := by decide +kernel
theorem dL_top_3 : decode cL_top 3 = .ok (.iload_n 1, 1) := by decide +kernel
theorem dL_top_4 : decode cL_top 4 = .ok (.iload_n 2, 1) := by decide +kernel
theorem dL_top_5 : decode cL_top 5 = .ok (.invokevirtual 61, 3) := by decide +kernel
theorem dL_top_8 : decode cL_top 8 = .ok (.i2l, 1) := by decide +kernel
theorem dL_top_9 : decode cL_top 9 = .ok (.lastore, 1) := by decide +kernel
theorem dL_top_10 : decode cL_top 10 = .ok (.goto 7, 3) := by decide +kernel
theorem dL_top_13 : decode cL_top 13 = .ok (.astore 4, 2) := by decide +kernel
theorem dL_top_15 : decode cL_top 15 = .ok (.iconst 1, 1) := by decide +kernel
theorem dL_top_16 : decode cL_top 16 = .ok (.ireturn, 1) := by decide +kernel
theorem dL_top_17 : decode cL_top 17 = .ok (.iconst 0, 1) := by decide +kernel
theorem dL_top_18 : decode cL_top 18 = .ok (.ireturn, 1) := by decide +kernel
set_option maxRecDepth 20000 in
theorem ggL_topAnew_X9_topAnew : GoodIn wsL_topAnew wsX9_topAnew := goodIn_ca (goodIn_r _ [6, 7, 8, 9, 10, 5, 11, 12, 13, 14, 15, 16, 17, 18, 19, 20, 21, 22, 23, 24, 25, 26, 27, 28, 29, 30, 31, 32, 33, 34, 35, 36, 37, 38, 39, 40, 41, 42, 43, 44, 45, 46, 47, 48, 49, 50, 51, 52, 53, 54, 55, 56, 57, 58, 59, 60, 61, 62, 63, 64, 65, 66, 67, 68, 69, 70, 71, 72, 73, 74, 75, 76, 77, 78, 79, 80, 81, 82, 83, 84, 85, 86, 87, 88, 89, 90, 91, 92, 93, 94, 95, 96, 97, 98, 99, 100, 101, 102, 103, 104, 105, 106, 107, 108, 109, 110, 111, 112, 113, 114, 115, 116, 117, 118, 119, 120, 121, 122, 123, 124, 125] (by decide +kernel) (by decide +kernel)) (goodIn_sub (fun _ h => List.mem_cons_of_mem _ (List.mem_append_right _ h)) (by decide +kernel))
set_option maxRecDepth 20000 in
theorem gL_topAnew_X9_topAnew : GoodIn wsL_topAnew (wsV RL 64 RX9 yX9_topAnew wsX9_topAnew) := goodIn_app (goodIn_of _ (by decide +kernel)) ggL_topAnew_X9_topAnew
theorem dL_topAnew_0 : decode cL_topAnew 0 = .ok (.aload_n 3, 1) := by decide +kernel
theorem dL_topAnew_1 : decode cL_topAnew 1 = .ok (.iconst 0, 1) := by decide +kernel
theorem dL_topAnew_2 : decode cL_topAnew 2 = .ok (.aload_n 0, 1) := by decide +kernel
theorem dL_topAnew_3 : decode cL_topAnew 3 = .ok (.iload_n 1, 1) := by decide +kernel
theorem dL_topAnew_4 : decode cL_topAnew 4 = .ok (.iload_n 2, 1) := by decide +kernel
theorem dL_topAnew_5 : decode cL_topAnew 5 = .ok (.invokevirtual 64, 3) := by decide +kernel
theorem dL_topAnew_8 : decode cL_topAnew 8 = .ok (.i2l, 1) := by decide +kernel
theorem dL_topAnew_9 : decode cL_topAnew 9 = .ok (.lastore, 1) := by decide +kernel
theorem dL_topAnew_10 : decode cL_topAnew 10 = .ok (.goto 7, 3) := by decide +kernel
theorem dL_topAnew_13 : decode cL_topAnew 13 = .ok (.astore 4, 2) := by decide +kernel
theorem dL_topAnew_15 : decode cL_topAnew 15 = .ok (.iconst 1, 1) := by decide +kernel
theorem dL_topAnew_16 : decode cL_topAnew 16 = .ok (.ireturn, 1) := by decide +kernel
theorem dL_topAnew_17 : decode cL_topAnew 17 = .ok (.iconst 0, 1) := by decide +kernel
theorem dL_topAnew_18 : decode cL_topAnew 18 = .ok (.ireturn, 1) := by decide +kernel
set_option maxRecDepth 20000 in
theorem ggL_law_X9_init : GoodIn wsL_law wsX9_init := goodIn_r _ [10, 11, 12, 13, 14, 15, 16, 17, 18, 19, 20, 21, 22, 23, 24, 25, 26, 27, 28, 29, 30, 31, 32, 33, 34, 35, 36, 37, 38, 39, 40, 41, 42, 43, 44, 45, 46, 47, 48, 49, 50, 51, 52, 53, 54, 55, 56, 670, 650, 651, 652, 653, 654, 655, 671, 672, 673, 674] (by decide +kernel) (by decide +kernel)
set_option maxRecDepth 20000 in
theorem gL_law_X9_init : GoodIn wsL_law (wsX9_init) := ggL_law_X9_init
set_option maxRecDepth 20000 in
theorem ggL_law_X10_init : GoodIn wsL_law wsX10_init := goodIn_r _ [59, 60, 12, 13, 17, 61, 62, 63, 64, 65, 66, 67, 6, 68, 69, 656, 657, 658, 659, 660, 661, 662, 663, 664, 665, 666, 667, 668, 669] (by decide +kernel) (by decide +kernel)
set_option maxRecDepth 20000 in
theorem gL_law_X10_init : GoodIn wsL_law (wsX10_init) := ggL_law_X10_init
set_option maxRecDepth 20000 in
theorem ggL_law_L_ground : GoodIn wsL_law wsL_ground := goodIn_ca (goodIn_ca (goodIn_r _ [73, 74, 75, 76, 77, 78, 2, 79, 80, 18, 81, 82, 83, 84, 85, 86, 87, 88, 89, 90, 91, 92, 93, 16, 94, 34, 95, 96, 97, 98, 650, 651, 652, 653, 654, 655, 670] (by decide +kernel) (by decide +kernel)) (goodIn_sub (fun _ h => List.mem_append_left _ (List.mem_append_left _ (List.mem_append_right _ h))) (by decide +kernel))) (goodIn_sub (fun _ h => List.mem_append_left _ (List.mem_append_right _ h)) (by decide +kernel))
set_option maxRecDepth 20000 in
theorem gL_law_L_ground : GoodIn wsL_law (va_wsS RL 71 yL_ground wsL_ground) := goodIn_app (goodIn_of _ (by decide +kernel)) ggL_law_L_ground
set_option maxRecDepth 20000 in
theorem ggL_law_X10_ground : GoodIn wsL_law wsX10_ground := goodIn_r _ [102, 61, 103, 104, 5, 105, 106, 107, 108, 109, 110, 111, 112, 113, 656, 657, 658, 659, 660, 661, 662, 663, 664, 665, 666, 667, 668, 669] (by decide +kernel) (by decide +kernel)
set_option maxRecDepth 20000 in
theorem gL_law_X10_ground : GoodIn wsL_law (wsV RL 76 RX10 yX10_ground wsX10_ground) := goodIn_app (goodIn_of _ (by decide +kernel)) ggL_law_X10_ground
set_option maxRecDepth 20000 in
theorem ggL_law_X10_thrown : GoodIn wsL_law wsX10_thrown := goodIn_r _ [117, 113, 656, 657, 658, 659, 660, 661, 662, 663, 664, 665, 666, 667, 668, 669] (by decide +kernel) (by decide +kernel)
set_option maxRecDepth 20000 in
theorem gL_law_X10_thrown : GoodIn wsL_law (wsV RL 77 RX10 yX10_thrown wsX10_thrown) := goodIn_app (goodIn_of _ (by decide +kernel)) ggL_law_X10_thrown
set_option maxRecDepth 20000 in
theorem ggL_law_L_stone : GoodIn wsL_law wsL_stone := goodIn_ca (goodIn_ca (goodIn_ca (goodIn_r _ [120, 74, 75, 121, 122, 123, 124, 2, 125, 126, 81, 82, 83, 84, 85, 86, 87, 88, 89, 90, 127, 128, 129, 130, 131, 132, 22, 133, 134, 135, 21, 136, 137, 138, 139, 140, 141, 142, 143, 144, 18, 145, 91, 92, 93, 16, 94, 34, 146, 147, 148, 149, 12, 13, 150, 151, 152, 153, 154, 155, 156, 157, 158, 159, 160, 161, 162, 163, 164, 165, 166, 167, 168, 169, 170, 171, 172, 173, 174, 175, 176, 177, 178, 179, 180, 181, 39, 182, 183, 184, 185, 186, 187, 188, 189, 190, 191, 192, 193, 194, 195, 196, 197, 198, 199, 200, 201, 202, 203, 204, 205, 206, 207, 208, 209, 210, 211, 38, 212, 213, 214, 215, 216, 217, 218, 219, 220, 221, 222, 223, 224, 225, 226, 227, 228, 229, 230, 231, 232, 233, 234, 235, 236, 237, 238, 239, 240, 241, 242, 650, 651, 652, 653, 654, 655, 671, 672, 673, 675, 676, 677, 678, 679, 680, 670] (by decide +kernel) (by decide +kernel)) (goodIn_sub (fun _ h => List.mem_append_left _ (List.mem_append_left _ (List.mem_append_right _ h))) (by decide +kernel))) (goodIn_sub (fun _ h => List.mem_append_left _ (List.mem_append_right _ h)) (by decide +kernel))) (goodIn_sub (fun _ h => List.mem_append_right _ h) (by decide +kernel))
set_option maxRecDepth 20000 in
theorem gL_law_L_stone : GoodIn wsL_law (va_wsS RL 81 yL_stone wsL_stone) := goodIn_app (goodIn_of _ (by decide +kernel)) ggL_law_L_stone
set_option maxRecDepth 20000 in
theorem ggL_law_X10_stone : GoodIn wsL_law wsX10_stone := goodIn_r _ [246, 247, 103, 104, 5, 105, 106, 107, 108, 109, 110, 111, 112, 113, 248, 249, 250, 251, 61, 64, 65, 62, 63, 252, 253, 254, 255, 256, 257, 258, 259, 656, 657, 658, 659, 660, 661, 662, 663, 664, 665, 666, 667, 668, 669] (by decide +kernel) (by decide +kernel)
set_option maxRecDepth 20000 in
theorem gL_law_X10_stone : GoodIn wsL_law (wsV RL 83 RX10 yX10_stone wsX10_stone) := goodIn_app (goodIn_of _ (by decide +kernel)) ggL_law_X10_stone
set_option maxRecDepth 20000 in
theorem ggL_law_L_draw : GoodIn wsL_law wsL_draw := goodIn_ca (goodIn_r _ [262, 75, 263, 264, 265, 2, 266, 267, 29, 86, 87, 88, 89, 90, 650, 651, 652, 653, 654, 655] (by decide +kernel) (by decide +kernel)) (goodIn_sub (fun _ h => List.mem_append_left _ (List.mem_append_right _ h)) (by decide +kernel))
set_option maxRecDepth 20000 in
theorem gL_law_L_draw : GoodIn wsL_law (va_wsS RL 84 yL_draw wsL_draw) := goodIn_app (goodIn_of _ (by decide +kernel)) ggL_law_L_draw
set_option maxRecDepth 20000 in
theorem ggL_law_X10_draw : GoodIn wsL_law wsX10_draw := goodIn_r _ [271, 272, 66, 106, 107, 5, 108, 109, 110, 111, 112, 113, 656, 657, 658, 659, 660, 661, 662, 663, 664, 665, 666, 667, 668, 669] (by decide +kernel) (by decide +kernel)
set_option maxRecDepth 20000 in
theorem gL_law_X10_draw : GoodIn wsL_law (wsV RL 87 RX10 yX10_draw wsX10_draw) := goodIn_app (goodIn_of _ (by decide +kernel)) ggL_law_X10_draw
set_option maxRecDepth 20000 in
theorem ggL_law_L_rain : GoodIn wsL_law wsL_rain := goodIn_ca (goodIn_ca (goodIn_r _ [275, 75, 121, 276, 277, 278, 2, 279, 280, 86, 87, 88, 89, 90, 127, 128, 129, 130, 131, 132, 22, 133, 134, 135, 21, 136, 137, 281, 282, 283, 284, 29, 285, 286, 287, 288, 138, 139, 140, 141, 142, 143, 144, 18, 145, 91, 92, 93, 16, 94, 34, 146, 147, 148, 149, 12, 13, 150, 151, 152, 153, 154, 155, 156, 157, 158, 159, 160, 161, 162, 163, 164, 165, 166, 167, 168, 169, 170, 171, 172, 173, 174, 175, 176, 177, 178, 179, 180, 181, 39, 182, 183, 184, 185, 186, 187, 188, 189, 190, 191, 192, 193, 194, 195, 196, 197, 198, 199, 200, 201, 202, 203, 204, 205, 206, 207, 208, 209, 210, 211, 38, 212, 213, 214, 215, 216, 217, 218, 219, 220, 221, 222, 223, 224, 225, 226, 227, 228, 229, 230, 231, 232, 233, 234, 235, 236, 237, 238, 239, 240, 241, 242, 289, 290, 291, 292, 293, 650, 651, 652, 653, 654, 655, 671, 672, 673, 675, 676, 677, 678, 679, 680, 670] (by decide +kernel) (by decide +kernel)) (goodIn_sub (fun _ h => List.mem_append_left _ (List.mem_append_right _ h)) (by decide +kernel))) (goodIn_sub (fun _ h => List.mem_append_right _ h) (by decide +kernel))
set_option maxRecDepth 20000 in
theorem gL_law_L_rain : GoodIn wsL_law (va_wsS RL 88 yL_rain wsL_rain) := goodIn_app (goodIn_of _ (by decide +kernel)) ggL_law_L_rain
set_option maxRecDepth 20000 in
theorem ggL_law_X10_rain : GoodIn wsL_law wsX10_rain := goodIn_r _ [297, 247, 106, 107, 5, 108, 109, 110, 111, 112, 113, 298, 299, 300, 301, 66, 302, 303, 304, 305, 248, 249, 250, 251, 61, 64, 65, 62, 63, 252, 253, 254, 255, 256, 257, 258, 259, 306, 307, 308, 309, 656, 657, 658, 659, 660, 661, 662, 663, 664, 665, 666, 667, 668, 669] (by decide +kernel) (by decide +kernel)
set_option maxRecDepth 20000 in
theorem gL_law_X10_rain : GoodIn wsL_law (wsV RL 90 RX10 yX10_rain wsX10_rain) := goodIn_app (goodIn_of _ (by decide +kernel)) ggL_law_X10_rain
set_option maxRecDepth 20000 in
theorem ggL_law_L_flood : GoodIn wsL_law wsL_flood := goodIn_ca (goodIn_ca (goodIn_ca (goodIn_r _ [312, 74, 75, 121, 313, 314, 315, 2, 316, 317, 318, 319, 320, 22, 321, 322, 323, 81, 82, 83, 84, 85, 86, 87, 88, 89, 90, 324, 325, 326, 327, 328, 329, 330, 131, 132, 23, 133, 134, 135, 21, 136, 137, 331, 332, 333, 334, 12, 13, 335, 336, 337, 338, 339, 340, 341, 342, 343, 344, 345, 346, 347, 348, 349, 350, 351, 352, 353, 145, 194, 195, 196, 197, 198, 199, 39, 200, 201, 202, 203, 204, 205, 206, 207, 208, 209, 210, 211, 38, 212, 160, 161, 162, 213, 214, 215, 216, 217, 218, 219, 220, 221, 222, 223, 224, 225, 226, 227, 228, 229, 230, 231, 232, 233, 234, 235, 236, 237, 238, 239, 240, 241, 242, 166, 167, 168, 169, 170, 171, 172, 173, 174, 175, 176, 177, 178, 179, 180, 181, 354, 355, 356, 357, 358, 359, 360, 361, 362, 363, 364, 365, 366, 367, 368, 369, 370, 371, 372, 373, 92, 93, 16, 94, 34, 190, 191, 192, 144, 193, 155, 159, 681, 682, 683, 650, 651, 652, 653, 654, 655, 684, 685, 686, 687, 671, 672, 673, 688, 689, 690, 675, 676, 677, 678, 679, 680, 670] (by decide +kernel) (by decide +kernel)) (goodIn_sub (fun _ h => List.mem_append_left _ (List.mem_append_left _ (List.mem_append_right _ h))) (by decide +kernel))) (goodIn_sub (fun _ h => List.mem_append_left _ (List.mem_append_right _ h)) (by decide +kernel))) (goodIn_sub (fun _ h => List.mem_append_right _ h) (by decide +kernel))
set_option maxRecDepth 20000 in
theorem gL_law_L_flood : GoodIn wsL_law (va_wsS RL 91 yL_flood wsL_flood) := goodIn_app (goodIn_of _ (by decide +kernel)) ggL_law_L_flood
set_option maxRecDepth 20000 in
theorem ggL_law_X10_flood : GoodIn wsL_law wsX10_flood := goodIn_r _ [377, 378, 247, 379, 380, 5, 381, 103, 104, 105, 106, 107, 108, 109, 110, 111, 112, 113, 382, 383, 384, 385, 62, 63, 256, 257, 258, 259, 65, 656, 657, 658, 659, 660, 661, 662, 663, 664, 665, 666, 667, 668, 669] (by decide +kernel) (by decide +kernel)
set_option maxRecDepth 20000 in
theorem gL_law_X10_flood : GoodIn wsL_law (wsV RL 94 RX10 yX10_flood wsX10_flood) := goodIn_app (goodIn_of _ (by decide +kernel)) ggL_law_X10_flood
set_option maxRecDepth 20000 in
theorem ggL_law_L_soften : GoodIn wsL_law wsL_soften := goodIn_ca (goodIn_ca (goodIn_r _ [388, 75, 121, 389, 390, 391, 2, 392, 317, 393, 394, 367, 22, 18, 86, 87, 88, 89, 90, 327, 328, 329, 330, 131, 132, 23, 133, 134, 135, 21, 136, 137, 395, 396, 397, 16, 398, 399, 15, 34, 400, 401, 402, 403, 404, 405, 406, 31, 32, 33, 12, 13, 407, 408, 409, 369, 372, 410, 345, 346, 347, 348, 349, 350, 351, 352, 353, 145, 194, 195, 196, 197, 198, 199, 39, 200, 201, 202, 203, 204, 205, 206, 207, 208, 209, 210, 211, 38, 212, 160, 161, 162, 213, 214, 215, 216, 217, 218, 219, 220, 221, 222, 223, 224, 225, 226, 227, 228, 229, 230, 231, 232, 233, 234, 235, 236, 237, 238, 239, 240, 241, 242, 166, 167, 168, 169, 170, 171, 172, 173, 174, 175, 176, 177, 178, 179, 180, 181, 354, 355, 356, 357, 320, 358, 342, 359, 360, 343, 361, 362, 363, 323, 364, 335, 337, 336, 338, 365, 366, 368, 370, 371, 373, 92, 93, 94, 190, 191, 192, 144, 193, 155, 159, 688, 689, 690, 650, 651, 652, 653, 654, 655, 671, 672, 673, 670, 681, 682, 683, 675, 676, 677, 678, 679, 680, 684, 685, 686, 687] (by decide +kernel) (by decide +kernel)) (goodIn_sub (fun _ h => List.mem_append_left _ (List.mem_append_right _ h)) (by decide +kernel))) (goodIn_sub (fun _ h => List.mem_append_right _ h) (by decide +kernel))
set_option maxRecDepth 20000 in
theorem gL_law_L_soften : GoodIn wsL_law (va_wsS RL 95 yL_soften wsL_soften) := goodIn_app (goodIn_of _ (by decide +kernel)) ggL_law_L_soften
end
section
set_option maxRecDepth 20000 in
theorem ggL_law_X10_soften : GoodIn wsL_law wsX10_soften := goodIn_r _ [414, 378, 247, 106, 107, 5, 108, 109, 110, 111, 112, 113, 415, 416, 417, 418, 61, 63, 62, 256, 257, 258, 259, 65, 656, 657, 658, 659, 660, 661, 662, 663, 664, 665, 666, 667, 668, 669] (by decide +kernel) (by decide +kernel)
set_option maxRecDepth 20000 in
theorem gL_law_X10_soften : GoodIn wsL_law (wsV RL 97 RX10 yX10_soften wsX10_soften) := goodIn_app (goodIn_of _ (by decide +kernel)) ggL_law_X10_soften
set_option maxRecDepth 20000 in
theorem ggL_law_L_eye : GoodIn wsL_law wsL_eye := goodIn_ca (goodIn_ca (goodIn_r _ [421, 75, 121, 422, 423, 424, 2, 425, 131, 132, 426, 24, 427, 428, 429, 86, 87, 88, 89, 90, 133, 134, 135, 21, 136, 137, 430, 431, 432, 433, 12, 13, 434, 194, 195, 196, 197, 198, 199, 39, 200, 201, 202, 203, 204, 205, 206, 207, 208, 209, 210, 211, 38, 212, 160, 161, 162, 213, 214, 215, 216, 217, 218, 219, 220, 221, 222, 223, 224, 225, 226, 227, 228, 229, 230, 231, 232, 233, 234, 235, 236, 237, 238, 239, 240, 241, 242, 650, 651, 652, 653, 654, 655, 691, 671, 672, 673] (by decide +kernel) (by decide +kernel)) (goodIn_sub (fun _ h => List.mem_append_right _ h) (by decide +kernel))) (goodIn_sub (fun _ h => List.mem_append_left _ (List.mem_append_right _ h)) (by decide +kernel))
set_option maxRecDepth 20000 in
theorem gL_law_L_eye : GoodIn wsL_law (va_wsS RL 98 yL_eye wsL_eye) := goodIn_app (goodIn_of _ (by decide +kernel)) ggL_law_L_eye
set_option maxRecDepth 20000 in
theorem ggL_law_X10_eye : GoodIn wsL_law wsX10_eye := goodIn_r _ [438, 439, 67, 106, 107, 5, 108, 109, 110, 111, 112, 113, 656, 657, 658, 659, 660, 661, 662, 663, 664, 665, 666, 667, 668, 669] (by decide +kernel) (by decide +kernel)
set_option maxRecDepth 20000 in
theorem gL_law_X10_eye : GoodIn wsL_law (wsV RL 100 RX10 yX10_eye wsX10_eye) := goodIn_app (goodIn_of _ (by decide +kernel)) ggL_law_X10_eye
set_option maxRecDepth 20000 in
theorem ggL_law_L_anchor : GoodIn wsL_law wsL_anchor := goodIn_ca (goodIn_ca (goodIn_r _ [442, 75, 121, 443, 444, 445, 2, 446, 131, 132, 447, 448, 28, 86, 87, 88, 89, 90, 449, 450, 451, 27, 452, 55, 453, 454, 455, 456, 134, 135, 21, 136, 137, 457, 167, 168, 169, 170, 171, 172, 173, 174, 175, 176, 177, 178, 179, 180, 181, 39, 458, 459, 460, 461, 462, 463, 464, 465, 466, 467, 468, 12, 13, 469, 470, 471, 195, 196, 197, 198, 199, 200, 201, 202, 203, 204, 205, 206, 207, 208, 209, 210, 211, 38, 212, 160, 161, 162, 213, 214, 215, 216, 217, 218, 219, 220, 221, 222, 223, 224, 225, 226, 227, 228, 229, 230, 231, 232, 233, 234, 235, 236, 237, 238, 239, 240, 241, 242, 650, 651, 652, 653, 654, 655, 674, 692, 693, 671, 672, 673] (by decide +kernel) (by decide +kernel)) (goodIn_sub (fun _ h => List.mem_append_right _ h) (by decide +kernel))) (goodIn_sub (fun _ h => List.mem_append_left _ (List.mem_append_right _ h)) (by decide +kernel))
set_option maxRecDepth 20000 in
theorem gL_law_L_anchor : GoodIn wsL_law (va_wsS RL 103 yL_anchor wsL_anchor) := goodIn_app (goodIn_of _ (by decide +kernel)) ggL_law_L_anchor
set_option maxRecDepth 20000 in
theorem ggL_law_X10_anchor : GoodIn wsL_law wsX10_anchor := goodIn_r _ [475, 476, 477, 478, 68, 69, 109, 110, 111, 5, 112, 113, 656, 657, 658, 659, 660, 661, 662, 663, 664, 665, 666, 667, 668, 669] (by decide +kernel) (by decide +kernel)
set_option maxRecDepth 20000 in
theorem gL_law_X10_anchor : GoodIn wsL_law (wsV RL 106 RX10 yX10_anchor wsX10_anchor) := goodIn_app (goodIn_of _ (by decide +kernel)) ggL_law_X10_anchor
set_option maxRecDepth 20000 in
theorem ggL_law_L_count : GoodIn wsL_law wsL_count := goodIn_ca (goodIn_ca (goodIn_r _ [481, 74, 75, 482, 483, 484, 2, 485, 486, 321, 322, 323, 487, 488, 489, 490, 84, 85, 24, 133, 134, 135, 21, 136, 137, 81, 82, 83, 86, 87, 88, 89, 90, 324, 325, 326, 331, 332, 333, 334, 12, 13, 335, 336, 337, 338, 491, 492, 493, 494, 495, 22, 145, 496, 497, 498, 166, 167, 168, 169, 170, 171, 172, 173, 174, 175, 176, 177, 178, 179, 180, 181, 39, 499, 362, 363, 364, 500, 501, 502, 429, 503, 504, 434, 684, 685, 686, 687, 650, 651, 652, 653, 654, 655, 671, 672, 673, 675, 676, 677, 678, 679, 680, 691] (by decide +kernel) (by decide +kernel)) (goodIn_sub (fun _ h => List.mem_append_left _ (List.mem_append_left _ (List.mem_append_right _ h))) (by decide +kernel))) (goodIn_sub (fun _ h => List.mem_append_left _ (List.mem_append_right _ h)) (by decide +kernel))
set_option maxRecDepth 20000 in
theorem gL_law_L_count : GoodIn wsL_law (va_wsS RL 107 yL_count wsL_count) := goodIn_app (goodIn_of _ (by decide +kernel)) ggL_law_L_count
set_option maxRecDepth 20000 in
theorem ggL_law_X10_count : GoodIn wsL_law wsX10_count := goodIn_r _ [508, 509, 510, 511, 5, 512, 439, 106, 107, 108, 379, 380, 381, 103, 104, 105, 109, 110, 111, 112, 113, 513, 514, 515, 516, 247, 65, 67, 64, 382, 383, 384, 385, 62, 63, 656, 657, 658, 659, 660, 661, 662, 663, 664, 665, 666, 667, 668, 669] (by decide +kernel) (by decide +kernel)
set_option maxRecDepth 20000 in
theorem gL_law_X10_count : GoodIn wsL_law (wsV RL 110 RX10 yX10_count wsX10_count) := goodIn_app (goodIn_of _ (by decide +kernel)) ggL_law_X10_count
set_option maxRecDepth 20000 in
theorem ggL_law_L_age : GoodIn wsL_law wsL_age := goodIn_ca (goodIn_ca (goodIn_ca (goodIn_r _ [519, 74, 75, 121, 520, 521, 522, 2, 523, 131, 132, 321, 322, 323, 28, 487, 488, 489, 490, 84, 85, 24, 133, 134, 135, 21, 136, 137, 81, 82, 83, 324, 325, 326, 89, 90, 331, 332, 333, 334, 12, 13, 335, 336, 337, 338, 524, 525, 526, 527, 528, 491, 492, 493, 494, 495, 22, 145, 496, 497, 498, 166, 167, 168, 169, 170, 171, 172, 173, 174, 175, 176, 177, 178, 179, 180, 181, 39, 499, 362, 363, 364, 500, 501, 502, 429, 503, 504, 434, 529, 530, 531, 532, 533, 534, 27, 535, 536, 537, 538, 539, 55, 453, 455, 456, 457, 540, 541, 542, 543, 454, 544, 684, 685, 686, 687, 650, 651, 652, 653, 654, 655, 671, 672, 673, 675, 676, 677, 678, 679, 680, 691, 674, 692, 693] (by decide +kernel) (by decide +kernel)) (goodIn_sub (fun _ h => List.mem_append_right _ h) (by decide +kernel))) (goodIn_sub (fun _ h => List.mem_append_left _ (List.mem_append_left _ (List.mem_append_right _ h))) (by decide +kernel))) (goodIn_sub (fun _ h => List.mem_append_left _ (List.mem_append_right _ h)) (by decide +kernel))
set_option maxRecDepth 20000 in
theorem gL_law_L_age : GoodIn wsL_law (va_wsS RL 111 yL_age wsL_age) := goodIn_app (goodIn_of _ (by decide +kernel)) ggL_law_L_age
set_option maxRecDepth 20000 in
theorem ggL_law_X10_age : GoodIn wsL_law wsX10_age := goodIn_r _ [548, 509, 510, 511, 5, 512, 439, 106, 107, 108, 379, 380, 381, 103, 104, 105, 549, 550, 551, 552, 478, 69, 553, 554, 555, 556, 557, 513, 514, 515, 516, 247, 65, 67, 64, 382, 383, 384, 385, 62, 63, 109, 110, 111, 112, 113, 558, 559, 560, 561, 68, 656, 657, 658, 659, 660, 661, 662, 663, 664, 665, 666, 667, 668, 669] (by decide +kernel) (by decide +kernel)
set_option maxRecDepth 20000 in
theorem gL_law_X10_age : GoodIn wsL_law (wsV RL 113 RX10 yX10_age wsX10_age) := goodIn_app (goodIn_of _ (by decide +kernel)) ggL_law_X10_age
set_option maxRecDepth 20000 in
theorem ggL_law_L_whyNot : GoodIn wsL_law wsL_whyNot := goodIn_ca (goodIn_ca (goodIn_r _ [564, 74, 75, 565, 566, 567, 2, 568, 28, 321, 322, 323, 487, 488, 489, 490, 84, 85, 24, 133, 134, 135, 21, 136, 137, 81, 82, 83, 324, 325, 326, 89, 90, 331, 332, 333, 334, 12, 13, 335, 336, 337, 338, 524, 525, 526, 527, 528, 491, 492, 493, 494, 495, 22, 145, 496, 497, 498, 166, 167, 168, 169, 170, 171, 172, 173, 174, 175, 176, 177, 178, 179, 180, 181, 39, 499, 362, 363, 364, 500, 501, 502, 429, 503, 504, 434, 529, 530, 531, 532, 533, 534, 27, 535, 536, 537, 538, 539, 55, 453, 455, 456, 457, 650, 651, 652, 653, 654, 655, 684, 685, 686, 687, 671, 672, 673, 675, 676, 677, 678, 679, 680, 691, 674, 692, 693] (by decide +kernel) (by decide +kernel)) (goodIn_sub (fun _ h => List.mem_append_left _ (List.mem_append_left _ (List.mem_append_right _ h))) (by decide +kernel))) (goodIn_sub (fun _ h => List.mem_append_left _ (List.mem_append_right _ h)) (by decide +kernel))
set_option maxRecDepth 20000 in
theorem gL_law_L_whyNot : GoodIn wsL_law (va_wsS RL 114 yL_whyNot wsL_whyNot) := goodIn_app (goodIn_of _ (by decide +kernel)) ggL_law_L_whyNot
set_option maxRecDepth 20000 in
theorem ggL_law_X10_whyNot : GoodIn wsL_law wsX10_whyNot := goodIn_r _ [572, 509, 510, 511, 5, 512, 439, 106, 107, 108, 379, 380, 381, 103, 104, 105, 109, 110, 111, 112, 113, 549, 550, 551, 552, 478, 69, 553, 554, 555, 556, 557, 513, 514, 515, 516, 247, 65, 67, 64, 382, 383, 384, 385, 62, 63, 656, 657, 658, 659, 660, 661, 662, 663, 664, 665, 666, 667, 668, 669] (by decide +kernel) (by decide +kernel)
set_option maxRecDepth 20000 in
theorem gL_law_X10_whyNot : GoodIn wsL_law (wsV RL 116 RX10 yX10_whyNot wsX10_whyNot) := goodIn_app (goodIn_of _ (by decide +kernel)) ggL_law_X10_whyNot
set_option maxRecDepth 20000 in
theorem ggL_law_X9_craters : GoodIn wsL_law wsX9_craters := goodIn_r _ [576, 22, 133, 134, 135, 21, 136, 137, 650, 651, 652, 653, 654, 655, 671, 672, 673] (by decide +kernel) (by decide +kernel)
set_option maxRecDepth 20000 in
theorem gL_law_X9_craters : GoodIn wsL_law (wsV RL 117 RX9 yX9_craters wsX9_craters) := goodIn_app (goodIn_of _ (by decide +kernel)) ggL_law_X9_craters
set_option maxRecDepth 20000 in
theorem ggL_law_X10_craters : GoodIn wsL_law wsX10_craters := goodIn_r _ [580, 113, 247, 656, 657, 658, 659, 660, 661, 662, 663, 664, 665, 666, 667, 668, 669] (by decide +kernel) (by decide +kernel)
set_option maxRecDepth 20000 in
theorem gL_law_X10_craters : GoodIn wsL_law (wsV RL 120 RX10 yX10_craters wsX10_craters) := goodIn_app (goodIn_of _ (by decide +kernel)) ggL_law_X10_craters
set_option maxRecDepth 20000 in
theorem ggL_law_L_about : GoodIn wsL_law wsL_about := goodIn_ca (goodIn_ca (goodIn_r _ [583, 74, 75, 584, 585, 586, 2, 587, 588, 22, 145, 497, 498, 496, 293, 589, 590, 591, 592, 84, 85, 133, 134, 135, 21, 136, 137, 86, 87, 88, 89, 90, 166, 167, 168, 169, 170, 171, 172, 173, 174, 175, 176, 177, 178, 179, 180, 181, 39, 650, 651, 652, 653, 654, 655, 675, 676, 677, 678, 679, 680, 671, 672, 673] (by decide +kernel) (by decide +kernel)) (goodIn_sub (fun _ h => List.mem_append_left _ (List.mem_append_left _ (List.mem_append_right _ h))) (by decide +kernel))) (goodIn_sub (fun _ h => List.mem_append_left _ (List.mem_append_right _ h)) (by decide +kernel))
set_option maxRecDepth 20000 in
theorem gL_law_L_about : GoodIn wsL_law (va_wsS RL 121 yL_about wsL_about) := goodIn_app (goodIn_of _ (by decide +kernel)) ggL_law_L_about
set_option maxRecDepth 20000 in
theorem ggL_law_X10_about : GoodIn wsL_law wsX10_about := goodIn_r _ [596, 62, 63, 64, 65, 597, 598, 599, 5, 600, 247, 106, 107, 108, 109, 110, 111, 112, 113, 656, 657, 658, 659, 660, 661, 662, 663, 664, 665, 666, 667, 668, 669] (by decide +kernel) (by decide +kernel)
set_option maxRecDepth 20000 in
theorem gL_law_X10_about : GoodIn wsL_law (wsV RL 124 RX10 yX10_about wsX10_about) := goodIn_app (goodIn_of _ (by decide +kernel)) ggL_law_X10_about
set_option maxRecDepth 20000 in
theorem ggL_law_L_depthAnew : GoodIn wsL_law wsL_depthAnew := goodIn_ca (goodIn_r _ [603, 74, 604, 605, 606, 2, 607, 589, 590, 591, 592, 84, 85, 22, 133, 134, 135, 21, 136, 137, 608, 609, 610, 611, 145, 612, 23, 613, 614, 615, 160, 161, 162, 166, 167, 168, 169, 170, 171, 172, 173, 174, 175, 176, 177, 178, 179, 180, 181, 39, 182, 183, 184, 144, 185, 153, 150, 151, 154, 152, 186, 187, 188, 189, 354, 355, 356, 357, 320, 358, 342, 359, 360, 343, 361, 362, 363, 323, 364, 335, 337, 336, 338, 365, 366, 367, 368, 369, 370, 371, 372, 373, 92, 93, 16, 94, 34, 650, 651, 652, 653, 654, 655, 671, 672, 673, 675, 676, 677, 678, 679, 680, 681, 682, 683, 688, 689, 690, 684, 685, 686, 687, 670] (by decide +kernel) (by decide +kernel)) (goodIn_sub (fun _ h => List.mem_append_left _ (List.mem_append_left _ (List.mem_append_right _ h))) (by decide +kernel))
set_option maxRecDepth 20000 in
theorem gL_law_L_depthAnew : GoodIn wsL_law (va_wsS RL 125 yL_depthAnew wsL_depthAnew) := goodIn_app (goodIn_of _ (by decide +kernel)) ggL_law_L_depthAnew
set_option maxRecDepth 20000 in
theorem ggL_law_X10_depthAnew : GoodIn wsL_law wsX10_depthAnew := goodIn_r _ [619, 65, 597, 598, 599, 5, 600, 247, 106, 107, 108, 109, 110, 111, 112, 113, 656, 657, 658, 659, 660, 661, 662, 663, 664, 665, 666, 667, 668, 669] (by decide +kernel) (by decide +kernel)
set_option maxRecDepth 20000 in
theorem gL_law_X10_depthAnew : GoodIn wsL_law (wsV RL 127 RX10 yX10_depthAnew wsX10_depthAnew) := goodIn_app (goodIn_of _ (by decide +kernel)) ggL_law_X10_depthAnew
set_option maxRecDepth 20000 in
theorem ggL_law_L_top : GoodIn wsL_law wsL_top := goodIn_ca (goodIn_r _ [622, 74, 623, 624, 625, 2, 626, 22, 145, 293, 81, 82, 83, 84, 85, 133, 134, 135, 21, 136, 137, 166, 167, 168, 169, 170, 171, 172, 173, 174, 175, 176, 177, 178, 179, 180, 181, 39, 627, 628, 629, 144, 630, 153, 186, 187, 188, 189, 150, 151, 650, 651, 652, 653, 654, 655, 675, 676, 677, 678, 679, 680, 671, 672, 673] (by decide +kernel) (by decide +kernel)) (goodIn_sub (fun _ h => List.mem_append_left _ (List.mem_append_left _ (List.mem_append_right _ h))) (by decide +kernel))
set_option maxRecDepth 20000 in
theorem gL_law_L_top : GoodIn wsL_law (va_wsS RL 128 yL_top wsL_top) := goodIn_app (goodIn_of _ (by decide +kernel)) ggL_law_L_top
set_option maxRecDepth 20000 in
theorem ggL_law_X10_top : GoodIn wsL_law wsX10_top := goodIn_r _ [634, 103, 104, 5, 105, 106, 107, 108, 109, 110, 111, 112, 113, 635, 636, 637, 638, 247, 65, 64, 252, 253, 254, 255, 62, 63, 656, 657, 658, 659, 660, 661, 662, 663, 664, 665, 666, 667, 668, 669] (by decide +kernel) (by decide +kernel)
set_option maxRecDepth 20000 in
theorem gL_law_X10_top : GoodIn wsL_law (wsV RL 130 RX10 yX10_top wsX10_top) := goodIn_app (goodIn_of _ (by decide +kernel)) ggL_law_X10_top
set_option maxRecDepth 20000 in
theorem ggL_law_L_topAnew : GoodIn wsL_law wsL_topAnew := goodIn_ca (goodIn_r _ [641, 74, 642, 643, 644, 2, 645, 22, 145, 81, 82, 83, 84, 85, 133, 134, 135, 21, 136, 137, 166, 167, 168, 169, 170, 171, 172, 173, 174, 175, 176, 177, 178, 179, 180, 181, 39, 627, 628, 629, 144, 630, 153, 186, 187, 188, 189, 150, 151, 608, 609, 610, 611, 612, 23, 613, 614, 615, 160, 161, 162, 182, 183, 184, 185, 154, 152, 354, 355, 356, 357, 320, 358, 342, 359, 360, 343, 361, 362, 363, 323, 364, 335, 337, 336, 338, 365, 366, 367, 368, 369, 370, 371, 372, 373, 92, 93, 16, 94, 34, 650, 651, 652, 653, 654, 655, 671, 672, 673, 675, 676, 677, 678, 679, 680, 681, 682, 683, 688, 689, 690, 684, 685, 686, 687, 670] (by decide +kernel) (by decide +kernel)) (goodIn_sub (fun _ h => List.mem_append_left _ (List.mem_append_left _ (List.mem_append_right _ h))) (by decide +kernel))
set_option maxRecDepth 20000 in
theorem gL_law_L_topAnew : GoodIn wsL_law (va_wsS RL 131 yL_topAnew wsL_topAnew) := goodIn_app (goodIn_of _ (by decide +kernel)) ggL_law_L_topAnew
set_option maxRecDepth 20000 in
theorem ggL_law_X10_topAnew : GoodIn wsL_law wsX10_topAnew := goodIn_r _ [649, 103, 104, 5, 105, 106, 107, 108, 109, 110, 111, 112, 113, 635, 636, 637, 638, 247, 65, 64, 252, 253, 254, 255, 62, 63, 656, 657, 658, 659, 660, 661, 662, 663, 664, 665, 666, 667, 668, 669] (by decide +kernel) (by decide +kernel)
set_option maxRecDepth 20000 in
theorem gL_law_X10_topAnew : GoodIn wsL_law (wsV RL 133 RX10 yX10_topAnew wsX10_topAnew) := goodIn_app (goodIn_of _ (by decide +kernel)) ggL_law_X10_topAnew
theorem dL_law_0 : decode cL_law 0 = .ok (.new 8, 3) := by decide +kernel
theorem dL_law_3 : decode cL_law 3 = .ok (.dup, 1) := by decide +kernel
theorem dL_law_4 : decode cL_law 4 = .ok (.invokespecial 67, 3) := by decide +kernel
theorem dL_law_7 : decode cL_law 7 = .ok (.astore_n 1, 1) := by decide +kernel
theorem dL_law_8 : decode cL_law 8 = .ok (.new 68, 3) := by decide +kernel
theorem dL_law_11 : decode cL_law 11 = .ok (.dup, 1) := by decide +kernel
theorem dL_law_12 : decode cL_law 12 = .ok (.invokespecial 70, 3) := by decide +kernel
theorem dL_law_15 : decode cL_law 15 = .ok (.astore_n 2, 1) := by decide +kernel
theorem dL_law_16 : decode cL_law 16 = .ok (.iconst 1, 1) := by decide +kernel
theorem dL_law_17 : decode cL_law 17 = .ok (.newarray .long, 2) := by decide +kernel
theorem dL_law_19 : decode cL_law 19 = .ok (.astore_n 3, 1) := by decide +kernel
theorem dL_law_20 : decode cL_law 20 = .ok (.iconst 0, 1) := by decide +kernel
theorem dL_law_21 : decode cL_law 21 = .ok (.istore 4, 2) := by decide +kernel
theorem dL_law_23 : decode cL_law 23 = .ok (.iload 4, 2) := by decide +kernel
theorem dL_law_25 : decode cL_law 25 = .ok (.aload_n 0, 1) := by decide +kernel
theorem dL_law_26 : decode cL_law 26 = .ok (.arraylength, 1) := by decide +kernel
theorem dL_law_27 : decode cL_law 27 = .ok (.bipush 7, 2) := by decide +kernel
theorem dL_law_29 : decode cL_law 29 = .ok (.isub, 1) := by decide +kernel
theorem dL_law_30 : decode cL_law 30 = .ok (.if_icmp .gt 1314, 3) := by decide +kernel
theorem dL_law_33 : decode cL_law 33 = .ok (.aload_n 0, 1) := by decide +kernel
theorem dL_law_34 : decode cL_law 34 = .ok (.iload 4, 2) := by decide +kernel
theorem dL_law_36 : decode cL_law 36 = .ok (.iaload, 1) := by decide +kernel
theorem dL_law_37 : decode cL_law 37 = .ok (.bipush 15, 2) := by decide +kernel
theorem dL_law_39 : decode cL_law 39 = .ok (.iand, 1) := by decide +kernel
theorem dL_law_40 : decode cL_law 40 = .ok (.tableswitch 1298 0 15 #[80, 160, 240, 296, 352, 456, 512, 568, 700, 818, 921, 1025, 1038, 1106, 1162, 1230], 80) := by decide +kernel
theorem dL_law_120 : decode cL_law 120 = .ok (.aload_n 1, 1) := by decide +kernel
theorem dL_law_121 : decode cL_law 121 = .ok (.aload_n 0, 1) := by decide +kernel
theorem dL_law_122 : decode cL_law 122 = .ok (.iload 4, 2) := by decide +kernel
theorem dL_law_124 : decode cL_law 124 = .ok (.iconst 1, 1) := by decide +kernel
theorem dL_law_125 : decode cL_law 125 = .ok (.iadd, 1) := by decide +kernel
theorem dL_law_126 : decode cL_law 126 = .ok (.iaload, 1) := by decide +kernel
theorem dL_law_127 : decode cL_law 127 = .ok (.aload_n 0, 1) := by decide +kernel
theorem dL_law_128 : decode cL_law 128 = .ok (.iload 4, 2) := by decide +kernel
theorem dL_law_130 : decode cL_law 130 = .ok (.iconst 2, 1) := by decide +kernel
theorem dL_law_131 : decode cL_law 131 = .ok (.iadd, 1) := by decide +kernel
theorem dL_law_132 : decode cL_law 132 = .ok (.iaload, 1) := by decide +kernel
theorem dL_law_133 : decode cL_law 133 = .ok (.aload_n 0, 1) := by decide +kernel
theorem dL_law_134 : decode cL_law 134 = .ok (.iload 4, 2) := by decide +kernel
theorem dL_law_136 : decode cL_law 136 = .ok (.iconst 3, 1) := by decide +kernel
theorem dL_law_137 : decode cL_law 137 = .ok (.iadd, 1) := by decide +kernel
theorem dL_law_138 : decode cL_law 138 = .ok (.iaload, 1) := by decide +kernel
theorem dL_law_139 : decode cL_law 139 = .ok (.aload_n 3, 1) := by decide +kernel
theorem dL_law_140 : decode cL_law 140 = .ok (.invokestatic 71, 3) := by decide +kernel
theorem dL_law_143 : decode cL_law 143 = .ok (.istore 5, 2) := by decide +kernel
theorem dL_law_145 : decode cL_law 145 = .ok (.aload_n 2, 1) := by decide +kernel
theorem dL_law_146 : decode cL_law 146 = .ok (.aload_n 0, 1) := by decide +kernel
theorem dL_law_147 : decode cL_law 147 = .ok (.iload 4, 2) := by decide +kernel
theorem dL_law_149 : decode cL_law 149 = .ok (.iconst 1, 1) := by decide +kernel
theorem dL_law_150 : decode cL_law 150 = .ok (.iadd, 1) := by decide +kernel
theorem dL_law_151 : decode cL_law 151 = .ok (.iaload, 1) := by decide +kernel
theorem dL_law_152 : decode cL_law 152 = .ok (.aload_n 0, 1) := by decide +kernel
theorem dL_law_153 : decode cL_law 153 = .ok (.iload 4, 2) := by decide +kernel
theorem dL_law_155 : decode cL_law 155 = .ok (.iconst 2, 1) := by decide +kernel
theorem dL_law_156 : decode cL_law 156 = .ok (.iadd, 1) := by decide +kernel
theorem dL_law_157 : decode cL_law 157 = .ok (.iaload, 1) := by decide +kernel
theorem dL_law_158 : decode cL_law 158 = .ok (.aload_n 0, 1) := by decide +kernel
theorem dL_law_159 : decode cL_law 159 = .ok (.iload 4, 2) := by decide +kernel
theorem dL_law_161 : decode cL_law 161 = .ok (.iconst 3, 1) := by decide +kernel
theorem dL_law_162 : decode cL_law 162 = .ok (.iadd, 1) := by decide +kernel
theorem dL_law_163 : decode cL_law 163 = .ok (.iaload, 1) := by decide +kernel
theorem dL_law_164 : decode cL_law 164 = .ok (.invokevirtual 76, 3) := by decide +kernel
theorem dL_law_167 : decode cL_law 167 = .ok (.istore 6, 2) := by decide +kernel
theorem dL_law_169 : decode cL_law 169 = .ok (.aload_n 2, 1) := by decide +kernel
theorem dL_law_170 : decode cL_law 170 = .ok (.invokevirtual 77, 3) := by decide +kernel
theorem dL_law_173 : decode cL_law 173 = .ok (.iload 5, 2) := by decide +kernel
theorem dL_law_175 : decode cL_law 175 = .ok (.if_icmp .eq 5, 3) := by decide +kernel
theorem dL_law_178 : decode cL_law 178 = .ok (.iconst 0, 1) := by decide +kernel
theorem dL_law_179 : decode cL_law 179 = .ok (.ireturn, 1) := by decide +kernel
theorem dL_law_180 : decode cL_law 180 = .ok (.iload 5, 2) := by decide +kernel
theorem dL_law_182 : decode cL_law 182 = .ok (.ifCond .ne 15, 3) := by decide +kernel
theorem dL_law_185 : decode cL_law 185 = .ok (.aload_n 3, 1) := by decide +kernel
theorem dL_law_186 : decode cL_law 186 = .ok (.iconst 0, 1) := by decide +kernel
theorem dL_law_187 : decode cL_law 187 = .ok (.laload, 1) := by decide +kernel
theorem dL_law_188 : decode cL_law 188 = .ok (.iload 6, 2) := by decide +kernel
theorem dL_law_190 : decode cL_law 190 = .ok (.i2l, 1) := by decide +kernel
theorem dL_law_191 : decode cL_law 191 = .ok (.lcmp, 1) := by decide +kernel
theorem dL_law_192 : decode cL_law 192 = .ok (.ifCond .eq 5, 3) := by decide +kernel
theorem dL_law_195 : decode cL_law 195 = .ok (.iconst 0, 1) := by decide +kernel
theorem dL_law_196 : decode cL_law 196 = .ok (.ireturn, 1) := by decide +kernel
theorem dL_law_197 : decode cL_law 197 = .ok (.goto 1141, 3) := by decide +kernel
theorem dL_law_200 : decode cL_law 200 = .ok (.aload_n 1, 1) := by decide +kernel
theorem dL_law_201 : decode cL_law 201 = .ok (.aload_n 0, 1) := by decide +kernel
theorem dL_law_202 : decode cL_law 202 = .ok (.iload 4, 2) := by decide +kernel
theorem dL_law_204 : decode cL_law 204 = .ok (.iconst 1, 1) := by decide +kernel
theorem dL_law_205 : decode cL_law 205 = .ok (.iadd, 1) := by decide +kernel
theorem dL_law_206 : decode cL_law 206 = .ok (.iaload, 1) := by decide +kernel
theorem dL_law_207 : decode cL_law 207 = .ok (.aload_n 0, 1) := by decide +kernel
theorem dL_law_208 : decode cL_law 208 = .ok (.iload 4, 2) := by decide +kernel
theorem dL_law_210 : decode cL_law 210 = .ok (.iconst 2, 1) := by decide +kernel
theorem dL_law_211 : decode cL_law 211 = .ok (.iadd, 1) := by decide +kernel
theorem dL_law_212 : decode cL_law 212 = .ok (.iaload, 1) := by decide +kernel
theorem dL_law_213 : decode cL_law 213 = .ok (.aload_n 0, 1) := by decide +kernel
theorem dL_law_214 : decode cL_law 214 = .ok (.iload 4, 2) := by decide +kernel
theorem dL_law_216 : decode cL_law 216 = .ok (.iconst 3, 1) := by decide +kernel
theorem dL_law_217 : decode cL_law 217 = .ok (.iadd, 1) := by decide +kernel
theorem dL_law_218 : decode cL_law 218 = .ok (.iaload, 1) := by decide +kernel
theorem dL_law_219 : decode cL_law 219 = .ok (.aload_n 3, 1) := by decide +kernel
theorem dL_law_220 : decode cL_law 220 = .ok (.invokestatic 81, 3) := by decide +kernel
theorem dL_law_223 : decode cL_law 223 = .ok (.istore 5, 2) := by decide +kernel
theorem dL_law_225 : decode cL_law 225 = .ok (.aload_n 2, 1) := by decide +kernel
theorem dL_law_226 : decode cL_law 226 = .ok (.aload_n 0, 1) := by decide +kernel
theorem dL_law_227 : decode cL_law 227 = .ok (.iload 4, 2) := by decide +kernel
theorem dL_law_229 : decode cL_law 229 = .ok (.iconst 1, 1) := by decide +kernel
theorem dL_law_230 : decode cL_law 230 = .ok (.iadd, 1) := by decide +kernel
theorem dL_law_231 : decode cL_law 231 = .ok (.iaload, 1) := by decide +kernel
theorem dL_law_232 : decode cL_law 232 = .ok (.aload_n 0, 1) := by decide +kernel
theorem dL_law_233 : decode cL_law 233 = .ok (.iload 4, 2) := by decide +kernel
theorem dL_law_235 : decode cL_law 235 = .ok (.iconst 2, 1) := by decide +kernel
theorem dL_law_236 : decode cL_law 236 = .ok (.iadd, 1) := by decide +kernel
theorem dL_law_237 : decode cL_law 237 = .ok (.iaload, 1) := by decide +kernel
theorem dL_law_238 : decode cL_law 238 = .ok (.aload_n 0, 1) := by decide +kernel
theorem dL_law_239 : decode cL_law 239 = .ok (.iload 4, 2) := by decide +kernel
theorem dL_law_241 : decode cL_law 241 = .ok (.iconst 3, 1) := by decide +kernel
theorem dL_law_242 : decode cL_law 242 = .ok (.iadd, 1) := by decide +kernel
theorem dL_law_243 : decode cL_law 243 = .ok (.iaload, 1) := by decide +kernel
theorem dL_law_244 : decode cL_law 244 = .ok (.invokevirtual 83, 3) := by decide +kernel
theorem dL_law_247 : decode cL_law 247 = .ok (.istore 6, 2) := by decide +kernel
theorem dL_law_249 : decode cL_law 249 = .ok (.aload_n 2, 1) := by decide +kernel
theorem dL_law_250 : decode cL_law 250 = .ok (.invokevirtual 77, 3) := by decide +kernel
theorem dL_law_253 : decode cL_law 253 = .ok (.iload 5, 2) := by decide +kernel
theorem dL_law_255 : decode cL_law 255 = .ok (.if_icmp .eq 5, 3) := by decide +kernel
theorem dL_law_258 : decode cL_law 258 = .ok (.iconst 0, 1) := by decide +kernel
theorem dL_law_259 : decode cL_law 259 = .ok (.ireturn, 1) := by decide +kernel
theorem dL_law_260 : decode cL_law 260 = .ok (.iload 5, 2) := by decide +kernel
theorem dL_law_262 : decode cL_law 262 = .ok (.ifCond .ne 15, 3) := by decide +kernel
theorem dL_law_265 : decode cL_law 265 = .ok (.aload_n 3, 1) := by decide +kernel
theorem dL_law_266 : decode cL_law 266 = .ok (.iconst 0, 1) := by decide +kernel
theorem dL_law_267 : decode cL_law 267 = .ok (.laload, 1) := by decide +kernel
theorem dL_law_268 : decode cL_law 268 = .ok (.iload 6, 2) := by decide +kernel
theorem dL_law_270 : decode cL_law 270 = .ok (.i2l, 1) := by decide +kernel
theorem dL_law_271 : decode cL_law 271 = .ok (.lcmp, 1) := by decide +kernel
theorem dL_law_272 : decode cL_law 272 = .ok (.ifCond .eq 5, 3) := by decide +kernel
theorem dL_law_275 : decode cL_law 275 = .ok (.iconst 0, 1) := by decide +kernel
theorem dL_law_276 : decode cL_law 276 = .ok (.ireturn, 1) := by decide +kernel
theorem dL_law_277 : decode cL_law 277 = .ok (.goto 1061, 3) := by decide +kernel
theorem dL_law_280 : decode cL_law 280 = .ok (.aload_n 1, 1) := by decide +kernel
theorem dL_law_281 : decode cL_law 281 = .ok (.aload_n 0, 1) := by decide +kernel
theorem dL_law_282 : decode cL_law 282 = .ok (.iload 4, 2) := by decide +kernel
theorem dL_law_284 : decode cL_law 284 = .ok (.iconst 1, 1) := by decide +kernel
theorem dL_law_285 : decode cL_law 285 = .ok (.iadd, 1) := by decide +kernel
theorem dL_law_286 : decode cL_law 286 = .ok (.iaload, 1) := by decide +kernel
theorem dL_law_287 : decode cL_law 287 = .ok (.aload_n 3, 1) := by decide +kernel
theorem dL_law_288 : decode cL_law 288 = .ok (.invokestatic 84, 3) := by decide +kernel
theorem dL_law_291 : decode cL_law 291 = .ok (.istore 5, 2) := by decide +kernel
theorem dL_law_293 : decode cL_law 293 = .ok (.aload_n 2, 1) := by decide +kernel
theorem dL_law_294 : decode cL_law 294 = .ok (.aload_n 0, 1) := by decide +kernel
theorem dL_law_295 : decode cL_law 295 = .ok (.iload 4, 2) := by decide +kernel
theorem dL_law_297 : decode cL_law 297 = .ok (.iconst 1, 1) := by decide +kernel
theorem dL_law_298 : decode cL_law 298 = .ok (.iadd, 1) := by decide +kernel
theorem dL_law_299 : decode cL_law 299 = .ok (.iaload, 1) := by decide +kernel
theorem dL_law_300 : decode cL_law 300 = .ok (.invokevirtual 87, 3) := by decide +kernel
theorem dL_law_303 : decode cL_law 303 = .ok (.istore 6, 2) := by decide +kernel
theorem dL_law_305 : decode cL_law 305 = .ok (.aload_n 2, 1) := by decide +kernel
theorem dL_law_306 : decode cL_law 306 = .ok (.invokevirtual 77, 3) := by decide +kernel
theorem dL_law_309 : decode cL_law 309 = .ok (.iload 5, 2) := by decide +kernel
theorem dL_law_311 : decode cL_law 311 = .ok (.if_icmp .eq 5, 3) := by decide +kernel
theorem dL_law_314 : decode cL_law 314 = .ok (.iconst 0, 1) := by decide +kernel
theorem dL_law_315 : decode cL_law 315 = .ok (.ireturn, 1) := by decide +kernel
theorem dL_law_316 : decode cL_law 316 = .ok (.iload 5, 2) := by decide +kernel
theorem dL_law_318 : decode cL_law 318 = .ok (.ifCond .ne 15, 3) := by decide +kernel
theorem dL_law_321 : decode cL_law 321 = .ok (.aload_n 3, 1) := by decide +kernel
theorem dL_law_322 : decode cL_law 322 = .ok (.iconst 0, 1) := by decide +kernel
theorem dL_law_323 : decode cL_law 323 = .ok (.laload, 1) := by decide +kernel
theorem dL_law_324 : decode cL_law 324 = .ok (.iload 6, 2) := by decide +kernel
theorem dL_law_326 : decode cL_law 326 = .ok (.i2l, 1) := by decide +kernel
theorem dL_law_327 : decode cL_law 327 = .ok (.lcmp, 1) := by decide +kernel
theorem dL_law_328 : decode cL_law 328 = .ok (.ifCond .eq 5, 3) := by decide +kernel
theorem dL_law_331 : decode cL_law 331 = .ok (.iconst 0, 1) := by decide +kernel
theorem dL_law_332 : decode cL_law 332 = .ok (.ireturn, 1) := by decide +kernel
theorem dL_law_333 : decode cL_law 333 = .ok (.goto 1005, 3) := by decide +kernel
theorem dL_law_336 : decode cL_law 336 = .ok (.aload_n 1, 1) := by decide +kernel
theorem dL_law_337 : decode cL_law 337 = .ok (.aload_n 0, 1) := by decide +kernel
theorem dL_law_338 : decode cL_law 338 = .ok (.iload 4, 2) := by decide +kernel
theorem dL_law_340 : decode cL_law 340 = .ok (.iconst 1, 1) := by decide +kernel
theorem dL_law_341 : decode cL_law 341 = .ok (.iadd, 1) := by decide +kernel
theorem dL_law_342 : decode cL_law 342 = .ok (.iaload, 1) := by decide +kernel
theorem dL_law_343 : decode cL_law 343 = .ok (.aload_n 3, 1) := by decide +kernel
theorem dL_law_344 : decode cL_law 344 = .ok (.invokestatic 88, 3) := by decide +kernel
theorem dL_law_347 : decode cL_law 347 = .ok (.istore 5, 2) := by decide +kernel
theorem dL_law_349 : decode cL_law 349 = .ok (.aload_n 2, 1) := by decide +kernel
theorem dL_law_350 : decode cL_law 350 = .ok (.aload_n 0, 1) := by decide +kernel
theorem dL_law_351 : decode cL_law 351 = .ok (.iload 4, 2) := by decide +kernel
theorem dL_law_353 : decode cL_law 353 = .ok (.iconst 1, 1) := by decide +kernel
theorem dL_law_354 : decode cL_law 354 = .ok (.iadd, 1) := by decide +kernel
theorem dL_law_355 : decode cL_law 355 = .ok (.iaload, 1) := by decide +kernel
theorem dL_law_356 : decode cL_law 356 = .ok (.invokevirtual 90, 3) := by decide +kernel
theorem dL_law_359 : decode cL_law 359 = .ok (.istore 6, 2) := by decide +kernel
theorem dL_law_361 : decode cL_law 361 = .ok (.aload_n 2, 1) := by decide +kernel
theorem dL_law_362 : decode cL_law 362 = .ok (.invokevirtual 77, 3) := by decide +kernel
theorem dL_law_365 : decode cL_law 365 = .ok (.iload 5, 2) := by decide +kernel
theorem dL_law_367 : decode cL_law 367 = .ok (.if_icmp .eq 5, 3) := by decide +kernel
theorem dL_law_370 : decode cL_law 370 = .ok (.iconst 0, 1) := by decide +kernel
theorem dL_law_371 : decode cL_law 371 = .ok (.ireturn, 1) := by decide +kernel
theorem dL_law_372 : decode cL_law 372 = .ok (.iload 5, 2) := by decide +kernel
theorem dL_law_374 : decode cL_law 374 = .ok (.ifCond .ne 15, 3) := by decide +kernel
theorem dL_law_377 : decode cL_law 377 = .ok (.aload_n 3, 1) := by decide +kernel
theorem dL_law_378 : decode cL_law 378 = .ok (.iconst 0, 1) := by decide +kernel
theorem dL_law_379 : decode cL_law 379 = .ok (.laload, 1) := by decide +kernel
theorem dL_law_380 : decode cL_law 380 = .ok (.iload 6, 2) := by decide +kernel
theorem dL_law_382 : decode cL_law 382 = .ok (.i2l, 1) := by decide +kernel
theorem dL_law_383 : decode cL_law 383 = .ok (.lcmp, 1) := by decide +kernel
theorem dL_law_384 : decode cL_law 384 = .ok (.ifCond .eq 5, 3) := by decide +kernel
theorem dL_law_387 : decode cL_law 387 = .ok (.iconst 0, 1) := by decide +kernel
theorem dL_law_388 : decode cL_law 388 = .ok (.ireturn, 1) := by decide +kernel
theorem dL_law_389 : decode cL_law 389 = .ok (.goto 949, 3) := by decide +kernel
theorem dL_law_392 : decode cL_law 392 = .ok (.aload_n 1, 1) := by decide +kernel
theorem dL_law_393 : decode cL_law 393 = .ok (.aload_n 0, 1) := by decide +kernel
theorem dL_law_394 : decode cL_law 394 = .ok (.iload 4, 2) := by decide +kernel
theorem dL_law_396 : decode cL_law 396 = .ok (.iconst 1, 1) := by decide +kernel
theorem dL_law_397 : decode cL_law 397 = .ok (.iadd, 1) := by decide +kernel
theorem dL_law_398 : decode cL_law 398 = .ok (.iaload, 1) := by decide +kernel
theorem dL_law_399 : decode cL_law 399 = .ok (.aload_n 0, 1) := by decide +kernel
theorem dL_law_400 : decode cL_law 400 = .ok (.iload 4, 2) := by decide +kernel
theorem dL_law_402 : decode cL_law 402 = .ok (.iconst 2, 1) := by decide +kernel
theorem dL_law_403 : decode cL_law 403 = .ok (.iadd, 1) := by decide +kernel
theorem dL_law_404 : decode cL_law 404 = .ok (.iaload, 1) := by decide +kernel
theorem dL_law_405 : decode cL_law 405 = .ok (.aload_n 0, 1) := by decide +kernel
theorem dL_law_406 : decode cL_law 406 = .ok (.iload 4, 2) := by decide +kernel
theorem dL_law_408 : decode cL_law 408 = .ok (.iconst 3, 1) := by decide +kernel
theorem dL_law_409 : decode cL_law 409 = .ok (.iadd, 1) := by decide +kernel
theorem dL_law_410 : decode cL_law 410 = .ok (.iaload, 1) := by decide +kernel
theorem dL_law_411 : decode cL_law 411 = .ok (.aload_n 0, 1) := by decide +kernel
theorem dL_law_412 : decode cL_law 412 = .ok (.iload 4, 2) := by decide +kernel
theorem dL_law_414 : decode cL_law 414 = .ok (.iconst 4, 1) := by decide +kernel
theorem dL_law_415 : decode cL_law 415 = .ok (.iadd, 1) := by decide +kernel
theorem dL_law_416 : decode cL_law 416 = .ok (.iaload, 1) := by decide +kernel
theorem dL_law_417 : decode cL_law 417 = .ok (.aload_n 0, 1) := by decide +kernel
theorem dL_law_418 : decode cL_law 418 = .ok (.iload 4, 2) := by decide +kernel
theorem dL_law_420 : decode cL_law 420 = .ok (.iconst 5, 1) := by decide +kernel
theorem dL_law_421 : decode cL_law 421 = .ok (.iadd, 1) := by decide +kernel
theorem dL_law_422 : decode cL_law 422 = .ok (.iaload, 1) := by decide +kernel
theorem dL_law_423 : decode cL_law 423 = .ok (.aload_n 3, 1) := by decide +kernel
theorem dL_law_424 : decode cL_law 424 = .ok (.invokestatic 91, 3) := by decide +kernel
theorem dL_law_427 : decode cL_law 427 = .ok (.istore 5, 2) := by decide +kernel
theorem dL_law_429 : decode cL_law 429 = .ok (.aload_n 2, 1) := by decide +kernel
theorem dL_law_430 : decode cL_law 430 = .ok (.aload_n 0, 1) := by decide +kernel
theorem dL_law_431 : decode cL_law 431 = .ok (.iload 4, 2) := by decide +kernel
theorem dL_law_433 : decode cL_law 433 = .ok (.iconst 1, 1) := by decide +kernel
theorem dL_law_434 : decode cL_law 434 = .ok (.iadd, 1) := by decide +kernel
theorem dL_law_435 : decode cL_law 435 = .ok (.iaload, 1) := by decide +kernel
theorem dL_law_436 : decode cL_law 436 = .ok (.aload_n 0, 1) := by decide +kernel
theorem dL_law_437 : decode cL_law 437 = .ok (.iload 4, 2) := by decide +kernel
theorem dL_law_439 : decode cL_law 439 = .ok (.iconst 2, 1) := by decide +kernel
theorem dL_law_440 : decode cL_law 440 = .ok (.iadd, 1) := by decide +kernel
theorem dL_law_441 : decode cL_law 441 = .ok (.iaload, 1) := by decide +kernel
theorem dL_law_442 : decode cL_law 442 = .ok (.aload_n 0, 1) := by decide +kernel
theorem dL_law_443 : decode cL_law 443 = .ok (.iload 4, 2) := by decide +kernel
theorem dL_law_445 : decode cL_law 445 = .ok (.iconst 3, 1) := by decide +kernel
theorem dL_law_446 : decode cL_law 446 = .ok (.iadd, 1) := by decide +kernel
theorem dL_law_447 : decode cL_law 447 = .ok (.iaload, 1) := by decide +kernel
theorem dL_law_448 : decode cL_law 448 = .ok (.aload_n 0, 1) := by decide +kernel
theorem dL_law_449 : decode cL_law 449 = .ok (.iload 4, 2) := by decide +kernel
theorem dL_law_451 : decode cL_law 451 = .ok (.iconst 4, 1) := by decide +kernel
theorem dL_law_452 : decode cL_law 452 = .ok (.iadd, 1) := by decide +kernel
theorem dL_law_453 : decode cL_law 453 = .ok (.iaload, 1) := by decide +kernel
theorem dL_law_454 : decode cL_law 454 = .ok (.aload_n 0, 1) := by decide +kernel
theorem dL_law_455 : decode cL_law 455 = .ok (.iload 4, 2) := by decide +kernel
theorem dL_law_457 : decode cL_law 457 = .ok (.iconst 5, 1) := by decide +kernel
theorem dL_law_458 : decode cL_law 458 = .ok (.iadd, 1) := by decide +kernel
theorem dL_law_459 : decode cL_law 459 = .ok (.iaload, 1) := by decide +kernel
theorem dL_law_460 : decode cL_law 460 = .ok (.invokevirtual 94, 3) := by decide +kernel
theorem dL_law_463 : decode cL_law 463 = .ok (.istore 6, 2) := by decide +kernel
theorem dL_law_465 : decode cL_law 465 = .ok (.aload_n 2, 1) := by decide +kernel
theorem dL_law_466 : decode cL_law 466 = .ok (.invokevirtual 77, 3) := by decide +kernel
theorem dL_law_469 : decode cL_law 469 = .ok (.iload 5, 2) := by decide +kernel
theorem dL_law_471 : decode cL_law 471 = .ok (.if_icmp .eq 5, 3) := by decide +kernel
theorem dL_law_474 : decode cL_law 474 = .ok (.iconst 0, 1) := by decide +kernel
theorem dL_law_475 : decode cL_law 475 = .ok (.ireturn, 1) := by decide +kernel
theorem dL_law_476 : decode cL_law 476 = .ok (.iload 5, 2) := by decide +kernel
theorem dL_law_478 : decode cL_law 478 = .ok (.ifCond .ne 15, 3) := by decide +kernel
theorem dL_law_481 : decode cL_law 481 = .ok (.aload_n 3, 1) := by decide +kernel
theorem dL_law_482 : decode cL_law 482 = .ok (.iconst 0, 1) := by decide +kernel
theorem dL_law_483 : decode cL_law 483 = .ok (.laload, 1) := by decide +kernel
theorem dL_law_484 : decode cL_law 484 = .ok (.iload 6, 2) := by decide +kernel
theorem dL_law_486 : decode cL_law 486 = .ok (.i2l, 1) := by decide +kernel
theorem dL_law_487 : decode cL_law 487 = .ok (.lcmp, 1) := by decide +kernel
theorem dL_law_488 : decode cL_law 488 = .ok (.ifCond .eq 5, 3) := by decide +kernel
theorem dL_law_491 : decode cL_law 491 = .ok (.iconst 0, 1) := by decide +kernel
theorem dL_law_492 : decode cL_law 492 = .ok (.ireturn, 1) := by decide +kernel
theorem dL_law_493 : decode cL_law 493 = .ok (.goto 845, 3) := by decide +kernel
theorem dL_law_496 : decode cL_law 496 = .ok (.aload_n 1, 1) := by decide +kernel
theorem dL_law_497 : decode cL_law 497 = .ok (.aload_n 0, 1) := by decide +kernel
theorem dL_law_498 : decode cL_law 498 = .ok (.iload 4, 2) := by decide +kernel
theorem dL_law_500 : decode cL_law 500 = .ok (.iconst 1, 1) := by decide +kernel
theorem dL_law_501 : decode cL_law 501 = .ok (.iadd, 1) := by decide +kernel
theorem dL_law_502 : decode cL_law 502 = .ok (.iaload, 1) := by decide +kernel
theorem dL_law_503 : decode cL_law 503 = .ok (.aload_n 3, 1) := by decide +kernel
theorem dL_law_504 : decode cL_law 504 = .ok (.invokestatic 95, 3) := by decide +kernel
theorem dL_law_507 : decode cL_law 507 = .ok (.istore 5, 2) := by decide +kernel
theorem dL_law_509 : decode cL_law 509 = .ok (.aload_n 2, 1) := by decide +kernel
theorem dL_law_510 : decode cL_law 510 = .ok (.aload_n 0, 1) := by decide +kernel
theorem dL_law_511 : decode cL_law 511 = .ok (.iload 4, 2) := by decide +kernel
theorem dL_law_513 : decode cL_law 513 = .ok (.iconst 1, 1) := by decide +kernel
theorem dL_law_514 : decode cL_law 514 = .ok (.iadd, 1) := by decide +kernel
theorem dL_law_515 : decode cL_law 515 = .ok (.iaload, 1) := by decide +kernel
theorem dL_law_516 : decode cL_law 516 = .ok (.invokevirtual 97, 3) := by decide +kernel
theorem dL_law_519 : decode cL_law 519 = .ok (.istore 6, 2) := by decide +kernel
theorem dL_law_521 : decode cL_law 521 = .ok (.aload_n 2, 1) := by decide +kernel
theorem dL_law_522 : decode cL_law 522 = .ok (.invokevirtual 77, 3) := by decide +kernel
theorem dL_law_525 : decode cL_law 525 = .ok (.iload 5, 2) := by decide +kernel
theorem dL_law_527 : decode cL_law 527 = .ok (.if_icmp .eq 5, 3) := by decide +kernel
theorem dL_law_530 : decode cL_law 530 = .ok (.iconst 0, 1) := by decide +kernel
theorem dL_law_531 : decode cL_law 531 = .ok (.ireturn, 1) := by decide +kernel
theorem dL_law_532 : decode cL_law 532 = .ok (.iload 5, 2) := by decide +kernel
theorem dL_law_534 : decode cL_law 534 = .ok (.ifCond .ne 15, 3) := by decide +kernel
theorem dL_law_537 : decode cL_law 537 = .ok (.aload_n 3, 1) := by decide +kernel
theorem dL_law_538 : decode cL_law 538 = .ok (.iconst 0, 1) := by decide +kernel
theorem dL_law_539 : decode cL_law 539 = .ok (.laload, 1) := by decide +kernel
theorem dL_law_540 : decode cL_law 540 = .ok (.iload 6, 2) := by decide +kernel
theorem dL_law_542 : decode cL_law 542 = .ok (.i2l, 1) := by decide +kernel
theorem dL_law_543 : decode cL_law 543 = .ok (.lcmp, 1) := by decide +kernel
theorem dL_law_544 : decode cL_law 544 = .ok (.ifCond .eq 5, 3) := by decide +kernel
theorem dL_law_547 : decode cL_law 547 = .ok (.iconst 0, 1) := by decide +kernel
theorem dL_law_548 : decode cL_law 548 = .ok (.ireturn, 1) := by decide +kernel
theorem dL_law_549 : decode cL_law 549 = .ok (.goto 789, 3) := by decide +kernel
theorem dL_law_552 : decode cL_law 552 = .ok (.aload_n 1, 1) := by decide +kernel
theorem dL_law_553 : decode cL_law 553 = .ok (.aload_n 0, 1) := by decide +kernel
theorem dL_law_554 : decode cL_law 554 = .ok (.iload 4, 2) := by decide +kernel
theorem dL_law_556 : decode cL_law 556 = .ok (.iconst 1, 1) := by decide +kernel
theorem dL_law_557 : decode cL_law 557 = .ok (.iadd, 1) := by decide +kernel
theorem dL_law_558 : decode cL_law 558 = .ok (.iaload, 1) := by decide +kernel
theorem dL_law_559 : decode cL_law 559 = .ok (.aload_n 3, 1) := by decide +kernel
theorem dL_law_560 : decode cL_law 560 = .ok (.invokestatic 98, 3) := by decide +kernel
theorem dL_law_563 : decode cL_law 563 = .ok (.istore 5, 2) := by decide +kernel
theorem dL_law_565 : decode cL_law 565 = .ok (.aload_n 2, 1) := by decide +kernel
theorem dL_law_566 : decode cL_law 566 = .ok (.aload_n 0, 1) := by decide +kernel
theorem dL_law_567 : decode cL_law 567 = .ok (.iload 4, 2) := by decide +kernel
theorem dL_law_569 : decode cL_law 569 = .ok (.iconst 1, 1) := by decide +kernel
theorem dL_law_570 : decode cL_law 570 = .ok (.iadd, 1) := by decide +kernel
theorem dL_law_571 : decode cL_law 571 = .ok (.iaload, 1) := by decide +kernel
theorem dL_law_572 : decode cL_law 572 = .ok (.invokevirtual 100, 3) := by decide +kernel
theorem dL_law_575 : decode cL_law 575 = .ok (.istore 6, 2) := by decide +kernel
theorem dL_law_577 : decode cL_law 577 = .ok (.aload_n 2, 1) := by decide +kernel
theorem dL_law_578 : decode cL_law 578 = .ok (.invokevirtual 77, 3) := by decide +kernel
theorem dL_law_581 : decode cL_law 581 = .ok (.iload 5, 2) := by decide +kernel
theorem dL_law_583 : decode cL_law 583 = .ok (.if_icmp .eq 5, 3) := by decide +kernel
theorem dL_law_586 : decode cL_law 586 = .ok (.iconst 0, 1) := by decide +kernel
theorem dL_law_587 : decode cL_law 587 = .ok (.ireturn, 1) := by decide +kernel
theorem dL_law_588 : decode cL_law 588 = .ok (.iload 5, 2) := by decide +kernel
theorem dL_law_590 : decode cL_law 590 = .ok (.ifCond .ne 15, 3) := by decide +kernel
theorem dL_law_593 : decode cL_law 593 = .ok (.aload_n 3, 1) := by decide +kernel
theorem dL_law_594 : decode cL_law 594 = .ok (.iconst 0, 1) := by decide +kernel
theorem dL_law_595 : decode cL_law 595 = .ok (.laload, 1) := by decide +kernel
theorem dL_law_596 : decode cL_law 596 = .ok (.iload 6, 2) := by decide +kernel
theorem dL_law_598 : decode cL_law 598 = .ok (.i2l, 1) := by decide +kernel
theorem dL_law_599 : decode cL_law 599 = .ok (.lcmp, 1) := by decide +kernel
theorem dL_law_600 : decode cL_law 600 = .ok (.ifCond .eq 5, 3) := by decide +kernel
theorem dL_law_603 : decode cL_law 603 = .ok (.iconst 0, 1) := by decide +kernel
theorem dL_law_604 : decode cL_law 604 = .ok (.ireturn, 1) := by decide +kernel
theorem dL_law_605 : decode cL_law 605 = .ok (.goto 733, 3) := by decide +kernel
theorem dL_law_608 : decode cL_law 608 = .ok (.aload_n 1, 1) := by decide +kernel
theorem dL_law_609 : decode cL_law 609 = .ok (.aload_n 0, 1) := by decide +kernel
theorem dL_law_610 : decode cL_law 610 = .ok (.iload 4, 2) := by decide +kernel
theorem dL_law_612 : decode cL_law 612 = .ok (.iconst 1, 1) := by decide +kernel
theorem dL_law_613 : decode cL_law 613 = .ok (.iadd, 1) := by decide +kernel
theorem dL_law_614 : decode cL_law 614 = .ok (.iaload, 1) := by decide +kernel
theorem dL_law_615 : decode cL_law 615 = .ok (.i2l, 1) := by decide +kernel
theorem dL_law_616 : decode cL_law 616 = .ok (.bipush 32, 2) := by decide +kernel
theorem dL_law_618 : decode cL_law 618 = .ok (.lshl, 1) := by decide +kernel
theorem dL_law_619 : decode cL_law 619 = .ok (.aload_n 0, 1) := by decide +kernel
theorem dL_law_620 : decode cL_law 620 = .ok (.iload 4, 2) := by decide +kernel
theorem dL_law_622 : decode cL_law 622 = .ok (.iconst 2, 1) := by decide +kernel
theorem dL_law_623 : decode cL_law 623 = .ok (.iadd, 1) := by decide +kernel
theorem dL_law_624 : decode cL_law 624 = .ok (.iaload, 1) := by decide +kernel
theorem dL_law_625 : decode cL_law 625 = .ok (.i2l, 1) := by decide +kernel
theorem dL_law_626 : decode cL_law 626 = .ok (.ldc2_w 101, 3) := by decide +kernel
theorem dL_law_629 : decode cL_law 629 = .ok (.land, 1) := by decide +kernel
theorem dL_law_630 : decode cL_law 630 = .ok (.lor, 1) := by decide +kernel
theorem dL_law_631 : decode cL_law 631 = .ok (.aload_n 0, 1) := by decide +kernel
theorem dL_law_632 : decode cL_law 632 = .ok (.iload 4, 2) := by decide +kernel
theorem dL_law_634 : decode cL_law 634 = .ok (.iconst 3, 1) := by decide +kernel
theorem dL_law_635 : decode cL_law 635 = .ok (.iadd, 1) := by decide +kernel
theorem dL_law_636 : decode cL_law 636 = .ok (.iaload, 1) := by decide +kernel
theorem dL_law_637 : decode cL_law 637 = .ok (.i2l, 1) := by decide +kernel
theorem dL_law_638 : decode cL_law 638 = .ok (.bipush 32, 2) := by decide +kernel
theorem dL_law_640 : decode cL_law 640 = .ok (.lshl, 1) := by decide +kernel
theorem dL_law_641 : decode cL_law 641 = .ok (.aload_n 0, 1) := by decide +kernel
theorem dL_law_642 : decode cL_law 642 = .ok (.iload 4, 2) := by decide +kernel
theorem dL_law_644 : decode cL_law 644 = .ok (.iconst 4, 1) := by decide +kernel
theorem dL_law_645 : decode cL_law 645 = .ok (.iadd, 1) := by decide +kernel
theorem dL_law_646 : decode cL_law 646 = .ok (.iaload, 1) := by decide +kernel
theorem dL_law_647 : decode cL_law 647 = .ok (.i2l, 1) := by decide +kernel
theorem dL_law_648 : decode cL_law 648 = .ok (.ldc2_w 101, 3) := by decide +kernel
theorem dL_law_651 : decode cL_law 651 = .ok (.land, 1) := by decide +kernel
theorem dL_law_652 : decode cL_law 652 = .ok (.lor, 1) := by decide +kernel
theorem dL_law_653 : decode cL_law 653 = .ok (.aload_n 3, 1) := by decide +kernel
theorem dL_law_654 : decode cL_law 654 = .ok (.invokestatic 103, 3) := by decide +kernel
theorem dL_law_657 : decode cL_law 657 = .ok (.istore 5, 2) := by decide +kernel
theorem dL_law_659 : decode cL_law 659 = .ok (.aload_n 2, 1) := by decide +kernel
theorem dL_law_660 : decode cL_law 660 = .ok (.aload_n 0, 1) := by decide +kernel
theorem dL_law_661 : decode cL_law 661 = .ok (.iload 4, 2) := by decide +kernel
theorem dL_law_663 : decode cL_law 663 = .ok (.iconst 1, 1) := by decide +kernel
theorem dL_law_664 : decode cL_law 664 = .ok (.iadd, 1) := by decide +kernel
theorem dL_law_665 : decode cL_law 665 = .ok (.iaload, 1) := by decide +kernel
theorem dL_law_666 : decode cL_law 666 = .ok (.i2l, 1) := by decide +kernel
theorem dL_law_667 : decode cL_law 667 = .ok (.bipush 32, 2) := by decide +kernel
theorem dL_law_669 : decode cL_law 669 = .ok (.lshl, 1) := by decide +kernel
theorem dL_law_670 : decode cL_law 670 = .ok (.aload_n 0, 1) := by decide +kernel
theorem dL_law_671 : decode cL_law 671 = .ok (.iload 4, 2) := by decide +kernel
theorem dL_law_673 : decode cL_law 673 = .ok (.iconst 2, 1) := by decide +kernel
theorem dL_law_674 : decode cL_law 674 = .ok (.iadd, 1) := by decide +kernel
theorem dL_law_675 : decode cL_law 675 = .ok (.iaload, 1) := by decide +kernel
theorem dL_law_676 : decode cL_law 676 = .ok (.i2l, 1) := by decide +kernel
theorem dL_law_677 : decode cL_law 677 = .ok (.ldc2_w 101, 3) := by decide +kernel
theorem dL_law_680 : decode cL_law 680 = .ok (.land, 1) := by decide +kernel
theorem dL_law_681 : decode cL_law 681 = .ok (.lor, 1) := by decide +kernel
theorem dL_law_682 : decode cL_law 682 = .ok (.aload_n 0, 1) := by decide +kernel
theorem dL_law_683 : decode cL_law 683 = .ok (.iload 4, 2) := by decide +kernel
theorem dL_law_685 : decode cL_law 685 = .ok (.iconst 3, 1) := by decide +kernel
theorem dL_law_686 : decode cL_law 686 = .ok (.iadd, 1) := by decide +kernel
theorem dL_law_687 : decode cL_law 687 = .ok (.iaload, 1) := by decide +kernel
theorem dL_law_688 : decode cL_law 688 = .ok (.i2l, 1) := by decide +kernel
theorem dL_law_689 : decode cL_law 689 = .ok (.bipush 32, 2) := by decide +kernel
theorem dL_law_691 : decode cL_law 691 = .ok (.lshl, 1) := by decide +kernel
theorem dL_law_692 : decode cL_law 692 = .ok (.aload_n 0, 1) := by decide +kernel
theorem dL_law_693 : decode cL_law 693 = .ok (.iload 4, 2) := by decide +kernel
theorem dL_law_695 : decode cL_law 695 = .ok (.iconst 4, 1) := by decide +kernel
theorem dL_law_696 : decode cL_law 696 = .ok (.iadd, 1) := by decide +kernel
theorem dL_law_697 : decode cL_law 697 = .ok (.iaload, 1) := by decide +kernel
theorem dL_law_698 : decode cL_law 698 = .ok (.i2l, 1) := by decide +kernel
theorem dL_law_699 : decode cL_law 699 = .ok (.ldc2_w 101, 3) := by decide +kernel
theorem dL_law_702 : decode cL_law 702 = .ok (.land, 1) := by decide +kernel
theorem dL_law_703 : decode cL_law 703 = .ok (.lor, 1) := by decide +kernel
theorem dL_law_704 : decode cL_law 704 = .ok (.invokevirtual 106, 3) := by decide +kernel
theorem dL_law_707 : decode cL_law 707 = .ok (.istore 6, 2) := by decide +kernel
theorem dL_law_709 : decode cL_law 709 = .ok (.aload_n 2, 1) := by decide +kernel
theorem dL_law_710 : decode cL_law 710 = .ok (.invokevirtual 77, 3) := by decide +kernel
theorem dL_law_713 : decode cL_law 713 = .ok (.iload 5, 2) := by decide +kernel
theorem dL_law_715 : decode cL_law 715 = .ok (.if_icmp .eq 5, 3) := by decide +kernel
theorem dL_law_718 : decode cL_law 718 = .ok (.iconst 0, 1) := by decide +kernel
theorem dL_law_719 : decode cL_law 719 = .ok (.ireturn, 1) := by decide +kernel
theorem dL_law_720 : decode cL_law 720 = .ok (.iload 5, 2) := by decide +kernel
theorem dL_law_722 : decode cL_law 722 = .ok (.ifCond .ne 15, 3) := by decide +kernel
theorem dL_law_725 : decode cL_law 725 = .ok (.aload_n 3, 1) := by decide +kernel
theorem dL_law_726 : decode cL_law 726 = .ok (.iconst 0, 1) := by decide +kernel
theorem dL_law_727 : decode cL_law 727 = .ok (.laload, 1) := by decide +kernel
theorem dL_law_728 : decode cL_law 728 = .ok (.iload 6, 2) := by decide +kernel
theorem dL_law_730 : decode cL_law 730 = .ok (.i2l, 1) := by decide +kernel
theorem dL_law_731 : decode cL_law 731 = .ok (.lcmp, 1) := by decide +kernel
theorem dL_law_732 : decode cL_law 732 = .ok (.ifCond .eq 5, 3) := by decide +kernel
theorem dL_law_735 : decode cL_law 735 = .ok (.iconst 0, 1) := by decide +kernel
theorem dL_law_736 : decode cL_law 736 = .ok (.ireturn, 1) := by decide +kernel
theorem dL_law_737 : decode cL_law 737 = .ok (.goto 601, 3) := by decide +kernel
theorem dL_law_740 : decode cL_law 740 = .ok (.aload_n 1, 1) := by decide +kernel
theorem dL_law_741 : decode cL_law 741 = .ok (.aload_n 0, 1) := by decide +kernel
theorem dL_law_742 : decode cL_law 742 = .ok (.iload 4, 2) := by decide +kernel
theorem dL_law_744 : decode cL_law 744 = .ok (.iconst 1, 1) := by decide +kernel
theorem dL_law_745 : decode cL_law 745 = .ok (.iadd, 1) := by decide +kernel
theorem dL_law_746 : decode cL_law 746 = .ok (.iaload, 1) := by decide +kernel
theorem dL_law_747 : decode cL_law 747 = .ok (.aload_n 0, 1) := by decide +kernel
theorem dL_law_748 : decode cL_law 748 = .ok (.iload 4, 2) := by decide +kernel
theorem dL_law_750 : decode cL_law 750 = .ok (.iconst 2, 1) := by decide +kernel
theorem dL_law_751 : decode cL_law 751 = .ok (.iadd, 1) := by decide +kernel
theorem dL_law_752 : decode cL_law 752 = .ok (.iaload, 1) := by decide +kernel
theorem dL_law_753 : decode cL_law 753 = .ok (.aload_n 0, 1) := by decide +kernel
theorem dL_law_754 : decode cL_law 754 = .ok (.iload 4, 2) := by decide +kernel
theorem dL_law_756 : decode cL_law 756 = .ok (.iconst 3, 1) := by decide +kernel
theorem dL_law_757 : decode cL_law 757 = .ok (.iadd, 1) := by decide +kernel
theorem dL_law_758 : decode cL_law 758 = .ok (.iaload, 1) := by decide +kernel
theorem dL_law_759 : decode cL_law 759 = .ok (.aload_n 0, 1) := by decide +kernel
theorem dL_law_760 : decode cL_law 760 = .ok (.iload 4, 2) := by decide +kernel
theorem dL_law_762 : decode cL_law 762 = .ok (.iconst 4, 1) := by decide +kernel
theorem dL_law_763 : decode cL_law 763 = .ok (.iadd, 1) := by decide +kernel
theorem dL_law_764 : decode cL_law 764 = .ok (.iaload, 1) := by decide +kernel
theorem dL_law_765 : decode cL_law 765 = .ok (.aload_n 0, 1) := by decide +kernel
theorem dL_law_766 : decode cL_law 766 = .ok (.iload 4, 2) := by decide +kernel
theorem dL_law_768 : decode cL_law 768 = .ok (.iconst 5, 1) := by decide +kernel
theorem dL_law_769 : decode cL_law 769 = .ok (.iadd, 1) := by decide +kernel
theorem dL_law_770 : decode cL_law 770 = .ok (.iaload, 1) := by decide +kernel
theorem dL_law_771 : decode cL_law 771 = .ok (.aload_n 0, 1) := by decide +kernel
theorem dL_law_772 : decode cL_law 772 = .ok (.iload 4, 2) := by decide +kernel
theorem dL_law_774 : decode cL_law 774 = .ok (.bipush 6, 2) := by decide +kernel
theorem dL_law_776 : decode cL_law 776 = .ok (.iadd, 1) := by decide +kernel
theorem dL_law_777 : decode cL_law 777 = .ok (.iaload, 1) := by decide +kernel
theorem dL_law_778 : decode cL_law 778 = .ok (.aload_n 3, 1) := by decide +kernel
theorem dL_law_779 : decode cL_law 779 = .ok (.invokestatic 107, 3) := by decide +kernel
theorem dL_law_782 : decode cL_law 782 = .ok (.istore 5, 2) := by decide +kernel
theorem dL_law_784 : decode cL_law 784 = .ok (.aload_n 2, 1) := by decide +kernel
theorem dL_law_785 : decode cL_law 785 = .ok (.aload_n 0, 1) := by decide +kernel
theorem dL_law_786 : decode cL_law 786 = .ok (.iload 4, 2) := by decide +kernel
theorem dL_law_788 : decode cL_law 788 = .ok (.iconst 1, 1) := by decide +kernel
theorem dL_law_789 : decode cL_law 789 = .ok (.iadd, 1) := by decide +kernel
theorem dL_law_790 : decode cL_law 790 = .ok (.iaload, 1) := by decide +kernel
theorem dL_law_791 : decode cL_law 791 = .ok (.aload_n 0, 1) := by decide +kernel
theorem dL_law_792 : decode cL_law 792 = .ok (.iload 4, 2) := by decide +kernel
theorem dL_law_794 : decode cL_law 794 = .ok (.iconst 2, 1) := by decide +kernel
theorem dL_law_795 : decode cL_law 795 = .ok (.iadd, 1) := by decide +kernel
theorem dL_law_796 : decode cL_law 796 = .ok (.iaload, 1) := by decide +kernel
theorem dL_law_797 : decode cL_law 797 = .ok (.aload_n 0, 1) := by decide +kernel
theorem dL_law_798 : decode cL_law 798 = .ok (.iload 4, 2) := by decide +kernel
theorem dL_law_800 : decode cL_law 800 = .ok (.iconst 3, 1) := by decide +kernel
theorem dL_law_801 : decode cL_law 801 = .ok (.iadd, 1) := by decide +kernel
theorem dL_law_802 : decode cL_law 802 = .ok (.iaload, 1) := by decide +kernel
theorem dL_law_803 : decode cL_law 803 = .ok (.aload_n 0, 1) := by decide +kernel
theorem dL_law_804 : decode cL_law 804 = .ok (.iload 4, 2) := by decide +kernel
theorem dL_law_806 : decode cL_law 806 = .ok (.iconst 4, 1) := by decide +kernel
theorem dL_law_807 : decode cL_law 807 = .ok (.iadd, 1) := by decide +kernel
theorem dL_law_808 : decode cL_law 808 = .ok (.iaload, 1) := by decide +kernel
theorem dL_law_809 : decode cL_law 809 = .ok (.aload_n 0, 1) := by decide +kernel
theorem dL_law_810 : decode cL_law 810 = .ok (.iload 4, 2) := by decide +kernel
theorem dL_law_812 : decode cL_law 812 = .ok (.iconst 5, 1) := by decide +kernel
theorem dL_law_813 : decode cL_law 813 = .ok (.iadd, 1) := by decide +kernel
theorem dL_law_814 : decode cL_law 814 = .ok (.iaload, 1) := by decide +kernel
theorem dL_law_815 : decode cL_law 815 = .ok (.aload_n 0, 1) := by decide +kernel
theorem dL_law_816 : decode cL_law 816 = .ok (.iload 4, 2) := by decide +kernel
theorem dL_law_818 : decode cL_law 818 = .ok (.bipush 6, 2) := by decide +kernel
theorem dL_law_820 : decode cL_law 820 = .ok (.iadd, 1) := by decide +kernel
theorem dL_law_821 : decode cL_law 821 = .ok (.iaload, 1) := by decide +kernel
theorem dL_law_822 : decode cL_law 822 = .ok (.invokevirtual 110, 3) := by decide +kernel
theorem dL_law_825 : decode cL_law 825 = .ok (.istore 6, 2) := by decide +kernel
theorem dL_law_827 : decode cL_law 827 = .ok (.aload_n 2, 1) := by decide +kernel
theorem dL_law_828 : decode cL_law 828 = .ok (.invokevirtual 77, 3) := by decide +kernel
theorem dL_law_831 : decode cL_law 831 = .ok (.iload 5, 2) := by decide +kernel
theorem dL_law_833 : decode cL_law 833 = .ok (.if_icmp .eq 5, 3) := by decide +kernel
theorem dL_law_836 : decode cL_law 836 = .ok (.iconst 0, 1) := by decide +kernel
theorem dL_law_837 : decode cL_law 837 = .ok (.ireturn, 1) := by decide +kernel
theorem dL_law_838 : decode cL_law 838 = .ok (.iload 5, 2) := by decide +kernel
theorem dL_law_840 : decode cL_law 840 = .ok (.ifCond .ne 15, 3) := by decide +kernel
theorem dL_law_843 : decode cL_law 843 = .ok (.aload_n 3, 1) := by decide +kernel
theorem dL_law_844 : decode cL_law 844 = .ok (.iconst 0, 1) := by decide +kernel
theorem dL_law_845 : decode cL_law 845 = .ok (.laload, 1) := by decide +kernel
theorem dL_law_846 : decode cL_law 846 = .ok (.iload 6, 2) := by decide +kernel
theorem dL_law_848 : decode cL_law 848 = .ok (.i2l, 1) := by decide +kernel
theorem dL_law_849 : decode cL_law 849 = .ok (.lcmp, 1) := by decide +kernel
theorem dL_law_850 : decode cL_law 850 = .ok (.ifCond .eq 5, 3) := by decide +kernel
theorem dL_law_853 : decode cL_law 853 = .ok (.iconst 0, 1) := by decide +kernel
theorem dL_law_854 : decode cL_law 854 = .ok (.ireturn, 1) := by decide +kernel
theorem dL_law_855 : decode cL_law 855 = .ok (.goto 483, 3) := by decide +kernel
theorem dL_law_858 : decode cL_law 858 = .ok (.aload_n 1, 1) := by decide +kernel
theorem dL_law_859 : decode cL_law 859 = .ok (.aload_n 0, 1) := by decide +kernel
theorem dL_law_860 : decode cL_law 860 = .ok (.iload 4, 2) := by decide +kernel
theorem dL_law_862 : decode cL_law 862 = .ok (.iconst 1, 1) := by decide +kernel
theorem dL_law_863 : decode cL_law 863 = .ok (.iadd, 1) := by decide +kernel
theorem dL_law_864 : decode cL_law 864 = .ok (.iaload, 1) := by decide +kernel
theorem dL_law_865 : decode cL_law 865 = .ok (.aload_n 0, 1) := by decide +kernel
theorem dL_law_866 : decode cL_law 866 = .ok (.iload 4, 2) := by decide +kernel
theorem dL_law_868 : decode cL_law 868 = .ok (.iconst 2, 1) := by decide +kernel
theorem dL_law_869 : decode cL_law 869 = .ok (.iadd, 1) := by decide +kernel
theorem dL_law_870 : decode cL_law 870 = .ok (.iaload, 1) := by decide +kernel
theorem dL_law_871 : decode cL_law 871 = .ok (.aload_n 0, 1) := by decide +kernel
theorem dL_law_872 : decode cL_law 872 = .ok (.iload 4, 2) := by decide +kernel
theorem dL_law_874 : decode cL_law 874 = .ok (.iconst 3, 1) := by decide +kernel
theorem dL_law_875 : decode cL_law 875 = .ok (.iadd, 1) := by decide +kernel
theorem dL_law_876 : decode cL_law 876 = .ok (.iaload, 1) := by decide +kernel
theorem dL_law_877 : decode cL_law 877 = .ok (.aload_n 0, 1) := by decide +kernel
theorem dL_law_878 : decode cL_law 878 = .ok (.iload 4, 2) := by decide +kernel
theorem dL_law_880 : decode cL_law 880 = .ok (.iconst 4, 1) := by decide +kernel
theorem dL_law_881 : decode cL_law 881 = .ok (.iadd, 1) := by decide +kernel
theorem dL_law_882 : decode cL_law 882 = .ok (.iaload, 1) := by decide +kernel
theorem dL_law_883 : decode cL_law 883 = .ok (.aload_n 0, 1) := by decide +kernel
theorem dL_law_884 : decode cL_law 884 = .ok (.iload 4, 2) := by decide +kernel
theorem dL_law_886 : decode cL_law 886 = .ok (.iconst 5, 1) := by decide +kernel
theorem dL_law_887 : decode cL_law 887 = .ok (.iadd, 1) := by decide +kernel
theorem dL_law_888 : decode cL_law 888 = .ok (.iaload, 1) := by decide +kernel
theorem dL_law_889 : decode cL_law 889 = .ok (.aload_n 3, 1) := by decide +kernel
theorem dL_law_890 : decode cL_law 890 = .ok (.invokestatic 111, 3) := by decide +kernel
theorem dL_law_893 : decode cL_law 893 = .ok (.istore 5, 2) := by decide +kernel
theorem dL_law_895 : decode cL_law 895 = .ok (.aload_n 2, 1) := by decide +kernel
theorem dL_law_896 : decode cL_law 896 = .ok (.aload_n 0, 1) := by decide +kernel
theorem dL_law_897 : decode cL_law 897 = .ok (.iload 4, 2) := by decide +kernel
theorem dL_law_899 : decode cL_law 899 = .ok (.iconst 1, 1) := by decide +kernel
theorem dL_law_900 : decode cL_law 900 = .ok (.iadd, 1) := by decide +kernel
theorem dL_law_901 : decode cL_law 901 = .ok (.iaload, 1) := by decide +kernel
theorem dL_law_902 : decode cL_law 902 = .ok (.aload_n 0, 1) := by decide +kernel
theorem dL_law_903 : decode cL_law 903 = .ok (.iload 4, 2) := by decide +kernel
theorem dL_law_905 : decode cL_law 905 = .ok (.iconst 2, 1) := by decide +kernel
theorem dL_law_906 : decode cL_law 906 = .ok (.iadd, 1) := by decide +kernel
theorem dL_law_907 : decode cL_law 907 = .ok (.iaload, 1) := by decide +kernel
theorem dL_law_908 : decode cL_law 908 = .ok (.aload_n 0, 1) := by decide +kernel
theorem dL_law_909 : decode cL_law 909 = .ok (.iload 4, 2) := by decide +kernel
theorem dL_law_911 : decode cL_law 911 = .ok (.iconst 3, 1) := by decide +kernel
theorem dL_law_912 : decode cL_law 912 = .ok (.iadd, 1) := by decide +kernel
theorem dL_law_913 : decode cL_law 913 = .ok (.iaload, 1) := by decide +kernel
theorem dL_law_914 : decode cL_law 914 = .ok (.aload_n 0, 1) := by decide +kernel
theorem dL_law_915 : decode cL_law 915 = .ok (.iload 4, 2) := by decide +kernel
theorem dL_law_917 : decode cL_law 917 = .ok (.iconst 4, 1) := by decide +kernel
theorem dL_law_918 : decode cL_law 918 = .ok (.iadd, 1) := by decide +kernel
theorem dL_law_919 : decode cL_law 919 = .ok (.iaload, 1) := by decide +kernel
theorem dL_law_920 : decode cL_law 920 = .ok (.aload_n 0, 1) := by decide +kernel
theorem dL_law_921 : decode cL_law 921 = .ok (.iload 4, 2) := by decide +kernel
theorem dL_law_923 : decode cL_law 923 = .ok (.iconst 5, 1) := by decide +kernel
theorem dL_law_924 : decode cL_law 924 = .ok (.iadd, 1) := by decide +kernel
theorem dL_law_925 : decode cL_law 925 = .ok (.iaload, 1) := by decide +kernel
theorem dL_law_926 : decode cL_law 926 = .ok (.invokevirtual 113, 3) := by decide +kernel
theorem dL_law_929 : decode cL_law 929 = .ok (.lstore 6, 2) := by decide +kernel
theorem dL_law_931 : decode cL_law 931 = .ok (.aload_n 2, 1) := by decide +kernel
theorem dL_law_932 : decode cL_law 932 = .ok (.invokevirtual 77, 3) := by decide +kernel
theorem dL_law_935 : decode cL_law 935 = .ok (.iload 5, 2) := by decide +kernel
theorem dL_law_937 : decode cL_law 937 = .ok (.if_icmp .eq 5, 3) := by decide +kernel
theorem dL_law_940 : decode cL_law 940 = .ok (.iconst 0, 1) := by decide +kernel
theorem dL_law_941 : decode cL_law 941 = .ok (.ireturn, 1) := by decide +kernel
theorem dL_law_942 : decode cL_law 942 = .ok (.iload 5, 2) := by decide +kernel
theorem dL_law_944 : decode cL_law 944 = .ok (.ifCond .ne 14, 3) := by decide +kernel
theorem dL_law_947 : decode cL_law 947 = .ok (.aload_n 3, 1) := by decide +kernel
theorem dL_law_948 : decode cL_law 948 = .ok (.iconst 0, 1) := by decide +kernel
theorem dL_law_949 : decode cL_law 949 = .ok (.laload, 1) := by decide +kernel
theorem dL_law_950 : decode cL_law 950 = .ok (.lload 6, 2) := by decide +kernel
theorem dL_law_952 : decode cL_law 952 = .ok (.lcmp, 1) := by decide +kernel
theorem dL_law_953 : decode cL_law 953 = .ok (.ifCond .eq 5, 3) := by decide +kernel
theorem dL_law_956 : decode cL_law 956 = .ok (.iconst 0, 1) := by decide +kernel
theorem dL_law_957 : decode cL_law 957 = .ok (.ireturn, 1) := by decide +kernel
theorem dL_law_958 : decode cL_law 958 = .ok (.goto 380, 3) := by decide +kernel
theorem dL_law_961 : decode cL_law 961 = .ok (.aload_n 1, 1) := by decide +kernel
theorem dL_law_962 : decode cL_law 962 = .ok (.aload_n 0, 1) := by decide +kernel
theorem dL_law_963 : decode cL_law 963 = .ok (.iload 4, 2) := by decide +kernel
theorem dL_law_965 : decode cL_law 965 = .ok (.iconst 1, 1) := by decide +kernel
theorem dL_law_966 : decode cL_law 966 = .ok (.iadd, 1) := by decide +kernel
theorem dL_law_967 : decode cL_law 967 = .ok (.iaload, 1) := by decide +kernel
theorem dL_law_968 : decode cL_law 968 = .ok (.aload_n 0, 1) := by decide +kernel
theorem dL_law_969 : decode cL_law 969 = .ok (.iload 4, 2) := by decide +kernel
theorem dL_law_971 : decode cL_law 971 = .ok (.iconst 2, 1) := by decide +kernel
theorem dL_law_972 : decode cL_law 972 = .ok (.iadd, 1) := by decide +kernel
theorem dL_law_973 : decode cL_law 973 = .ok (.iaload, 1) := by decide +kernel
theorem dL_law_974 : decode cL_law 974 = .ok (.aload_n 0, 1) := by decide +kernel
theorem dL_law_975 : decode cL_law 975 = .ok (.iload 4, 2) := by decide +kernel
theorem dL_law_977 : decode cL_law 977 = .ok (.iconst 3, 1) := by decide +kernel
theorem dL_law_978 : decode cL_law 978 = .ok (.iadd, 1) := by decide +kernel
theorem dL_law_979 : decode cL_law 979 = .ok (.iaload, 1) := by decide +kernel
theorem dL_law_980 : decode cL_law 980 = .ok (.aload_n 0, 1) := by decide +kernel
theorem dL_law_981 : decode cL_law 981 = .ok (.iload 4, 2) := by decide +kernel
theorem dL_law_983 : decode cL_law 983 = .ok (.iconst 4, 1) := by decide +kernel
theorem dL_law_984 : decode cL_law 984 = .ok (.iadd, 1) := by decide +kernel
theorem dL_law_985 : decode cL_law 985 = .ok (.iaload, 1) := by decide +kernel
theorem dL_law_986 : decode cL_law 986 = .ok (.aload_n 0, 1) := by decide +kernel
theorem dL_law_987 : decode cL_law 987 = .ok (.iload 4, 2) := by decide +kernel
theorem dL_law_989 : decode cL_law 989 = .ok (.iconst 5, 1) := by decide +kernel
theorem dL_law_990 : decode cL_law 990 = .ok (.iadd, 1) := by decide +kernel
theorem dL_law_991 : decode cL_law 991 = .ok (.iaload, 1) := by decide +kernel
theorem dL_law_992 : decode cL_law 992 = .ok (.aload_n 3, 1) := by decide +kernel
theorem dL_law_993 : decode cL_law 993 = .ok (.invokestatic 114, 3) := by decide +kernel
theorem dL_law_996 : decode cL_law 996 = .ok (.istore 5, 2) := by decide +kernel
theorem dL_law_998 : decode cL_law 998 = .ok (.aload_n 2, 1) := by decide +kernel
theorem dL_law_999 : decode cL_law 999 = .ok (.aload_n 0, 1) := by decide +kernel
theorem dL_law_1000 : decode cL_law 1000 = .ok (.iload 4, 2) := by decide +kernel
theorem dL_law_1002 : decode cL_law 1002 = .ok (.iconst 1, 1) := by decide +kernel
theorem dL_law_1003 : decode cL_law 1003 = .ok (.iadd, 1) := by decide +kernel
theorem dL_law_1004 : decode cL_law 1004 = .ok (.iaload, 1) := by decide +kernel
theorem dL_law_1005 : decode cL_law 1005 = .ok (.aload_n 0, 1) := by decide +kernel
theorem dL_law_1006 : decode cL_law 1006 = .ok (.iload 4, 2) := by decide +kernel
theorem dL_law_1008 : decode cL_law 1008 = .ok (.iconst 2, 1) := by decide +kernel
theorem dL_law_1009 : decode cL_law 1009 = .ok (.iadd, 1) := by decide +kernel
theorem dL_law_1010 : decode cL_law 1010 = .ok (.iaload, 1) := by decide +kernel
theorem dL_law_1011 : decode cL_law 1011 = .ok (.aload_n 0, 1) := by decide +kernel
theorem dL_law_1012 : decode cL_law 1012 = .ok (.iload 4, 2) := by decide +kernel
theorem dL_law_1014 : decode cL_law 1014 = .ok (.iconst 3, 1) := by decide +kernel
theorem dL_law_1015 : decode cL_law 1015 = .ok (.iadd, 1) := by decide +kernel
theorem dL_law_1016 : decode cL_law 1016 = .ok (.iaload, 1) := by decide +kernel
theorem dL_law_1017 : decode cL_law 1017 = .ok (.aload_n 0, 1) := by decide +kernel
theorem dL_law_1018 : decode cL_law 1018 = .ok (.iload 4, 2) := by decide +kernel
theorem dL_law_1020 : decode cL_law 1020 = .ok (.iconst 4, 1) := by decide +kernel
theorem dL_law_1021 : decode cL_law 1021 = .ok (.iadd, 1) := by decide +kernel
theorem dL_law_1022 : decode cL_law 1022 = .ok (.iaload, 1) := by decide +kernel
theorem dL_law_1023 : decode cL_law 1023 = .ok (.aload_n 0, 1) := by decide +kernel
theorem dL_law_1024 : decode cL_law 1024 = .ok (.iload 4, 2) := by decide +kernel
theorem dL_law_1026 : decode cL_law 1026 = .ok (.iconst 5, 1) := by decide +kernel
theorem dL_law_1027 : decode cL_law 1027 = .ok (.iadd, 1) := by decide +kernel
theorem dL_law_1028 : decode cL_law 1028 = .ok (.iaload, 1) := by decide +kernel
theorem dL_law_1029 : decode cL_law 1029 = .ok (.invokevirtual 116, 3) := by decide +kernel
theorem dL_law_1032 : decode cL_law 1032 = .ok (.istore 6, 2) := by decide +kernel
theorem dL_law_1034 : decode cL_law 1034 = .ok (.aload_n 2, 1) := by decide +kernel
theorem dL_law_1035 : decode cL_law 1035 = .ok (.invokevirtual 77, 3) := by decide +kernel
theorem dL_law_1038 : decode cL_law 1038 = .ok (.iload 5, 2) := by decide +kernel
theorem dL_law_1040 : decode cL_law 1040 = .ok (.if_icmp .eq 5, 3) := by decide +kernel
theorem dL_law_1043 : decode cL_law 1043 = .ok (.iconst 0, 1) := by decide +kernel
theorem dL_law_1044 : decode cL_law 1044 = .ok (.ireturn, 1) := by decide +kernel
theorem dL_law_1045 : decode cL_law 1045 = .ok (.iload 5, 2) := by decide +kernel
theorem dL_law_1047 : decode cL_law 1047 = .ok (.ifCond .ne 15, 3) := by decide +kernel
theorem dL_law_1050 : decode cL_law 1050 = .ok (.aload_n 3, 1) := by decide +kernel
theorem dL_law_1051 : decode cL_law 1051 = .ok (.iconst 0, 1) := by decide +kernel
theorem dL_law_1052 : decode cL_law 1052 = .ok (.laload, 1) := by decide +kernel
theorem dL_law_1053 : decode cL_law 1053 = .ok (.iload 6, 2) := by decide +kernel
theorem dL_law_1055 : decode cL_law 1055 = .ok (.i2l, 1) := by decide +kernel
theorem dL_law_1056 : decode cL_law 1056 = .ok (.lcmp, 1) := by decide +kernel
theorem dL_law_1057 : decode cL_law 1057 = .ok (.ifCond .eq 5, 3) := by decide +kernel
theorem dL_law_1060 : decode cL_law 1060 = .ok (.iconst 0, 1) := by decide +kernel
theorem dL_law_1061 : decode cL_law 1061 = .ok (.ireturn, 1) := by decide +kernel
theorem dL_law_1062 : decode cL_law 1062 = .ok (.goto 276, 3) := by decide +kernel
theorem dL_law_1065 : decode cL_law 1065 = .ok (.aload_n 1, 1) := by decide +kernel
theorem dL_law_1066 : decode cL_law 1066 = .ok (.invokevirtual 117, 3) := by decide +kernel
theorem dL_law_1069 : decode cL_law 1069 = .ok (.aload_n 2, 1) := by decide +kernel
theorem dL_law_1070 : decode cL_law 1070 = .ok (.invokevirtual 120, 3) := by decide +kernel
theorem dL_law_1073 : decode cL_law 1073 = .ok (.if_icmp .eq 265, 3) := by decide +kernel
theorem dL_law_1076 : decode cL_law 1076 = .ok (.iconst 0, 1) := by decide +kernel
theorem dL_law_1077 : decode cL_law 1077 = .ok (.ireturn, 1) := by decide +kernel
theorem dL_law_1078 : decode cL_law 1078 = .ok (.aload_n 1, 1) := by decide +kernel
theorem dL_law_1079 : decode cL_law 1079 = .ok (.aload_n 0, 1) := by decide +kernel
theorem dL_law_1080 : decode cL_law 1080 = .ok (.iload 4, 2) := by decide +kernel
theorem dL_law_1082 : decode cL_law 1082 = .ok (.iconst 1, 1) := by decide +kernel
theorem dL_law_1083 : decode cL_law 1083 = .ok (.iadd, 1) := by decide +kernel
theorem dL_law_1084 : decode cL_law 1084 = .ok (.iaload, 1) := by decide +kernel
theorem dL_law_1085 : decode cL_law 1085 = .ok (.aload_n 0, 1) := by decide +kernel
theorem dL_law_1086 : decode cL_law 1086 = .ok (.iload 4, 2) := by decide +kernel
theorem dL_law_1088 : decode cL_law 1088 = .ok (.iconst 2, 1) := by decide +kernel
theorem dL_law_1089 : decode cL_law 1089 = .ok (.iadd, 1) := by decide +kernel
theorem dL_law_1090 : decode cL_law 1090 = .ok (.iaload, 1) := by decide +kernel
theorem dL_law_1091 : decode cL_law 1091 = .ok (.aload_n 3, 1) := by decide +kernel
theorem dL_law_1092 : decode cL_law 1092 = .ok (.invokestatic 121, 3) := by decide +kernel
theorem dL_law_1095 : decode cL_law 1095 = .ok (.istore 5, 2) := by decide +kernel
theorem dL_law_1097 : decode cL_law 1097 = .ok (.aload_n 2, 1) := by decide +kernel
theorem dL_law_1098 : decode cL_law 1098 = .ok (.aload_n 0, 1) := by decide +kernel
theorem dL_law_1099 : decode cL_law 1099 = .ok (.iload 4, 2) := by decide +kernel
theorem dL_law_1101 : decode cL_law 1101 = .ok (.iconst 1, 1) := by decide +kernel
theorem dL_law_1102 : decode cL_law 1102 = .ok (.iadd, 1) := by decide +kernel
theorem dL_law_1103 : decode cL_law 1103 = .ok (.iaload, 1) := by decide +kernel
theorem dL_law_1104 : decode cL_law 1104 = .ok (.aload_n 0, 1) := by decide +kernel
theorem dL_law_1105 : decode cL_law 1105 = .ok (.iload 4, 2) := by decide +kernel
theorem dL_law_1107 : decode cL_law 1107 = .ok (.iconst 2, 1) := by decide +kernel
theorem dL_law_1108 : decode cL_law 1108 = .ok (.iadd, 1) := by decide +kernel
theorem dL_law_1109 : decode cL_law 1109 = .ok (.iaload, 1) := by decide +kernel
theorem dL_law_1110 : decode cL_law 1110 = .ok (.invokevirtual 124, 3) := by decide +kernel
theorem dL_law_1113 : decode cL_law 1113 = .ok (.istore 6, 2) := by decide +kernel
theorem dL_law_1115 : decode cL_law 1115 = .ok (.aload_n 2, 1) := by decide +kernel
theorem dL_law_1116 : decode cL_law 1116 = .ok (.invokevirtual 77, 3) := by decide +kernel
theorem dL_law_1119 : decode cL_law 1119 = .ok (.iload 5, 2) := by decide +kernel
theorem dL_law_1121 : decode cL_law 1121 = .ok (.if_icmp .eq 5, 3) := by decide +kernel
theorem dL_law_1124 : decode cL_law 1124 = .ok (.iconst 0, 1) := by decide +kernel
theorem dL_law_1125 : decode cL_law 1125 = .ok (.ireturn, 1) := by decide +kernel
theorem dL_law_1126 : decode cL_law 1126 = .ok (.iload 5, 2) := by decide +kernel
theorem dL_law_1128 : decode cL_law 1128 = .ok (.ifCond .ne 15, 3) := by decide +kernel
theorem dL_law_1131 : decode cL_law 1131 = .ok (.aload_n 3, 1) := by decide +kernel
theorem dL_law_1132 : decode cL_law 1132 = .ok (.iconst 0, 1) := by decide +kernel
theorem dL_law_1133 : decode cL_law 1133 = .ok (.laload, 1) := by decide +kernel
theorem dL_law_1134 : decode cL_law 1134 = .ok (.iload 6, 2) := by decide +kernel
theorem dL_law_1136 : decode cL_law 1136 = .ok (.i2l, 1) := by decide +kernel
theorem dL_law_1137 : decode cL_law 1137 = .ok (.lcmp, 1) := by decide +kernel
theorem dL_law_1138 : decode cL_law 1138 = .ok (.ifCond .eq 5, 3) := by decide +kernel
theorem dL_law_1141 : decode cL_law 1141 = .ok (.iconst 0, 1) := by decide +kernel
theorem dL_law_1142 : decode cL_law 1142 = .ok (.ireturn, 1) := by decide +kernel
theorem dL_law_1143 : decode cL_law 1143 = .ok (.goto 195, 3) := by decide +kernel
theorem dL_law_1146 : decode cL_law 1146 = .ok (.aload_n 1, 1) := by decide +kernel
theorem dL_law_1147 : decode cL_law 1147 = .ok (.aload_n 0, 1) := by decide +kernel
theorem dL_law_1148 : decode cL_law 1148 = .ok (.iload 4, 2) := by decide +kernel
theorem dL_law_1150 : decode cL_law 1150 = .ok (.iconst 1, 1) := by decide +kernel
theorem dL_law_1151 : decode cL_law 1151 = .ok (.iadd, 1) := by decide +kernel
theorem dL_law_1152 : decode cL_law 1152 = .ok (.iaload, 1) := by decide +kernel
theorem dL_law_1153 : decode cL_law 1153 = .ok (.aload_n 3, 1) := by decide +kernel
theorem dL_law_1154 : decode cL_law 1154 = .ok (.invokestatic 125, 3) := by decide +kernel
theorem dL_law_1157 : decode cL_law 1157 = .ok (.istore 5, 2) := by decide +kernel
theorem dL_law_1159 : decode cL_law 1159 = .ok (.aload_n 2, 1) := by decide +kernel
theorem dL_law_1160 : decode cL_law 1160 = .ok (.aload_n 0, 1) := by decide +kernel
theorem dL_law_1161 : decode cL_law 1161 = .ok (.iload 4, 2) := by decide +kernel
theorem dL_law_1163 : decode cL_law 1163 = .ok (.iconst 1, 1) := by decide +kernel
theorem dL_law_1164 : decode cL_law 1164 = .ok (.iadd, 1) := by decide +kernel
theorem dL_law_1165 : decode cL_law 1165 = .ok (.iaload, 1) := by decide +kernel
theorem dL_law_1166 : decode cL_law 1166 = .ok (.invokevirtual 127, 3) := by decide +kernel
theorem dL_law_1169 : decode cL_law 1169 = .ok (.istore 6, 2) := by decide +kernel
theorem dL_law_1171 : decode cL_law 1171 = .ok (.aload_n 2, 1) := by decide +kernel
theorem dL_law_1172 : decode cL_law 1172 = .ok (.invokevirtual 77, 3) := by decide +kernel
theorem dL_law_1175 : decode cL_law 1175 = .ok (.iload 5, 2) := by decide +kernel
theorem dL_law_1177 : decode cL_law 1177 = .ok (.if_icmp .eq 5, 3) := by decide +kernel
theorem dL_law_1180 : decode cL_law 1180 = .ok (.iconst 0, 1) := by decide +kernel
theorem dL_law_1181 : decode cL_law 1181 = .ok (.ireturn, 1) := by decide +kernel
theorem dL_law_1182 : decode cL_law 1182 = .ok (.iload 5, 2) := by decide +kernel
theorem dL_law_1184 : decode cL_law 1184 = .ok (.ifCond .ne 15, 3) := by decide +kernel
theorem dL_law_1187 : decode cL_law 1187 = .ok (.aload_n 3, 1) := by decide +kernel
theorem dL_law_1188 : decode cL_law 1188 = .ok (.iconst 0, 1) := by decide +kernel
theorem dL_law_1189 : decode cL_law 1189 = .ok (.laload, 1) := by decide +kernel
theorem dL_law_1190 : decode cL_law 1190 = .ok (.iload 6, 2) := by decide +kernel
theorem dL_law_1192 : decode cL_law 1192 = .ok (.i2l, 1) := by decide +kernel
theorem dL_law_1193 : decode cL_law 1193 = .ok (.lcmp, 1) := by decide +kernel
theorem dL_law_1194 : decode cL_law 1194 = .ok (.ifCond .eq 5, 3) := by decide +kernel
theorem dL_law_1197 : decode cL_law 1197 = .ok (.iconst 0, 1) := by decide +kernel
theorem dL_law_1198 : decode cL_law 1198 = .ok (.ireturn, 1) := by decide +kernel
theorem dL_law_1199 : decode cL_law 1199 = .ok (.goto 139, 3) := by decide +kernel
theorem dL_law_1202 : decode cL_law 1202 = .ok (.aload_n 1, 1) := by decide +kernel
theorem dL_law_1203 : decode cL_law 1203 = .ok (.aload_n 0, 1) := by decide +kernel
theorem dL_law_1204 : decode cL_law 1204 = .ok (.iload 4, 2) := by decide +kernel
theorem dL_law_1206 : decode cL_law 1206 = .ok (.iconst 1, 1) := by decide +kernel
theorem dL_law_1207 : decode cL_law 1207 = .ok (.iadd, 1) := by decide +kernel
theorem dL_law_1208 : decode cL_law 1208 = .ok (.iaload, 1) := by decide +kernel
theorem dL_law_1209 : decode cL_law 1209 = .ok (.aload_n 0, 1) := by decide +kernel
theorem dL_law_1210 : decode cL_law 1210 = .ok (.iload 4, 2) := by decide +kernel
theorem dL_law_1212 : decode cL_law 1212 = .ok (.iconst 2, 1) := by decide +kernel
theorem dL_law_1213 : decode cL_law 1213 = .ok (.iadd, 1) := by decide +kernel
theorem dL_law_1214 : decode cL_law 1214 = .ok (.iaload, 1) := by decide +kernel
theorem dL_law_1215 : decode cL_law 1215 = .ok (.aload_n 3, 1) := by decide +kernel
theorem dL_law_1216 : decode cL_law 1216 = .ok (.invokestatic 128, 3) := by decide +kernel
theorem dL_law_1219 : decode cL_law 1219 = .ok (.istore 5, 2) := by decide +kernel
theorem dL_law_1221 : decode cL_law 1221 = .ok (.aload_n 2, 1) := by decide +kernel
theorem dL_law_1222 : decode cL_law 1222 = .ok (.aload_n 0, 1) := by decide +kernel
theorem dL_law_1223 : decode cL_law 1223 = .ok (.iload 4, 2) := by decide +kernel
theorem dL_law_1225 : decode cL_law 1225 = .ok (.iconst 1, 1) := by decide +kernel
theorem dL_law_1226 : decode cL_law 1226 = .ok (.iadd, 1) := by decide +kernel
theorem dL_law_1227 : decode cL_law 1227 = .ok (.iaload, 1) := by decide +kernel
theorem dL_law_1228 : decode cL_law 1228 = .ok (.aload_n 0, 1) := by decide +kernel
theorem dL_law_1229 : decode cL_law 1229 = .ok (.iload 4, 2) := by decide +kernel
theorem dL_law_1231 : decode cL_law 1231 = .ok (.iconst 2, 1) := by decide +kernel
theorem dL_law_1232 : decode cL_law 1232 = .ok (.iadd, 1) := by decide +kernel
theorem dL_law_1233 : decode cL_law 1233 = .ok (.iaload, 1) := by decide +kernel
theorem dL_law_1234 : decode cL_law 1234 = .ok (.invokevirtual 130, 3) := by decide +kernel
theorem dL_law_1237 : decode cL_law 1237 = .ok (.istore 6, 2) := by decide +kernel
theorem dL_law_1239 : decode cL_law 1239 = .ok (.aload_n 2, 1) := by decide +kernel
theorem dL_law_1240 : decode cL_law 1240 = .ok (.invokevirtual 77, 3) := by decide +kernel
theorem dL_law_1243 : decode cL_law 1243 = .ok (.iload 5, 2) := by decide +kernel
theorem dL_law_1245 : decode cL_law 1245 = .ok (.if_icmp .eq 5, 3) := by decide +kernel
theorem dL_law_1248 : decode cL_law 1248 = .ok (.iconst 0, 1) := by decide +kernel
theorem dL_law_1249 : decode cL_law 1249 = .ok (.ireturn, 1) := by decide +kernel
theorem dL_law_1250 : decode cL_law 1250 = .ok (.iload 5, 2) := by decide +kernel
theorem dL_law_1252 : decode cL_law 1252 = .ok (.ifCond .ne 15, 3) := by decide +kernel
theorem dL_law_1255 : decode cL_law 1255 = .ok (.aload_n 3, 1) := by decide +kernel
theorem dL_law_1256 : decode cL_law 1256 = .ok (.iconst 0, 1) := by decide +kernel
theorem dL_law_1257 : decode cL_law 1257 = .ok (.laload, 1) := by decide +kernel
theorem dL_law_1258 : decode cL_law 1258 = .ok (.iload 6, 2) := by decide +kernel
theorem dL_law_1260 : decode cL_law 1260 = .ok (.i2l, 1) := by decide +kernel
theorem dL_law_1261 : decode cL_law 1261 = .ok (.lcmp, 1) := by decide +kernel
theorem dL_law_1262 : decode cL_law 1262 = .ok (.ifCond .eq 5, 3) := by decide +kernel
theorem dL_law_1265 : decode cL_law 1265 = .ok (.iconst 0, 1) := by decide +kernel
theorem dL_law_1266 : decode cL_law 1266 = .ok (.ireturn, 1) := by decide +kernel
theorem dL_law_1267 : decode cL_law 1267 = .ok (.goto 71, 3) := by decide +kernel
theorem dL_law_1270 : decode cL_law 1270 = .ok (.aload_n 1, 1) := by decide +kernel
theorem dL_law_1271 : decode cL_law 1271 = .ok (.aload_n 0, 1) := by decide +kernel
theorem dL_law_1272 : decode cL_law 1272 = .ok (.iload 4, 2) := by decide +kernel
theorem dL_law_1274 : decode cL_law 1274 = .ok (.iconst 1, 1) := by decide +kernel
theorem dL_law_1275 : decode cL_law 1275 = .ok (.iadd, 1) := by decide +kernel
theorem dL_law_1276 : decode cL_law 1276 = .ok (.iaload, 1) := by decide +kernel
theorem dL_law_1277 : decode cL_law 1277 = .ok (.aload_n 0, 1) := by decide +kernel
theorem dL_law_1278 : decode cL_law 1278 = .ok (.iload 4, 2) := by decide +kernel
theorem dL_law_1280 : decode cL_law 1280 = .ok (.iconst 2, 1) := by decide +kernel
theorem dL_law_1281 : decode cL_law 1281 = .ok (.iadd, 1) := by decide +kernel
theorem dL_law_1282 : decode cL_law 1282 = .ok (.iaload, 1) := by decide +kernel
theorem dL_law_1283 : decode cL_law 1283 = .ok (.aload_n 3, 1) := by decide +kernel
theorem dL_law_1284 : decode cL_law 1284 = .ok (.invokestatic 131, 3) := by decide +kernel
theorem dL_law_1287 : decode cL_law 1287 = .ok (.istore 5, 2) := by decide +kernel
theorem dL_law_1289 : decode cL_law 1289 = .ok (.aload_n 2, 1) := by decide +kernel
theorem dL_law_1290 : decode cL_law 1290 = .ok (.aload_n 0, 1) := by decide +kernel
theorem dL_law_1291 : decode cL_law 1291 = .ok (.iload 4, 2) := by decide +kernel
theorem dL_law_1293 : decode cL_law 1293 = .ok (.iconst 1, 1) := by decide +kernel
theorem dL_law_1294 : decode cL_law 1294 = .ok (.iadd, 1) := by decide +kernel
theorem dL_law_1295 : decode cL_law 1295 = .ok (.iaload, 1) := by decide +kernel
theorem dL_law_1296 : decode cL_law 1296 = .ok (.aload_n 0, 1) := by decide +kernel
theorem dL_law_1297 : decode cL_law 1297 = .ok (.iload 4, 2) := by decide +kernel
theorem dL_law_1299 : decode cL_law 1299 = .ok (.iconst 2, 1) := by decide +kernel
theorem dL_law_1300 : decode cL_law 1300 = .ok (.iadd, 1) := by decide +kernel
theorem dL_law_1301 : decode cL_law 1301 = .ok (.iaload, 1) := by decide +kernel
theorem dL_law_1302 : decode cL_law 1302 = .ok (.invokevirtual 133, 3) := by decide +kernel
theorem dL_law_1305 : decode cL_law 1305 = .ok (.istore 6, 2) := by decide +kernel
theorem dL_law_1307 : decode cL_law 1307 = .ok (.aload_n 2, 1) := by decide +kernel
theorem dL_law_1308 : decode cL_law 1308 = .ok (.invokevirtual 77, 3) := by decide +kernel
theorem dL_law_1311 : decode cL_law 1311 = .ok (.iload 5, 2) := by decide +kernel
theorem dL_law_1313 : decode cL_law 1313 = .ok (.if_icmp .eq 5, 3) := by decide +kernel
theorem dL_law_1316 : decode cL_law 1316 = .ok (.iconst 0, 1) := by decide +kernel
theorem dL_law_1317 : decode cL_law 1317 = .ok (.ireturn, 1) := by decide +kernel
theorem dL_law_1318 : decode cL_law 1318 = .ok (.iload 5, 2) := by decide +kernel
theorem dL_law_1320 : decode cL_law 1320 = .ok (.ifCond .ne 15, 3) := by decide +kernel
theorem dL_law_1323 : decode cL_law 1323 = .ok (.aload_n 3, 1) := by decide +kernel
theorem dL_law_1324 : decode cL_law 1324 = .ok (.iconst 0, 1) := by decide +kernel
theorem dL_law_1325 : decode cL_law 1325 = .ok (.laload, 1) := by decide +kernel
theorem dL_law_1326 : decode cL_law 1326 = .ok (.iload 6, 2) := by decide +kernel
theorem dL_law_1328 : decode cL_law 1328 = .ok (.i2l, 1) := by decide +kernel
theorem dL_law_1329 : decode cL_law 1329 = .ok (.lcmp, 1) := by decide +kernel
theorem dL_law_1330 : decode cL_law 1330 = .ok (.ifCond .eq 5, 3) := by decide +kernel
theorem dL_law_1333 : decode cL_law 1333 = .ok (.iconst 0, 1) := by decide +kernel
theorem dL_law_1334 : decode cL_law 1334 = .ok (.ireturn, 1) := by decide +kernel
theorem dL_law_1335 : decode cL_law 1335 = .ok (.goto 3, 3) := by decide +kernel
theorem dL_law_1338 : decode cL_law 1338 = .ok (.iinc 4 7, 3) := by decide +kernel
theorem dL_law_1341 : decode cL_law 1341 = .ok (.goto (-1318), 3) := by decide +kernel
theorem dL_law_1344 : decode cL_law 1344 = .ok (.iconst 1, 1) := by decide +kernel
theorem dL_law_1345 : decode cL_law 1345 = .ok (.ireturn, 1) := by decide +kernel
abbrev vwCl : List vw_C := [(RJx4a65c, TJx4a65c, 3), (RX0, TX0, 2), (RX1, TX1, 6), (RX2, TX2, 1), (RX3, TX3, 1), (RX4, TX4, 4), (RX5, TX5, 3), (RX6, TX6, 1), (RX8, TX8, 3), (RX9, TX9, 6), (RX10, TX10, 14)]
end
section
/-! the world as a map: which cell holds what, each with an owner's tag; one shape of contract for all methods -/
abbrev cx_G : Type := va_G × (ClassId × ClassId × ClassId) × (Heap × Nat)
def gD (G : cx_G) : va_G := G.1
def gI (G : cx_G) : ClassId := G.2.1.1
def gJ (G : cx_G) : ClassId := G.2.1.2.1
def gO (G : cx_G) : ClassId := G.2.1.2.2
def gH (G : cx_G) : Heap := G.2.2.1
def gd (G : cx_G) : Nat := G.2.2.2
def gT (G : cx_G) : List (ClassId × FieldType) := [(gI G, .int), (gJ G, .long), (gO G, .object "java/lang/Object")]
def gA (G : cx_G) : Nat → Prop := fun q => (gH G).size ≤ q
abbrev Wd : Type := Nat → Option (Nat × va_E)
abbrev eI (G : cx_G) (n : Nat) (f : Nat → Int32) : va_E := .inl (gI G, n, .inl f)
abbrev eJ (G : cx_G) (n : Nat) (f : Nat → Int64) : va_E := .inl (gJ G, n, .inr (.inl f))
abbrev eO (G : cx_G) (n : Nat) (f : Nat → Option Nat) : va_E := .inl (gO G, n, .inr (.inr (.inr (.inr f))))
abbrev wu (f : Wd) (a t : Nat) (e : va_E) : Wd := va_up f a (some (t, e))
def hp (G : cx_G) (f : Wd) (H : Heap) : Prop :=
  (∀ (a t : Nat) (e : va_E), f a = some (t, e) → va_at (gD G) vwCl (a, e) H) ∧
  (∀ (a t : Nat) (e : va_E), f a = some (t, e) → (t ≠ 9999 ∧ gA G a) ∨ (t = 9999 ∧ a = gd G)) ∧
  f (gd G) = some (9999, eO G 0 (fun _ => none)) ∧ gd G < (gH G).size ∧
  (gH G).size ≤ H.size ∧ ∀ q, q < (gH G).size → H[q]? = (gH G)[q]?
theorem wu_self (f : Wd) (a t : Nat) (e : va_E) : wu f a t e a = some (t, e) := va_up_self _ _ _
theorem wu_ne (f : Wd) {a b : Nat} (t : Nat) (e : va_E) (h : b ≠ a) : wu f a t e b = f b := va_up_ne _ _ h
theorem wu_get {f : Wd} {a b t t1 : Nat} {e e1 : va_E} {t2 : Nat} {e2 : va_E} (ha : f a = some (t2, e2)) (hb : f b = some (t1, e1)) (h : t1 ≠ t2) : wu f a t e b = some (t1, e1) := by
  rw [wu_ne]
  · exact hb
  · intro q
    subst q
    rw [ha] at hb
    cases hb
    exact h rfl
theorem wu_new {f : Wd} {a b t t1 : Nat} {e e1 : va_E} (ha : f a = none) (hb : f b = some (t1, e1)) : wu f a t e b = some (t1, e1) := by
  rw [wu_ne]
  · exact hb
  · intro q
    subst q
    rw [ha] at hb
    cases hb
/-- the world as a list -/
theorem hp.list {G : cx_G} {f : Wd} {H : Heap} (h : hp G f H) : ∃ ws : va_W, va_P (gD G) vwCl ws H ∧ va_D (gA G) ws ∧ (∀ (a t : Nat) (e : va_E), f a = some (t, e) → t ≠ 9999 → ∃ k, ws[k]? = some (a, e)) ∧ (∀ (k : Nat) (q : Nat × va_E), ws[k]? = some q → ∃ t, t ≠ 9999 ∧ f q.1 = some (t, q.2)) := by
  classical
  have key : ∀ (k : Nat) (q : Nat × va_E), (((List.range H.size).filter (fun a => decide (∃ t e, f a = some (t, e) ∧ t ≠ 9999))).map (fun a => (a, ((f a).getD (0, .inr (0, []))).2)))[k]? = some q → ((List.range H.size).filter (fun a => decide (∃ t e, f a = some (t, e) ∧ t ≠ 9999)))[k]? = some q.1 ∧ ∃ t, t ≠ 9999 ∧ f q.1 = some (t, q.2) := by
    intro k q hq
    rw [List.getElem?_map] at hq
    cases hk : ((List.range H.size).filter (fun a => decide (∃ t e, f a = some (t, e) ∧ t ≠ 9999)))[k]? with
    | none => rw [hk] at hq; cases hq
    | some a =>
      rw [hk] at hq
      have hm := List.mem_of_getElem? hk
      have hm2 := (List.mem_filter.mp hm).2
      simp only [decide_eq_true_eq] at hm2
      obtain ⟨t, e, h1, h2⟩ := hm2
      have e1 : q = (a, e) := by
        have := Option.some.inj hq
        rw [h1] at this
        exact this.symm
      subst e1
      exact ⟨rfl, t, h2, h1⟩
  refine ⟨((List.range H.size).filter (fun a => decide (∃ t e, f a = some (t, e) ∧ t ≠ 9999))).map (fun a => (a, ((f a).getD (0, .inr (0, []))).2)), fun k q hq => ?_, ⟨fun i j p q hi hj hpq => ?_, fun k q hq => ?_⟩, fun a t e ha ht => ?_, fun k q hq => (key k q hq).2⟩
  · obtain ⟨-, t, -, h2⟩ := key k q hq
    exact h.1 q.1 t q.2 h2
  · have h1 := (key i p hi).1
    have h2 := (key j q hj).1
    rw [hpq] at h1
    have hn : ((List.range H.size).filter (fun a => decide (∃ t e, f a = some (t, e) ∧ t ≠ 9999))).Nodup := List.Nodup.filter _ List.nodup_range
    obtain ⟨hi2, e1⟩ := List.getElem?_eq_some_iff.mp h1
    obtain ⟨hj2, e2⟩ := List.getElem?_eq_some_iff.mp h2
    exact (List.Nodup.getElem_inj_iff hn).mp (e1.trans e2.symm)
  · obtain ⟨-, t, h1, h2⟩ := key k q hq
    rcases h.2.1 q.1 t q.2 h2 with r | r
    · exact r.2
    · exact absurd r.1 h1
  · have hlt : a < H.size := (h.1 a t e ha).lt
    have hm : a ∈ (List.range H.size).filter (fun a => decide (∃ t e, f a = some (t, e) ∧ t ≠ 9999)) := List.mem_filter.mpr ⟨List.mem_range.mpr hlt, by simp only [decide_eq_true_eq]; exact ⟨t, e, ha, ht⟩⟩
    obtain ⟨k, hk⟩ := List.getElem?_of_mem hm
    refine ⟨k, ?_⟩
    rw [List.getElem?_map, hk]
    show some (a, ((f a).getD (0, .inr (0, []))).2) = _
    rw [ha]
    rfl
def cxB (G : cx_G) (s : State) : Prop := (gH G).size ≤ s.heap.size ∧ ∀ q, q < (gH G).size → s.heap[q]? = (gH G)[q]?
theorem cxB.kept {G : cx_G} {s : State} {H : Heap} {locs : List Loc} (B : cxB G s) (hS : va_S (gA G) s.heap H locs) : (gH G).size ≤ H.size ∧ ∀ q, q < (gH G).size → H[q]? = (gH G)[q]? :=
  ⟨Nat.le_trans B.1 hS.1, fun q hq => (hS.2.1 q (Nat.lt_of_lt_of_le hq B.1) (fun z => by have : (gH G).size ≤ q := z; omega)).trans (B.2 q hq)⟩
theorem hp.put {G : cx_G} {f : Wd} {s : State} {H H1 : Heap} {locs1 : List Loc} {ws : va_W} {a k t : Nat} {e e1 : va_E} (h : hp G f H) (B : cxB G s) (h3 : ∀ (a t : Nat) (e : va_E), f a = some (t, e) → t ≠ 9999 → ∃ k, ws[k]? = some (a, e)) (hk : ws[k]? = some (a, e)) (ha : f a = some (t, e)) (ht : t ≠ 9999) (hP1 : va_P (gD G) vwCl (ws.set k (a, e1)) H1) (hS1 : va_S (gA G) s.heap H1 locs1) : hp G (wu f a t e1) H1 := by
  have hl := (List.getElem?_eq_some_iff.mp hk).1
  have hB := B.kept hS1
  have hga : gA G a := by
    rcases h.2.1 a t e ha with r | r
    · exact r.2
    · exact absurd r.1 ht
  have hgd : gd G ≠ a := fun q => by
    have h4 := h.2.2.2.1
    rw [q] at h4
    have : (gH G).size ≤ a := hga
    omega
  refine ⟨fun b t2 e2 hb => ?_, fun b t2 e2 hb => ?_, ?_, h.2.2.2.1, hB.1, hB.2⟩
  · by_cases hba : b = a
    · subst hba
      rw [wu_self] at hb
      cases hb
      exact hP1 k (b, e1) (List.getElem?_set_self hl)
    · rw [wu_ne _ _ _ hba] at hb
      rcases h.2.1 b t2 e2 hb with r | r
      · obtain ⟨j, hj⟩ := h3 b t2 e2 hb r.1
        have hjk : j ≠ k := fun q => by
          subst q
          rw [hk] at hj
          cases hj
          exact hba rfl
        exact hP1 j (b, e2) (by rw [List.getElem?_set_ne (Ne.symm hjk)]; exact hj)
      · have h4 := h.2.2.2.1
        rw [← r.2] at h4
        exact (h.1 b t2 e2 hb).kept ((hB.2 b h4).trans (h.2.2.2.2.2 b h4).symm)
  · by_cases hba : b = a
    · subst hba
      rw [wu_self] at hb
      cases hb
      exact Or.inl ⟨ht, hga⟩
    · rw [wu_ne _ _ _ hba] at hb
      exact h.2.1 b t2 e2 hb
  · rw [wu_ne _ _ _ hgd]
    exact h.2.2.1
theorem hp.push {G : cx_G} {f : Wd} {s : State} {H H1 : Heap} {locs1 : List Loc} {ws : va_W} {q t : Nat} {e : va_E} (h : hp G f H) (B : cxB G s) (h3 : ∀ (a t : Nat) (e : va_E), f a = some (t, e) → t ≠ 9999 → ∃ k, ws[k]? = some (a, e)) (ht : t ≠ 9999) (hP1 : va_P (gD G) vwCl (ws ++ [(q, e)]) H1) (hD1 : va_D (gA G) (ws ++ [(q, e)])) (hS1 : va_S (gA G) s.heap H1 locs1) : f q = none ∧ hp G (wu f q t e) H1 := by
  have hB := B.kept hS1
  have hlast : (ws ++ [(q, e)])[ws.length]? = some (q, e) := by rw [List.getElem?_append_right (Nat.le_refl _), Nat.sub_self]; rfl
  have hq : gA G q := hD1.2 _ _ hlast
  have hgd : gd G ≠ q := fun z => by
    have h4 := h.2.2.2.1
    rw [z] at h4
    have : (gH G).size ≤ q := hq
    omega
  have hn : f q = none := by
    cases hfq : f q with
    | none => rfl
    | some x =>
      obtain ⟨t1, e1⟩ := x
      exfalso
      rcases h.2.1 q t1 e1 hfq with r | r
      · obtain ⟨j, hj⟩ := h3 q t1 e1 hfq r.1
        have hjl := (List.getElem?_eq_some_iff.mp hj).1
        have := hD1.1 j ws.length (q, e1) (q, e) (by rw [List.getElem?_append_left hjl]; exact hj) hlast rfl
        omega
      · exact hgd r.2.symm
  refine ⟨hn, fun b t2 e2 hb => ?_, fun b t2 e2 hb => ?_, ?_, h.2.2.2.1, hB.1, hB.2⟩
  · by_cases hba : b = q
    · subst hba
      rw [wu_self] at hb
      cases hb
      exact hP1 _ _ hlast
    · rw [wu_ne _ _ _ hba] at hb
      rcases h.2.1 b t2 e2 hb with r | r
      · obtain ⟨j, hj⟩ := h3 b t2 e2 hb r.1
        have hjl := (List.getElem?_eq_some_iff.mp hj).1
        exact hP1 j (b, e2) (by rw [List.getElem?_append_left hjl]; exact hj)
      · have h4 := h.2.2.2.1
        rw [← r.2] at h4
        exact (h.1 b t2 e2 hb).kept ((hB.2 b h4).trans (h.2.2.2.2.2 b h4).symm)
  · by_cases hba : b = q
    · subst hba
      rw [wu_self] at hb
      cases hb
      exact Or.inl ⟨ht, hq⟩
    · rw [wu_ne _ _ _ hba] at hb
      exact h.2.1 b t2 e2 hb
  · rw [wu_ne _ _ _ hgd]
    exact h.2.2.1
theorem hp.one {G : cx_G} {f : Wd} {H : Heap} {a t : Nat} {e : va_E} (h : hp G f H) (ha : f a = some (t, e)) : va_P (gD G) vwCl [(a, e)] H := by
  intro k q hk
  have hz : k < 1 := (List.getElem?_eq_some_iff.mp hk).1
  rw [show k = 0 by omega] at hk
  cases hk
  exact h.1 a t e ha
theorem hp.base {G : cx_G} {f : Wd} {s : State} (h : hp G f s.heap) : cxB G s := ⟨h.2.2.2.2.1, h.2.2.2.2.2⟩
/-- what the tables and the old cells say, in all states alike -/
def yc (C T : String) (U : State) : Prop := ∃ c t : ClassId, U.vm.findClass C = some c ∧ U.vm.findClass T = some t ∧ U.vm.assignable c t = true
theorem yc.moved {C T : String} {u U : State} (hvm : u.vm.Alike U.vm) (h : yc C T u) : yc C T U := by
  obtain ⟨c, t, h1, h2, h3⟩ := h
  exact ⟨c, t, by rw [hvm.findClass]; exact h1, by rw [hvm.findClass]; exact h2, by rw [hvm.assignable]; exact h3⟩
theorem yc.nw {C T : String} {U : State} (h : yc C T U) : va_Nw (.castable C T) U := by
  obtain ⟨c, t, h1, h2, h3⟩ := h
  simp [va_Nw, Cond.before, Cond.holds, Cond.value, h1, h2, h3]
theorem yc.of {args : Array Value} {C T : String} {U : State} (h : (Cond.castable C T).before args U = true) : yc C T U := by
  obtain ⟨c, t, h1, h2, h3⟩ := Cond.castable_spec h
  exact ⟨c, t, h1, h2, h3⟩
def gS : List (Nat × String) := [(247, "no such cell"), (256, "out of range"), (261, "there would be more than 200 craters"), (259, "the field goes to less than where it begins"), (263, "100 floods and softenings were told"), (123, "there are 6 eyes"), (144, "there are 8 anchors, or it has not more of both than the last"), (252, "no such eye"), (168, "there is no age"), (250, "no such crater")]
def gY : List (String × String) := [("Craterclock$Anchor", "java/lang/Object"), ("Craterclock$Crater", "java/lang/Object"), ("Craterclock$Eye", "java/lang/Object"), ("Craterclock$Flood", "java/lang/Object"), ("Craterclock$Softening", "java/lang/Object"), ("Craterclock$Flood", "Craterclock$Lessening"), ("Craterclock$Softening", "Craterclock$Lessening"), ("[I", "java/lang/Cloneable"), ("java/lang/IndexOutOfBoundsException", "java/lang/IndexOutOfBoundsException"), ("java/lang/IllegalArgumentException", "java/lang/IllegalArgumentException"), ("java/lang/IllegalStateException", "java/lang/IllegalStateException")]
def gN : List (String × String) := [("java/lang/IllegalArgumentException", "java/lang/IndexOutOfBoundsException"), ("java/lang/IllegalStateException", "java/lang/IndexOutOfBoundsException"), ("java/lang/IndexOutOfBoundsException", "java/lang/IllegalArgumentException"), ("java/lang/IllegalStateException", "java/lang/IllegalArgumentException"), ("java/lang/IndexOutOfBoundsException", "java/lang/IllegalStateException"), ("java/lang/IllegalArgumentException", "java/lang/IllegalStateException")]
def gk (G : cx_G) (U : State) : Prop :=
  va_K (gD G) vwCl (gT G) U ∧ va_Z "java/util/ArrayList" "DEFAULTCAPACITY_EMPTY_ELEMENTDATA" "[Ljava/lang/Object;" (.ref (gd G)) (gA G) U (gH G) ∧
  vx_Zq Bundle.tN "UNASSIGNED_STACK" Bundle.steD (gA G) U (gH G) ∧ vx_Zq Bundle.tN "SUPPRESSED_SENTINEL" Bundle.listD (gA G) U (gH G) ∧
  (∀ q ∈ gS, ∃ sa, vk_R "Craterclock" q.1 q.2 sa U) ∧ (∀ q ∈ gY, yc q.1 q.2 U) ∧ (∀ q ∈ gN, va_Nc q.1 q.2 U) ∧ va_AO "java/lang/Object" U ∧ (∃ mi, va_Mi "[Ljava/lang/Object;" mi U) ∧ va_Dc U
theorem gk.to {G : cx_G} {s U : State} (h : gk G s) (ha : s.vm.Alike U.vm) (hs : ∀ (k : Nat) (tx : String) (sa : Nat), vk_R "Craterclock" k tx sa s → vk_R "Craterclock" k tx sa U) : gk G U := by
  obtain ⟨h1, h2, h3, h4, h5, h6, h7, h8, ⟨mi, h9⟩, h10⟩ := h
  exact ⟨va_K.moved ha h1, va_Z.moved ha h2, vx_Zq.moved ha h3, vx_Zq.moved ha h4, fun q hq => by obtain ⟨sa, h⟩ := h5 q hq; exact ⟨sa, hs _ _ _ h⟩, fun q hq => yc.moved ha (h6 q hq), fun q hq => va_Nc.moved ha (h7 q hq), va_AO.moved ha h8, ⟨mi, va_Mi.moved ha h9⟩, va_Dc.moved ha h10⟩
theorem gk.warm {G : cx_G} {s U : State} (hW : s.WarmedH U.vm) (h : gk G s) : gk G U := h.to hW.alike (fun _ _ _ q => vk_R.warm hW q)
theorem gk.call {G : cx_G} {U : State} (g : JFrame) (mk : MethodId) (a : Array Value) (h : gk G U) : gk G (U.calling g mk a) := gk.to (U := U.calling g mk a) h (Vm.Alike.refl U.vm) (fun _ _ _ q => vk_R.same (U := U.calling g mk a) (u := U) rfl q)
def Pin (G : cx_G) (f : Wd) : State → Prop := fun U => hp G f U.heap ∧ gk G U
abbrev MI (l : Launch) (G : cx_G) (y : MethodName) (ws : List Cond) (fr lo mc ms : Nat) (as : List Value) (f : Wd) (Φ : Int32 → Wd → Prop) : Prop :=
  Met l y ws { frames := fr, cells := mc, slots := ms, locals := lo } (va_Pc as (Pin G f)) (va_Qi Φ (fun f' t => hp G f' t.heap) (gA G)) mc ms (gA G)
abbrev ML (l : Launch) (G : cx_G) (y : MethodName) (ws : List Cond) (fr lo mc ms : Nat) (as : List Value) (f : Wd) (Φ : Int64 → Wd → Prop) : Prop :=
  Met l y ws { frames := fr, cells := mc, slots := ms, locals := lo } (va_Pc as (Pin G f)) (va_Ql Φ (fun f' t => hp G f' t.heap) (gA G)) mc ms (gA G)
abbrev MV (l : Launch) (G : cx_G) (y : MethodName) (ws : List Cond) (fr lo mc ms : Nat) (as : List Value) (f : Wd) (Φ : Wd → Prop) : Prop :=
  Met l y ws { frames := fr, cells := mc, slots := ms, locals := lo } (va_Pc as (Pin G f)) (va_Qv Φ (fun f' t => hp G f' t.heap) (gA G)) mc ms (gA G)
abbrev MR (l : Launch) (G : cx_G) (y : MethodName) (ws : List Cond) (fr lo mc ms : Nat) (as : List Value) (f : Wd) (Φ : Nat → Wd → Prop) : Prop :=
  Met l y ws { frames := fr, cells := mc, slots := ms, locals := lo } (va_Pc as (Pin G f)) (va_Qr (fun u : Nat × Wd => Φ u.1 u.2) (fun u a t => a = u.1 ∧ hp G u.2 t.heap) (gA G)) mc ms (gA G)
/-- what a body knows -/
def cxC (G : cx_G) (p : Program) (l : Launch) (R : Room) (c : Code) (cc : ByteArray) (nL : Nat) (m : MethodId) (meth : Method) (s : State) (args : Array Value) (own : String) (Ts : List Cond) : Prop :=
  p.tables.exec = Jvm.exec ∧ c.code = cc ∧ c.maxLocals = nL ∧ s.vm.findClass own = some m.cls ∧ (∀ w ∈ Ts, w.before args s = true) ∧ gk G s ∧ cxB G s ∧ meth.locks = false
def cxS (G : cx_G) (s : State) (f : Wd) (H : Heap) (locs : List Loc) : Prop := hp G f H ∧ va_S (gA G) s.heap H locs
theorem Pin.blind {G : cx_G} {f : Wd} {as : List Value} : FrameBlind (va_Pc as (Pin G f)) := fun a U g mk q => ⟨q.1, q.2.1, gk.call g mk a q.2.2⟩
theorem cx_body {l : Launch} {G : cx_G} {y : MethodName} {ws : List Cond} {rm : Room} {as : List Value} {f : Wd} {cc : ByteArray} {n : Nat} {ret : Option FieldType} {Q : Array Value → State → Outcome → State → Prop} {mc ms : Nat} {ws' : List Cond}
    (hy : plainName y.cls = true) (hw : ws = Cond.code y cc n ret :: ws') (hn : (lg_sl as).length ≤ n)
    (body : ∀ (p : Program) (e : Env) (s : State) (m : MethodId) (below : List Frame) (meth : Method) (c : Code) (ls : Array Slot), cxC G p l rm c cc n m meth s as.toArray y.cls ws → meth.sig.returnType = ret → meth.name = y.name → cxS G s f s.heap [] → lv_has ls n (lv_args 0 as) →
      W p l e rm s m as.toArray below meth c s.heap [] 0 0 (MQ below Q as.toArray s mc ms (gA G)) (F0 m 0 ls [])) :
    Met l y ws rm (va_Pc as (Pin G f)) Q mc ms (gA G) := by
  refine Met.ofW (cc := cc) (maxL := n) (ret := ret) hy hw ?_
  intro p e s m args below meth c s₁ B hml hv
  obtain ⟨rfl, hP, hK⟩ := hv
  have hts := atoms_spec (ws := ws) B.pre
  have hl := lv_entry as (n := n) hn
  rw [lg_entry_eq]
  generalize (lg_sl as ++ List.replicate (n - (lg_sl as).length) Slot.unset).toArray = ls at hl ⊢
  exact body p e s m below meth c ls ⟨B.exec, B.bytes, hml, findClass_of_methodNamed B.named, hts, hK, hP.base, B.notSynchronized⟩ B.returns (name_of_methodNamed B.named B.method).1 ⟨hP, va_S.rf⟩ hl
end
section
/-! an instruction, a row, over the world as a map -/
section CXR
variable {G : cx_G} {p : Program} {l : Launch} {e : Env} {R : Room} {s : State} {m : MethodId} {args : Array Value} {below : List Frame} {meth : Method} {c : Code} {H : Heap} {locs : List Loc} {cells slots : Nat} {Q : State → Prop}
variable {cc : ByteArray} {nL : Nat} {own : String} {Ts : List Cond} {pc : Nat} {ls : Array Slot} {rest : List Value} {f : Wd} {a t : Nat}
theorem r_get (X : cxC G p l R c cc nL m meth s args own Ts) (S : cxS G s f H locs) {ref C : String} {T : u_T} {N ci index : Nat} (hin : ∀ w ∈ u_ws C T N, w ∈ Ts) {fs : List Value} (ha : f a = some (t, .inr (ci, fs))) (hc : vwCl[ci]? = some (C, T, N)) (k : Nat) (hk : k < N) (hlink : Cond.fieldLink own index ref (T k).2.1 (T k).2.2.1 ∈ Ts)
    (hsame : ∀ x, s.fieldFound? (T k).1 (T k).2.1 (T k).2.2.1 = some x → s.fieldFound? ref (T k).2.1 (T k).2.2.1 = some x) {v : Value} (hv : fs[k]? = some v) (hdg : decode cc pc = .ok (.getfield index, 3))
    (kk : W p l e R s m args below meth c H locs cells slots Q (F0 m (pc + 3) ls (v :: rest))) : W p l e R s m args below meth c H locs cells slots Q (F0 m pc ls (.ref a :: rest)) :=
  va_get X.1 X.2.1 X.2.2.2.2.1 hin X.2.2.2.1 X.2.2.2.2.2.1.1 (S.1.one ha) 0 rfl hc k hk (X.2.2.2.2.1 _ hlink) hsame hv hdg kk
theorem r_put (X : cxC G p l R c cc nL m meth s args own Ts) (S : cxS G s f H locs) {ref C : String} {T : u_T} {N ci index : Nat} (hin : ∀ w ∈ u_ws C T N, w ∈ Ts) (ty0 : Nat → FieldType) (hty : ∀ k, k < N → parseFieldDescriptor (T k).2.2.1 = some (ty0 k)) (hnm : ∀ a, a < N → ∀ b, b < N → a ≠ b → (T a).2.1 ≠ (T b).2.1) {fs fs' : List Value} (ha : f a = some (t, .inr (ci, fs))) (ht : t ≠ 9999) (hc : vwCl[ci]? = some (C, T, N)) (k : Nat) (hk : k < N) (hlink : Cond.fieldLink own index ref (T k).2.1 (T k).2.2.1 ∈ Ts)
    (hsame : ∀ x, s.fieldFound? (T k).1 (T k).2.1 (T k).2.2.1 = some x → s.fieldFound? ref (T k).2.1 (T k).2.2.1 = some x) (hfin : (T k).2.2.2 = false) {ty : FieldType} {v : Value} (hd : parseFieldDescriptor (T k).2.2.1 = some ty) (hn : narrow ty v = v) (hfit : fits ty v = true) (hl : k < fs.length) (hfs : fs.set k v = fs') (hdg : decode cc pc = .ok (.putfield index, 3))
    (kk : ∀ (H : Heap) (locs : List Loc), cxS G s (wu f a t (.inr (ci, fs'))) H locs → W p l e R s m args below meth c H locs cells slots Q (F0 m (pc + 3) ls rest)) : W p l e R s m args below meth c H locs cells slots Q (F0 m pc ls (v :: .ref a :: rest)) := by
  subst hfs
  obtain ⟨ws, hP, hD, h3, -⟩ := S.1.list
  obtain ⟨q0, hq⟩ := h3 a t _ ha ht
  exact va_put X.1 X.2.1 X.2.2.2.2.1 hin ty0 hty hnm X.2.2.2.1 X.2.2.2.2.2.1.1 hP hD S.2 q0 hq hc k hk (X.2.2.2.2.1 _ hlink) hsame hfin hd hn hfit hl hdg (fun H1 locs1 hP1 _ hS1 => kk H1 locs1 ⟨S.1.put X.2.2.2.2.2.2.1 h3 hq ha ht hP1 hS1, hS1⟩)
theorem r_putF (X : cxC G p l R c cc nL m meth s args own Ts) (S : cxS G s f H locs) {ref C : String} {T : u_T} {N ci index : Nat} (hin : ∀ w ∈ u_ws C T N, w ∈ Ts) (ty0 : Nat → FieldType) (hty : ∀ k, k < N → parseFieldDescriptor (T k).2.2.1 = some (ty0 k)) (hnm : ∀ a, a < N → ∀ b, b < N → a ≠ b → (T a).2.1 ≠ (T b).2.1) {fs fs' : List Value} (ha : f a = some (t, .inr (ci, fs))) (ht : t ≠ 9999) (hc : vwCl[ci]? = some (C, T, N)) (k : Nat) (hk : k < N) (hlink : Cond.fieldLink own index ref (T k).2.1 (T k).2.2.1 ∈ Ts)
    (hsame : ∀ x, s.fieldFound? (T k).1 (T k).2.1 (T k).2.2.1 = some x → s.fieldFound? ref (T k).2.1 (T k).2.2.1 = some x) (hfin : (T k).2.2.2 = true) (hin2 : meth.name = "<init>") (hdecl : (T k).1 = own) {ty : FieldType} {v : Value} (hd : parseFieldDescriptor (T k).2.2.1 = some ty) (hn : narrow ty v = v) (hfit : fits ty v = true) (hl : k < fs.length) (hfs : fs.set k v = fs') (hdg : decode cc pc = .ok (.putfield index, 3))
    (kk : ∀ (H : Heap) (locs : List Loc), cxS G s (wu f a t (.inr (ci, fs'))) H locs → W p l e R s m args below meth c H locs cells slots Q (F0 m (pc + 3) ls rest)) : W p l e R s m args below meth c H locs cells slots Q (F0 m pc ls (v :: .ref a :: rest)) := by
  subst hfs
  obtain ⟨ws, hP, hD, h3, -⟩ := S.1.list
  obtain ⟨q0, hq⟩ := h3 a t _ ha ht
  exact va_putF X.1 X.2.1 X.2.2.2.2.1 hin ty0 hty hnm X.2.2.2.1 X.2.2.2.2.2.1.1 hP hD S.2 q0 hq hc k hk (X.2.2.2.2.1 _ hlink) hsame hfin hin2 hdecl hd hn hfit hl hdg (fun H1 locs1 hP1 _ hS1 => kk H1 locs1 ⟨S.1.put X.2.2.2.2.2.2.1 h3 hq ha ht hP1 hS1, hS1⟩)
theorem r_iald (X : cxC G p l R c cc nL m meth s args own Ts) (S : cxS G s f H locs) {n : Nat} {f0 : Nat → Int32} (ha : f a = some (t, eI G n f0)) {i : Int32} {v : Int32} (hin : vp_in i n) (hv : f0 i.toNatClampNeg = v) (hdg : decode cc pc = .ok (.iaload, 1))
    (kk : W p l e R s m args below meth c H locs cells slots Q (F0 m (pc + 1) ls (.int v :: rest))) : W p l e R s m args below meth c H locs cells slots Q (F0 m pc ls (.int i :: .ref a :: rest)) := by
  subst hv
  exact va_iald X.1 X.2.1 X.2.2.2.2.2.1.1 (S.1.one ha) 0 0 rfl rfl hin hdg kk
theorem r_lald (X : cxC G p l R c cc nL m meth s args own Ts) (S : cxS G s f H locs) {n : Nat} {f0 : Nat → Int64} (ha : f a = some (t, eJ G n f0)) {i : Int32} {v : Int64} (hin : vp_in i n) (hv : f0 i.toNatClampNeg = v) (hdg : decode cc pc = .ok (.laload, 1))
    (kk : W p l e R s m args below meth c H locs cells slots Q (F0 m (pc + 1) ls (.long v :: rest))) : W p l e R s m args below meth c H locs cells slots Q (F0 m pc ls (.int i :: .ref a :: rest)) := by
  subst hv
  exact va_lald X.1 X.2.1 X.2.2.2.2.2.1.1 (S.1.one ha) 0 1 rfl rfl hin hdg kk
theorem r_aald (X : cxC G p l R c cc nL m meth s args own Ts) (S : cxS G s f H locs) {n : Nat} {f0 : Nat → Option Nat} (ha : f a = some (t, eO G n f0)) {i : Int32} {v : Nat} (hin : vp_in i n) (hv : f0 i.toNatClampNeg = some v) (hdg : decode cc pc = .ok (.aaload, 1))
    (kk : W p l e R s m args below meth c H locs cells slots Q (F0 m (pc + 1) ls (.ref v :: rest))) : W p l e R s m args below meth c H locs cells slots Q (F0 m pc ls (.int i :: .ref a :: rest)) := by
  refine va_aldq X.1 X.2.1 X.2.2.2.2.2.1.1 (S.1.one ha) 0 2 rfl rfl hin hdg ?_
  rw [hv]
  exact kk
theorem r_alenI (X : cxC G p l R c cc nL m meth s args own Ts) (S : cxS G s f H locs) {n : Nat} {f0 : Nat → Int32} (ha : f a = some (t, eI G n f0)) {v : Int32} (hv : Int32.ofNat n = v) (hdg : decode cc pc = .ok (.arraylength, 1))
    (kk : W p l e R s m args below meth c H locs cells slots Q (F0 m (pc + 1) ls (.int v :: rest))) : W p l e R s m args below meth c H locs cells slots Q (F0 m pc ls (.ref a :: rest)) :=
  va_alen X.1 X.2.1 X.2.2.2.2.2.1.1 (S.1.one ha) 0 0 rfl rfl hv hdg kk
theorem r_alenO (X : cxC G p l R c cc nL m meth s args own Ts) (S : cxS G s f H locs) {n : Nat} {f0 : Nat → Option Nat} (ha : f a = some (t, eO G n f0)) {v : Int32} (hv : Int32.ofNat n = v) (hdg : decode cc pc = .ok (.arraylength, 1))
    (kk : W p l e R s m args below meth c H locs cells slots Q (F0 m (pc + 1) ls (.int v :: rest))) : W p l e R s m args below meth c H locs cells slots Q (F0 m pc ls (.ref a :: rest)) :=
  va_alen X.1 X.2.1 X.2.2.2.2.2.1.1 (S.1.one ha) 0 2 rfl rfl hv hdg kk
theorem r_iast (X : cxC G p l R c cc nL m meth s args own Ts) (S : cxS G s f H locs) {n : Nat} {f0 : Nat → Int32} (ha : f a = some (t, eI G n f0)) (ht : t ≠ 9999) {i x : Int32} (hin : vp_in i n) (hdg : decode cc pc = .ok (.iastore, 1))
    (kk : ∀ (H : Heap) (locs : List Loc), cxS G s (wu f a t (eI G n (upd f0 i.toNatClampNeg x))) H locs → W p l e R s m args below meth c H locs cells slots Q (F0 m (pc + 1) ls rest)) : W p l e R s m args below meth c H locs cells slots Q (F0 m pc ls (.int x :: .int i :: .ref a :: rest)) := by
  obtain ⟨ws, hP, hD, h3, -⟩ := S.1.list
  obtain ⟨q0, hq⟩ := h3 a t _ ha ht
  exact va_iast X.1 X.2.1 X.2.2.2.2.2.1.1 hP hD S.2 q0 0 hq rfl hin hdg (fun H1 locs1 hP1 _ hS1 => kk H1 locs1 ⟨S.1.put X.2.2.2.2.2.2.1 h3 hq ha ht hP1 hS1, hS1⟩)
theorem r_last (X : cxC G p l R c cc nL m meth s args own Ts) (S : cxS G s f H locs) {n : Nat} {f0 : Nat → Int64} (ha : f a = some (t, eJ G n f0)) (ht : t ≠ 9999) {i : Int32} {x : Int64} (hin : vp_in i n) (hdg : decode cc pc = .ok (.lastore, 1))
    (kk : ∀ (H : Heap) (locs : List Loc), cxS G s (wu f a t (eJ G n (vp_updL f0 i.toNatClampNeg x))) H locs → W p l e R s m args below meth c H locs cells slots Q (F0 m (pc + 1) ls rest)) : W p l e R s m args below meth c H locs cells slots Q (F0 m pc ls (.long x :: .int i :: .ref a :: rest)) := by
  obtain ⟨ws, hP, hD, h3, -⟩ := S.1.list
  obtain ⟨q0, hq⟩ := h3 a t _ ha ht
  exact va_last X.1 X.2.1 X.2.2.2.2.2.1.1 hP hD S.2 q0 1 hq rfl hin hdg (fun H1 locs1 hP1 _ hS1 => kk H1 locs1 ⟨S.1.put X.2.2.2.2.2.2.1 h3 hq ha ht hP1 hS1, hS1⟩)
theorem r_aast (X : cxC G p l R c cc nL m meth s args own Ts) (S : cxS G s f H locs) {n : Nat} {f0 : Nat → Option Nat} (ha : f a = some (t, eO G n f0)) (ht : t ≠ 9999) {i : Int32} {v tv ci : Nat} {r : vw_C} {vs : List Value} (hv : f v = some (tv, .inr (ci, vs))) (hc : vwCl[ci]? = some r) (hca : (r.1, "java/lang/Object") ∈ gY) (hin : vp_in i n) (hdg : decode cc pc = .ok (.aastore, 1))
    (kk : ∀ (H : Heap) (locs : List Loc), cxS G s (wu f a t (eO G n (va_up f0 i.toNatClampNeg (some v)))) H locs → W p l e R s m args below meth c H locs cells slots Q (F0 m (pc + 1) ls rest)) : W p l e R s m args below meth c H locs cells slots Q (F0 m pc ls (.ref v :: .int i :: .ref a :: rest)) := by
  obtain ⟨ws, hP, hD, h3, -⟩ := S.1.list
  obtain ⟨q0, hq⟩ := h3 a t _ ha ht
  have hcY := (X.2.2.2.2.2.1.2.2.2.2.2.1 _ hca).nw
  refine va_astqM (E := "java/lang/Object") X.1 X.2.1 X.2.2.2.2.2.1.1 hP hD S.2 q0 2 hq rfl (va_rAny X.2.2.2.2.2.1.1 (S.1.one hv) (q0 := 0) rfl hc ?_) hin hdg (fun H1 locs1 hP1 _ hS1 => kk H1 locs1 ⟨S.1.put X.2.2.2.2.2.2.1 h3 hq ha ht hP1 hS1, hS1⟩)
  intro comp c0 h1 h2
  obtain ⟨c1, t1, f1, f2, f3⟩ := X.2.2.2.2.2.1.2.2.2.2.2.1 _ hca
  cases h1.symm.trans f2
  cases h2.symm.trans f1
  exact f3
theorem r_new (X : cxC G p l R c cc nL m meth s args own Ts) (S : cxS G s f H locs) (tg : Nat) (htg : tg ≠ 9999) {C : String} {T : u_T} {N ci index : Nat} (hin : ∀ w ∈ u_ws C T N, w ∈ Ts) (ty : Nat → FieldType) (hty : ∀ k, k < N → parseFieldDescriptor (T k).2.2.1 = some (ty k)) (hcl : Cond.classLink own index C ∈ Ts) (hinst : Cond.instantiable C N ∈ Ts) (hini : Cond.initialized C ∈ Ts) (hc : vwCl[ci]? = some (C, T, N)) {fs : List Value} (hfs : ∀ j, j < N → defaultValue (ty j) = vp_V fs j) (hcells : cells + 1 ≤ R.cells) (hslots : slots + N ≤ R.slots) (hdg : decode cc pc = .ok (.new index, 3))
    (kk : ∀ (q : Nat) (H : Heap), f q = none → cxS G s (wu f q tg (.inr (ci, fs))) H locs → W p l e R s m args below meth c H locs (cells + 1) (slots + N) Q (F0 m (pc + 3) ls (.ref q :: rest))) : W p l e R s m args below meth c H locs cells slots Q (F0 m pc ls rest) := by
  obtain ⟨ws, hP, hD, h3, -⟩ := S.1.list
  exact va_new X.1 X.2.1 X.2.2.2.2.1 hin ty hty X.2.2.2.1 (X.2.2.2.2.1 _ hcl) (X.2.2.2.2.1 _ hinst) (X.2.2.2.2.1 _ hini) X.2.2.2.2.2.1.1 hP hD S.2 (fun q hq => Nat.le_trans X.2.2.2.2.2.2.1.1 hq) hc hfs hcells hslots hdg (fun q H1 hP1 hD1 hS1 => by
    obtain ⟨r1, r2⟩ := S.1.push X.2.2.2.2.2.2.1 h3 htg hP1 hD1 hS1
    exact kk q H1 r1 ⟨r2, hS1⟩)
theorem cx_RAeq {U : State} {c1 c2 : ClassId} {ty : FieldType} (h1 : va_RA U c1 ty) (h2 : va_RA U c2 ty) : c1 = c2 := by
  cases ty with
  | object C =>
    obtain ⟨_, _, _, _, _, a1⟩ := h1
    obtain ⟨_, _, _, _, _, a2⟩ := h2
    exact Option.some.inj (a1.symm.trans a2)
  | _ => exact Option.some.inj ((show U.vm.findClass _ = some c1 from h1).symm.trans (show U.vm.findClass _ = some c2 from h2))
theorem r_newI (X : cxC G p l R c cc nL m meth s args own Ts) (S : cxS G s f H locs) (tg : Nat) (htg : tg ≠ 9999) (harr : Cond.arrayClass .int ∈ Ts) {n : Int32} {N' : Nat} (hn : ¬ n < 0) (hN : n.toNatClampNeg = N') (hbytes : N' * 4 ≤ 536870912) (hcells : cells + 1 ≤ R.cells) (hslots : slots + N' ≤ R.slots) (hdg : decode cc pc = .ok (.newarray .int, 2))
    (kk : ∀ (q : Nat) (H : Heap), f q = none → cxS G s (wu f q tg (eI G N' (fun _ => 0))) H locs → W p l e R s m args below meth c H locs (cells + 1) (slots + N') Q (F0 m (pc + 2) ls (.ref q :: rest))) : W p l e R s m args below meth c H locs cells slots Q (F0 m pc ls (.int n :: rest)) := by
  obtain ⟨ws, hP, hD, h3, -⟩ := S.1.list
  refine va_newa (atype := .int) (ty := .int) (a0 := (N', .inl (fun _ => 0))) X.1 X.2.1 (X.2.2.2.2.1 _ harr) rfl X.2.2.2.2.2.1.1 hP hD S.2 (fun q hq => Nat.le_trans X.2.2.2.2.2.2.1.1 hq) (fun _ => rfl) hn hN hbytes hcells hslots hdg (fun q cA H1 hK1 hP1 hD1 hS1 => ?_)
  have e1 : cA = gI G := cx_RAeq (hK1.2 3 (cA, .int) rfl).2 (hK1.2 0 (gI G, .int) rfl).2
  subst e1
  obtain ⟨r1, r2⟩ := S.1.push X.2.2.2.2.2.2.1 h3 htg hP1 hD1 hS1
  exact kk q H1 r1 ⟨r2, hS1⟩
theorem r_newJ (X : cxC G p l R c cc nL m meth s args own Ts) (S : cxS G s f H locs) (tg : Nat) (htg : tg ≠ 9999) (harr : Cond.arrayClass .long ∈ Ts) {n : Int32} {N' : Nat} (hn : ¬ n < 0) (hN : n.toNatClampNeg = N') (hbytes : N' * 8 ≤ 536870912) (hcells : cells + 1 ≤ R.cells) (hslots : slots + N' ≤ R.slots) (hdg : decode cc pc = .ok (.newarray .long, 2))
    (kk : ∀ (q : Nat) (H : Heap), f q = none → cxS G s (wu f q tg (eJ G N' (fun _ => 0))) H locs → W p l e R s m args below meth c H locs (cells + 1) (slots + N') Q (F0 m (pc + 2) ls (.ref q :: rest))) : W p l e R s m args below meth c H locs cells slots Q (F0 m pc ls (.int n :: rest)) := by
  obtain ⟨ws, hP, hD, h3, -⟩ := S.1.list
  refine va_newa (atype := .long) (ty := .long) (a0 := (N', .inr (.inl (fun _ => 0)))) X.1 X.2.1 (X.2.2.2.2.1 _ harr) rfl X.2.2.2.2.2.1.1 hP hD S.2 (fun q hq => Nat.le_trans X.2.2.2.2.2.2.1.1 hq) (fun _ => rfl) hn hN hbytes hcells hslots hdg (fun q cA H1 hK1 hP1 hD1 hS1 => ?_)
  have e1 : cA = gJ G := cx_RAeq (hK1.2 3 (cA, .long) rfl).2 (hK1.2 1 (gJ G, .long) rfl).2
  subst e1
  obtain ⟨r1, r2⟩ := S.1.push X.2.2.2.2.2.2.1 h3 htg hP1 hD1 hS1
  exact kk q H1 r1 ⟨r2, hS1⟩
theorem r_newO (X : cxC G p l R c cc nL m meth s args own Ts) (S : cxS G s f H locs) (tg : Nat) (htg : tg ≠ 9999) {index : Nat} (hlink : Cond.classLink own index "java/lang/Object" ∈ Ts) {n : Int32} {N' : Nat} (hn : ¬ n < 0) (hN : n.toNatClampNeg = N') (hbytes : N' * 4 ≤ 536870912) (hcells : cells + 1 ≤ R.cells) (hslots : slots + N' ≤ R.slots) (hdg : decode cc pc = .ok (.anewarray index, 3))
    (kk : ∀ (q : Nat) (H : Heap), f q = none → cxS G s (wu f q tg (eO G N' (fun _ => none))) H locs → W p l e R s m args below meth c H locs (cells + 1) (slots + N') Q (F0 m (pc + 3) ls (.ref q :: rest))) : W p l e R s m args below meth c H locs cells slots Q (F0 m pc ls (.int n :: rest)) := by
  obtain ⟨ws, hP, hD, h3, -⟩ := S.1.list
  refine va_newq X.1 X.2.1 X.2.2.2.1 (X.2.2.2.2.1 _ hlink) X.2.2.2.2.2.1.2.2.2.2.2.2.2.1 X.2.2.2.2.2.1.1 hP hD S.2 (fun q hq => Nat.le_trans X.2.2.2.2.2.2.1.1 hq) hn hN hbytes hcells hslots hdg (fun q cA H1 hK1 hP1 hD1 hS1 => ?_)
  have e1 : cA = gO G := cx_RAeq (hK1.2 3 (cA, .object "java/lang/Object") rfl).2 (hK1.2 2 (gO G, .object "java/lang/Object") rfl).2
  subst e1
  obtain ⟨r1, r2⟩ := S.1.push X.2.2.2.2.2.2.1 h3 htg hP1 hD1 hS1
  exact kk q H1 r1 ⟨r2, hS1⟩
theorem r_gets (X : cxC G p l R c cc nL m meth s args own Ts) (S : cxS G s f H locs) {index : Nat} {ref : String} (hr : ref = "java/util/ArrayList") (hlink : Cond.fieldLink own index ref "DEFAULTCAPACITY_EMPTY_ELEMENTDATA" "[Ljava/lang/Object;" ∈ Ts) (hdg : decode cc pc = .ok (.getstatic index, 3))
    (kk : W p l e R s m args below meth c H locs cells slots Q (F0 m (pc + 3) ls (.ref (gd G) :: rest))) : W p l e R s m args below meth c H locs cells slots Q (F0 m pc ls rest) := by
  subst hr
  exact va_gets X.1 X.2.1 (X.2.2.2.2.2.1.2.1.kept (fun q h1 _ => X.2.2.2.2.2.2.1.2 q h1)) S.2 X.2.2.2.1 (X.2.2.2.2.1 _ hlink) (fun _ h => h) hdg kk
theorem r_castS (X : cxC G p l R c cc nL m meth s args own Ts) (S : cxS G s f H locs) {index ci : Nat} {r : vw_C} {nm : String} {fs : List Value} (hr : r.1 = nm) (hlink : Cond.classLink own index nm ∈ Ts) (ha : f a = some (t, .inr (ci, fs))) (hc : vwCl[ci]? = some r) (hdg : decode cc pc = .ok (.checkcast index, 3))
    (kk : W p l e R s m args below meth c H locs cells slots Q (F0 m (pc + 3) ls (.ref a :: rest))) : W p l e R s m args below meth c H locs cells slots Q (F0 m pc ls (.ref a :: rest)) := by
  subst hr
  exact va_castS X.1 X.2.1 X.2.2.2.1 (X.2.2.2.2.1 _ hlink) (X.2.2.2.2.2.1.1.1 ci r hc).2 (va_recv X.2.2.2.2.2.1.1 (S.1.one ha) (q0 := 0) hc rfl) hdg kk
theorem r_castY (X : cxC G p l R c cc nL m meth s args own Ts) (S : cxS G s f H locs) {index ci : Nat} {r : vw_C} {nm : String} {fs : List Value} (hY : (r.1, nm) ∈ gY) (hlink : Cond.classLink own index nm ∈ Ts) (ha : f a = some (t, .inr (ci, fs))) (hc : vwCl[ci]? = some r) (hdg : decode cc pc = .ok (.checkcast index, 3))
    (kk : W p l e R s m args below meth c H locs cells slots Q (F0 m (pc + 3) ls (.ref a :: rest))) : W p l e R s m args below meth c H locs cells slots Q (F0 m pc ls (.ref a :: rest)) :=
  va_castY X.1 X.2.1 X.2.2.2.1 (X.2.2.2.2.1 _ hlink) (X.2.2.2.2.2.1.2.2.2.2.2.1 _ hY).nw (va_recv X.2.2.2.2.2.1.1 (S.1.one ha) (q0 := 0) hc rfl) hdg kk
theorem r_objInit (X : cxC G p l R c cc nL m meth s args own Ts) {idx : Nat} (hlink : Cond.methodLink own idx objectInit ∈ Ts) (hinst : Cond.instanceMethod objectInit ∈ Ts) (hcode : Cond.code objectInit ⟨#[0xb1]⟩ 1 none ∈ Ts) (hls : ls.size = nL) (hd : decode cc pc = .ok (.invokespecial idx, 3)) (hframes : 1 ≤ R.frames) (hlocals : (rest.map fun v => v.category).sum + 12 ≤ R.locals)
    (kk : W p l e R s m args below meth c H locs cells slots Q (F0 m (pc + 3) ls rest)) : W p l e R s m args below meth c H locs cells slots Q (F0 m pc ls (.ref a :: rest)) :=
  W.objInit X.1 X.2.1 X.2.2.2.1 (X.2.2.2.2.1 _ hlink) (X.2.2.2.2.1 _ hinst) (X.2.2.2.2.1 _ hcode) rfl (by rw [X.2.2.1]; exact hls) rfl hd hframes (by show 2 * 0 + _ + 12 ≤ _; omega) kk
theorem r_ldc (X : cxC G p l R c cc nL m meth s args own Ts) {index : Nat} {v : Int32} (hconst : Cond.constant own index v ∈ Ts) (hdg : decode cc pc = .ok (.ldc index, 2)) (k : W p l e R s m args below meth c H locs cells slots Q (F0 m (pc + 2) ls (.int v :: rest))) : W p l e R s m args below meth c H locs cells slots Q (F0 m pc ls rest) := lv_ldc X.1 X.2.1 X.2.2.2.1 (X.2.2.2.2.1 _ hconst) hdg k
theorem r_ldc2 (X : cxC G p l R c cc nL m meth s args own Ts) {index : Nat} {v : Int64} (hconst : Cond.constantLong own index v ∈ Ts) (hdg : decode cc pc = .ok (.ldc2_w index, 3)) (k : W p l e R s m args below meth c H locs cells slots Q (F0 m (pc + 3) ls (.long v :: rest))) : W p l e R s m args below meth c H locs cells slots Q (F0 m pc ls rest) := lv_ldc2 X.1 X.2.1 X.2.2.2.1 (X.2.2.2.2.1 _ hconst) hdg k
end CXR
end
section
/-! calls and ends, over the world as a map -/
section CXK
variable {G : cx_G} {p : Program} {l : Launch} {e : Env} {R : Room} {s : State} {m : MethodId} {args : Array Value} {below : List Frame} {meth : Method} {c : Code} {H : Heap} {locs : List Loc} {cells slots : Nat} {Q : State → Prop}
variable {cc : ByteArray} {nL : Nat} {own : String} {Ts : List Cond} {pc : Nat} {ls : Array Slot} {rest st : List Value} {f : Wd} {a t : Nat}
variable {y : MethodName} {bytes : ByteArray} {maxL mc ms n index : Nat} {ret : Option FieldType} {ws ws' : List Cond} {rm : Room} {Qc : Array Value → State → Outcome → State → Prop} {As : List Value} {b : Nat}
theorem run_V (X : cxC G p l R c cc nL m meth s args own Ts) (S : cxS G s f H locs) (hM : Met l y ws rm (va_Pc (.ref b :: As) (Pin G f)) Qc mc ms (gA G)) {ci : Nat} {r : vw_C} {fs : List Value} {C : String} (n : Nat) (hg : GoodIn Ts (wsV own index C y ws)) (hw : ws = Cond.code y bytes maxL ret :: ws') (hrc : rm.cells = mc) (hrs : rm.slots = ms)
    (hd : y.cls = C ∧ y.cls ≠ "java/lang/invoke/MethodHandle" ∧ y.cls ≠ "java/lang/invoke/VarHandle" ∧ (parseMethodDescriptor y.desc).map (fun d => d.parameters.length) = some n) (hR : rm.frames + 1 ≤ R.frames ∧ 8 + (maxL + 11) + rm.locals ≤ R.locals)
    (hb : f b = some (t, .inr (ci, fs))) (hc : vwCl[ci]? = some r) (hr : r.1 = C) (hn : As.length = n) (hls : ls.size = nL) (hst : st = As.reverse ++ .ref b :: rest) (hW : (rest.map fun v => v.category).sum ≤ 8) (hdg : decode cc pc = .ok (.invokevirtual index, 3)) (hf : cells + mc ≤ R.cells ∧ slots + ms ≤ R.slots) :
    va_Run p l e R s m args below meth c H locs cells slots mc ms (F0 m pc ls st) rest (Qc (Value.ref b :: As).toArray) (gA G) := by
  subst hr
  exact va_runV (As := As) ⟨X.1, X.2.1, X.2.2.1, X.2.2.2.1, X.2.2.2.2.1⟩ hM (cwV n X.2.2.2.2.1 hg hw hrc hrs hd hR) ⟨Pin.blind, va_recv X.2.2.2.2.2.1.1 (S.1.one hb) (q0 := 0) hc rfl, fun U hU hW => ⟨rfl, by rw [hU]; exact S.1, gk.warm hW X.2.2.2.2.2.1⟩⟩ rfl hn hls hst (lv_room (pc := pc) (ls := ls) (rest := st) hW) hdg hf
theorem run_S (X : cxC G p l R c cc nL m meth s args own Ts) (S : cxS G s f H locs) (hM : Met l y ws rm (va_Pc As (Pin G f)) Qc mc ms (gA G)) (n : Nat) (hg : GoodIn Ts (va_wsS own index y ws)) (hw : ws = Cond.code y bytes maxL ret :: ws') (hrc : rm.cells = mc) (hrs : rm.slots = ms)
    (hd : y.cls ≠ "java/lang/invoke/MethodHandle" ∧ y.cls ≠ "java/lang/invoke/VarHandle" ∧ (parseMethodDescriptor y.desc).map (fun d => d.parameters.length) = some n) (hR : rm.frames + 1 ≤ R.frames ∧ 8 + (maxL + 11) + rm.locals ≤ R.locals)
    (hn : As.length = n) (hls : ls.size = nL) (hst : st = As.reverse ++ rest) (hW : (rest.map fun v => v.category).sum ≤ 8) (hdg : decode cc pc = .ok (.invokestatic index, 3)) (hf : cells + mc ≤ R.cells ∧ slots + ms ≤ R.slots) :
    va_Run p l e R s m args below meth c H locs cells slots mc ms (F0 m pc ls st) rest (Qc As.toArray) (gA G) :=
  va_runS (As := As) ⟨X.1, X.2.1, X.2.2.1, X.2.2.2.1, X.2.2.2.2.1⟩ hM (va_cwS n X.2.2.2.2.1 hg hw hrc hrs hd hR) ⟨Pin.blind, fun U hU hW => ⟨rfl, by rw [hU]; exact S.1, gk.warm hW X.2.2.2.2.2.1⟩⟩ rfl hn hls hst (lv_room (pc := pc) (ls := ls) (rest := st) hW) hdg hf
theorem run_I (X : cxC G p l R c cc nL m meth s args own Ts) (S : cxS G s f H locs) (hM : Met l y ws rm (va_Pc (.ref b :: As) (Pin G f)) Qc mc ms (gA G)) (n : Nat) (hg : GoodIn Ts ws) (hw : ws = Cond.code y bytes maxL none :: ws') (hrc : rm.cells = mc) (hrs : rm.slots = ms) (hini : Cond.initialized y.cls ∈ Ts) (hlink : Cond.methodLink own index y ∈ Ts) (hinst : Cond.instanceMethod y ∈ Ts) (hyn : y.name = "<init>")
    (hd : y.cls ≠ "java/lang/invoke/MethodHandle" ∧ y.cls ≠ "java/lang/invoke/VarHandle" ∧ (parseMethodDescriptor y.desc).map (fun d => d.parameters.length) = some n) (hR : rm.frames + 1 ≤ R.frames ∧ 8 + (maxL + 11) + rm.locals ≤ R.locals)
    (hn : As.length = n) (hls : ls.size = nL) (hst : st = As.reverse ++ .ref b :: rest) (hW : (rest.map fun v => v.category).sum ≤ 8) (hdg : decode cc pc = .ok (.invokespecial index, 3)) (hf : cells + mc ≤ R.cells ∧ slots + ms ≤ R.slots) :
    va_Run p l e R s m args below meth c H locs cells slots mc ms (F0 m pc ls st) rest (Qc (Value.ref b :: As).toArray) (gA G) :=
  va_runI (As := As) ⟨X.1, X.2.1, X.2.2.1, X.2.2.2.1, X.2.2.2.2.1⟩ hM (cwI n X.2.2.2.2.1 hg hw hrc hrs (X.2.2.2.2.1 _ hini) (X.2.2.2.2.1 _ hlink) (X.2.2.2.2.1 _ hinst) hyn hd hR) ⟨Pin.blind, fun U hU hW => ⟨rfl, by rw [hU]; exact S.1, gk.warm hW X.2.2.2.2.2.1⟩⟩ rfl hn hls hst (lv_room (pc := pc) (ls := ls) (rest := st) hW) hdg hf
theorem call_i {Φ : Int32 → Wd → Prop} {a : Array Value} (hr : va_Run p l e R s m args below meth c H locs cells slots mc ms (F0 m pc ls st) rest (va_Qi Φ (fun f' t => hp G f' t.heap) (gA G) a) (gA G)) (S : cxS G s f H locs)
    (kk : ∀ (r : Int32) (f' : Wd) (H : Heap) (locs : List Loc), Φ r f' → cxS G s f' H locs → W p l e R s m args below meth c H locs (cells + mc) (slots + ms) Q (F0 m (pc + 3) ls (.int r :: rest))) : W p l e R s m args below meth c H locs cells slots Q (F0 m pc ls st) :=
  va_calli hr S.2 (fun _ _ h => h) (fun _ h => h) (fun r u t H1 locs1 ht _ hΦ hB _ _ hS1 => kk r u H1 locs1 hΦ ⟨by rw [← ht]; exact hB, hS1⟩)
theorem call_l {Φ : Int64 → Wd → Prop} {a : Array Value} (hr : va_Run p l e R s m args below meth c H locs cells slots mc ms (F0 m pc ls st) rest (va_Ql Φ (fun f' t => hp G f' t.heap) (gA G) a) (gA G)) (S : cxS G s f H locs)
    (kk : ∀ (r : Int64) (f' : Wd) (H : Heap) (locs : List Loc), Φ r f' → cxS G s f' H locs → W p l e R s m args below meth c H locs (cells + mc) (slots + ms) Q (F0 m (pc + 3) ls (.long r :: rest))) : W p l e R s m args below meth c H locs cells slots Q (F0 m pc ls st) :=
  va_calll hr S.2 (fun _ _ h => h) (fun _ h => h) (fun r u t H1 locs1 ht _ hΦ hB _ _ hS1 => kk r u H1 locs1 hΦ ⟨by rw [← ht]; exact hB, hS1⟩)
theorem call_v {Φ : Wd → Prop} {a : Array Value} (hr : va_Run p l e R s m args below meth c H locs cells slots mc ms (F0 m pc ls st) rest (va_Qv Φ (fun f' t => hp G f' t.heap) (gA G) a) (gA G)) (S : cxS G s f H locs)
    (kk : ∀ (f' : Wd) (H : Heap) (locs : List Loc), Φ f' → cxS G s f' H locs → W p l e R s m args below meth c H locs (cells + mc) (slots + ms) Q (F0 m (pc + 3) ls rest)) : W p l e R s m args below meth c H locs cells slots Q (F0 m pc ls st) :=
  va_callv hr S.2 (fun _ _ h => h) (fun _ h => h) (fun u t H1 locs1 ht _ hΦ hB _ _ hS1 => kk u H1 locs1 hΦ ⟨by rw [← ht]; exact hB, hS1⟩)
theorem call_r {Φ : Nat → Wd → Prop} {a : Array Value} (hr : va_Run p l e R s m args below meth c H locs cells slots mc ms (F0 m pc ls st) rest (va_Qr (fun u : Nat × Wd => Φ u.1 u.2) (fun u a t => a = u.1 ∧ hp G u.2 t.heap) (gA G) a) (gA G)) (S : cxS G s f H locs)
    (kk : ∀ (r : Nat) (f' : Wd) (H : Heap) (locs : List Loc), Φ r f' → cxS G s f' H locs → W p l e R s m args below meth c H locs (cells + mc) (slots + ms) Q (F0 m (pc + 3) ls (.ref r :: rest))) : W p l e R s m args below meth c H locs cells slots Q (F0 m pc ls st) :=
  va_callr hr S.2 (fun _ _ h => h) (fun _ h => h) (fun u ra t H1 locs1 ht _ hΦ hB _ _ hS1 => by
    obtain ⟨rfl, hB⟩ := hB
    exact kk u.1 u.2 H1 locs1 hΦ ⟨by rw [← ht]; exact hB, hS1⟩)
theorem e_i {Φ : Int32 → Wd → Prop} {v : Int32} {mc ms : Nat} (X : cxC G p l R c cc nL m meth s args own Ts) (hr : meth.sig.returnType = some .int) (S : cxS G s f H locs) (hc : cells ≤ mc) (hs : slots ≤ ms) (hdg : decode cc pc = .ok (.ireturn, 1)) (hΦ : Φ v f) :
    W p l e R s m args below meth c H locs cells slots (MQ below (va_Qi Φ (fun f' t => hp G f' t.heap) (gA G)) args s mc ms (gA G)) (F0 m pc ls [.int v]) :=
  W.widen hc hs (W.iret X.1 X.2.1 hr (fun t ht hW => ⟨⟨v, f, rfl, hΦ, by rw [ht]; exact S.1⟩, S.2.F ht⟩) S.2.2.2 hdg X.2.2.2.2.2.2.2)
theorem e_z {Φ : Int32 → Wd → Prop} {v : Int32} {mc ms : Nat} (X : cxC G p l R c cc nL m meth s args own Ts) (hr : meth.sig.returnType = some .boolean) (S : cxS G s f H locs) (hc : cells ≤ mc) (hs : slots ≤ ms) (hdg : decode cc pc = .ok (.ireturn, 1)) (hn : narrow .boolean (.int v) = .int v) (hΦ : Φ v f) :
    W p l e R s m args below meth c H locs cells slots (MQ below (va_Qi Φ (fun f' t => hp G f' t.heap) (gA G)) args s mc ms (gA G)) (F0 m pc ls [.int v]) :=
  W.widen hc hs (W.zret X.1 X.2.1 hr hn (fun t ht hW => ⟨⟨v, f, rfl, hΦ, by rw [ht]; exact S.1⟩, S.2.F ht⟩) S.2.2.2 hdg X.2.2.2.2.2.2.2)
theorem e_l {Φ : Int64 → Wd → Prop} {v : Int64} {mc ms : Nat} (X : cxC G p l R c cc nL m meth s args own Ts) (hr : meth.sig.returnType = some .long) (S : cxS G s f H locs) (hc : cells ≤ mc) (hs : slots ≤ ms) (hdg : decode cc pc = .ok (.lreturn, 1)) (hΦ : Φ v f) :
    W p l e R s m args below meth c H locs cells slots (MQ below (va_Ql Φ (fun f' t => hp G f' t.heap) (gA G)) args s mc ms (gA G)) (F0 m pc ls [.long v]) :=
  W.widen hc hs (W.lret X.1 X.2.1 hr (fun t ht hW => ⟨⟨v, f, rfl, hΦ, by rw [ht]; exact S.1⟩, S.2.F ht⟩) S.2.2.2 hdg X.2.2.2.2.2.2.2)
theorem e_v {Φ : Wd → Prop} {mc ms : Nat} (X : cxC G p l R c cc nL m meth s args own Ts) (hr : meth.sig.returnType = none) (S : cxS G s f H locs) (hc : cells ≤ mc) (hs : slots ≤ ms) (hdg : decode cc pc = .ok (.return_, 1)) (hΦ : Φ f) :
    W p l e R s m args below meth c H locs cells slots (MQ below (va_Qv Φ (fun f' t => hp G f' t.heap) (gA G)) args s mc ms (gA G)) (F0 m pc ls []) :=
  W.widen hc hs (W.vret X.1 X.2.1 hr (fun t ht hW => ⟨⟨f, rfl, hΦ, by rw [ht]; exact S.1⟩, S.2.F ht⟩) S.2.2.2 hdg X.2.2.2.2.2.2.2)
theorem e_r {Φ : Nat → Wd → Prop} {v : Nat} {mc ms : Nat} {rt : FieldType} (X : cxC G p l R c cc nL m meth s args own Ts) (hr : meth.sig.returnType = some rt) (hrt : (∃ n, rt = .object n) ∨ ∃ t, rt = .array t) (S : cxS G s f H locs) (hc : cells ≤ mc) (hs : slots ≤ ms) (hdg : decode cc pc = .ok (.areturn, 1)) (hΦ : Φ v f) :
    W p l e R s m args below meth c H locs cells slots (MQ below (va_Qr (fun u : Nat × Wd => Φ u.1 u.2) (fun u a t => a = u.1 ∧ hp G u.2 t.heap) (gA G)) args s mc ms (gA G)) (F0 m pc ls [.ref v]) :=
  W.widen hc hs (W.aret X.1 X.2.1 hr hrt (Or.inr ⟨v, rfl⟩) (fun t ht hW => ⟨⟨(v, f), v, rfl, hΦ, rfl, by rw [ht]; exact S.1⟩, S.2.F ht⟩) S.2.2.2 hdg X.2.2.2.2.2.2.2)
end CXK
end
section
/-! contracts of methods that leave the world as it is; answers that are true or false; methods that throw -/
abbrev PI (l : Launch) (G : cx_G) (y : MethodName) (ws : List Cond) (fr lo : Nat) (as : List Value) (f : Wd) (Φ : Int32 → Prop) : Prop :=
  Met l y ws { frames := fr, cells := 0, slots := 0, locals := lo } (va_Pc as (Pin G f)) (va_Qi (fun r (_ : Unit) => Φ r) (fun _ t => hp G f t.heap) (gA G)) 0 0 (gA G)
abbrev PL (l : Launch) (G : cx_G) (y : MethodName) (ws : List Cond) (fr lo : Nat) (as : List Value) (f : Wd) (Φ : Int64 → Prop) : Prop :=
  Met l y ws { frames := fr, cells := 0, slots := 0, locals := lo } (va_Pc as (Pin G f)) (va_Ql (fun r (_ : Unit) => Φ r) (fun _ t => hp G f t.heap) (gA G)) 0 0 (gA G)
abbrev PR (l : Launch) (G : cx_G) (y : MethodName) (ws : List Cond) (fr lo : Nat) (as : List Value) (f : Wd) (Φ : Nat → Prop) : Prop :=
  Met l y ws { frames := fr, cells := 0, slots := 0, locals := lo } (va_Pc as (Pin G f)) (va_Qr (fun u : Nat => Φ u) (fun u a t => a = u ∧ hp G f t.heap) (gA G)) 0 0 (gA G)
abbrev PV (l : Launch) (G : cx_G) (y : MethodName) (ws : List Cond) (fr lo : Nat) (as : List Value) (f : Wd) (Φ : Prop) : Prop :=
  Met l y ws { frames := fr, cells := 0, slots := 0, locals := lo } (va_Pc as (Pin G f)) (va_Qv (fun _ : Unit => Φ) (fun _ t => hp G f t.heap) (gA G)) 0 0 (gA G)
def b2i (b : Bool) : Int32 := if b = true then 1 else 0
theorem b2i_nar (b : Bool) : narrow .boolean (.int (b2i b)) = .int (b2i b) := by cases b <;> rfl
theorem b2i_1 {b : Bool} (h : b = true) : b2i b = 1 := by rw [h]; rfl
theorem b2i_0 {b : Bool} (h : b = false) : b2i b = 0 := by rw [h]; rfl
theorem b2i_t {p : Prop} [Decidable p] (h : p) : (1 : Int32) = b2i (decide p) := by simp [b2i, h]
theorem b2i_f {p : Prop} [Decidable p] (h : ¬ p) : (0 : Int32) = b2i (decide p) := by simp [b2i, h]
section CXM
variable {G : cx_G} {p : Program} {l : Launch} {e : Env} {R : Room} {s : State} {m : MethodId} {args : Array Value} {below : List Frame} {meth : Method} {c : Code} {H : Heap} {locs : List Loc} {cells slots : Nat} {Q : State → Prop}
variable {cc : ByteArray} {nL : Nat} {own : String} {Ts : List Cond} {pc : Nat} {ls : Array Slot} {rest st : List Value} {f : Wd} {a t mc ms : Nat}
theorem call_ip {Φ : Int32 → Prop} {a : Array Value} (hr : va_Run p l e R s m args below meth c H locs cells slots 0 0 (F0 m pc ls st) rest (va_Qi (fun r (_ : Unit) => Φ r) (fun _ t => hp G f t.heap) (gA G) a) (gA G)) (S : cxS G s f H locs)
    (kk : ∀ (r : Int32) (H : Heap) (locs : List Loc), Φ r → cxS G s f H locs → W p l e R s m args below meth c H locs cells slots Q (F0 m (pc + 3) ls (.int r :: rest))) : W p l e R s m args below meth c H locs cells slots Q (F0 m pc ls st) :=
  va_calli hr S.2 (fun _ _ h => h) (fun _ h => h) (fun r u t H1 locs1 ht _ hΦ hB _ _ hS1 => kk r H1 locs1 hΦ ⟨by rw [← ht]; exact hB, hS1⟩)
theorem call_lp {Φ : Int64 → Prop} {a : Array Value} (hr : va_Run p l e R s m args below meth c H locs cells slots 0 0 (F0 m pc ls st) rest (va_Ql (fun r (_ : Unit) => Φ r) (fun _ t => hp G f t.heap) (gA G) a) (gA G)) (S : cxS G s f H locs)
    (kk : ∀ (r : Int64) (H : Heap) (locs : List Loc), Φ r → cxS G s f H locs → W p l e R s m args below meth c H locs cells slots Q (F0 m (pc + 3) ls (.long r :: rest))) : W p l e R s m args below meth c H locs cells slots Q (F0 m pc ls st) :=
  va_calll hr S.2 (fun _ _ h => h) (fun _ h => h) (fun r u t H1 locs1 ht _ hΦ hB _ _ hS1 => kk r H1 locs1 hΦ ⟨by rw [← ht]; exact hB, hS1⟩)
theorem call_vp {Φ : Prop} {a : Array Value} (hr : va_Run p l e R s m args below meth c H locs cells slots 0 0 (F0 m pc ls st) rest (va_Qv (fun _ : Unit => Φ) (fun _ t => hp G f t.heap) (gA G) a) (gA G)) (S : cxS G s f H locs)
    (kk : ∀ (H : Heap) (locs : List Loc), Φ → cxS G s f H locs → W p l e R s m args below meth c H locs cells slots Q (F0 m (pc + 3) ls rest)) : W p l e R s m args below meth c H locs cells slots Q (F0 m pc ls st) :=
  va_callv hr S.2 (fun _ _ h => h) (fun _ h => h) (fun u t H1 locs1 ht _ hΦ hB _ _ hS1 => kk H1 locs1 hΦ ⟨by rw [← ht]; exact hB, hS1⟩)
theorem call_rp {Φ : Nat → Prop} {a : Array Value} (hr : va_Run p l e R s m args below meth c H locs cells slots 0 0 (F0 m pc ls st) rest (va_Qr (fun u : Nat => Φ u) (fun u a t => a = u ∧ hp G f t.heap) (gA G) a) (gA G)) (S : cxS G s f H locs)
    (kk : ∀ (r : Nat) (H : Heap) (locs : List Loc), Φ r → cxS G s f H locs → W p l e R s m args below meth c H locs cells slots Q (F0 m (pc + 3) ls (.ref r :: rest))) : W p l e R s m args below meth c H locs cells slots Q (F0 m pc ls st) :=
  va_callr hr S.2 (fun _ _ h => h) (fun _ h => h) (fun u ra t H1 locs1 ht _ hΦ hB _ _ hS1 => by
    obtain ⟨rfl, hB⟩ := hB
    exact kk ra H1 locs1 hΦ ⟨by rw [← ht]; exact hB, hS1⟩)
theorem e_ip {Φ : Int32 → Prop} {v : Int32} (X : cxC G p l R c cc nL m meth s args own Ts) (hr : meth.sig.returnType = some .int) (S : cxS G s f H locs) (hdg : decode cc pc = .ok (.ireturn, 1)) (hΦ : Φ v) :
    W p l e R s m args below meth c H locs 0 0 (MQ below (va_Qi (fun r (_ : Unit) => Φ r) (fun _ t => hp G f t.heap) (gA G)) args s 0 0 (gA G)) (F0 m pc ls [.int v]) :=
  W.iret X.1 X.2.1 hr (fun t ht hW => ⟨⟨v, (), rfl, hΦ, by rw [ht]; exact S.1⟩, S.2.F ht⟩) S.2.2.2 hdg X.2.2.2.2.2.2.2
theorem e_zp {Φ : Int32 → Prop} {v : Int32} (X : cxC G p l R c cc nL m meth s args own Ts) (hr : meth.sig.returnType = some .boolean) (S : cxS G s f H locs) (hdg : decode cc pc = .ok (.ireturn, 1)) (hn : narrow .boolean (.int v) = .int v) (hΦ : Φ v) :
    W p l e R s m args below meth c H locs 0 0 (MQ below (va_Qi (fun r (_ : Unit) => Φ r) (fun _ t => hp G f t.heap) (gA G)) args s 0 0 (gA G)) (F0 m pc ls [.int v]) :=
  W.zret X.1 X.2.1 hr hn (fun t ht hW => ⟨⟨v, (), rfl, hΦ, by rw [ht]; exact S.1⟩, S.2.F ht⟩) S.2.2.2 hdg X.2.2.2.2.2.2.2
theorem e_lp {Φ : Int64 → Prop} {v : Int64} (X : cxC G p l R c cc nL m meth s args own Ts) (hr : meth.sig.returnType = some .long) (S : cxS G s f H locs) (hdg : decode cc pc = .ok (.lreturn, 1)) (hΦ : Φ v) :
    W p l e R s m args below meth c H locs 0 0 (MQ below (va_Ql (fun r (_ : Unit) => Φ r) (fun _ t => hp G f t.heap) (gA G)) args s 0 0 (gA G)) (F0 m pc ls [.long v]) :=
  W.lret X.1 X.2.1 hr (fun t ht hW => ⟨⟨v, (), rfl, hΦ, by rw [ht]; exact S.1⟩, S.2.F ht⟩) S.2.2.2 hdg X.2.2.2.2.2.2.2
theorem e_vp {Φ : Prop} (X : cxC G p l R c cc nL m meth s args own Ts) (hr : meth.sig.returnType = none) (S : cxS G s f H locs) (hdg : decode cc pc = .ok (.return_, 1)) (hΦ : Φ) :
    W p l e R s m args below meth c H locs 0 0 (MQ below (va_Qv (fun _ : Unit => Φ) (fun _ t => hp G f t.heap) (gA G)) args s 0 0 (gA G)) (F0 m pc ls []) :=
  W.vret X.1 X.2.1 hr (fun t ht hW => ⟨⟨(), rfl, hΦ, by rw [ht]; exact S.1⟩, S.2.F ht⟩) S.2.2.2 hdg X.2.2.2.2.2.2.2
theorem e_rp {Φ : Nat → Prop} {v : Nat} {rt : FieldType} (X : cxC G p l R c cc nL m meth s args own Ts) (hr : meth.sig.returnType = some rt) (hrt : (∃ n, rt = .object n) ∨ ∃ t, rt = .array t) (S : cxS G s f H locs) (hdg : decode cc pc = .ok (.areturn, 1)) (hΦ : Φ v) :
    W p l e R s m args below meth c H locs 0 0 (MQ below (va_Qr (fun u : Nat => Φ u) (fun u a t => a = u ∧ hp G f t.heap) (gA G)) args s 0 0 (gA G)) (F0 m pc ls [.ref v]) :=
  W.aret X.1 X.2.1 hr hrt (Or.inr ⟨v, rfl⟩) (fun t ht hW => ⟨⟨v, v, rfl, hΦ, rfl, by rw [ht]; exact S.1⟩, S.2.F ht⟩) S.2.2.2 hdg X.2.2.2.2.2.2.2
/-- the top of the stack in other words -/
theorem r_toi {x y : Int32} (h : x = y) (k : W p l e R s m args below meth c H locs cells slots Q (F0 m pc ls (.int y :: rest))) : W p l e R s m args below meth c H locs cells slots Q (F0 m pc ls (.int x :: rest)) := by rw [h]; exact k
theorem r_tol {x y : Int64} (h : x = y) (k : W p l e R s m args below meth c H locs cells slots Q (F0 m pc ls (.long y :: rest))) : W p l e R s m args below meth c H locs cells slots Q (F0 m pc ls (.long x :: rest)) := by rw [h]; exact k
theorem r_eqB (X : cxC G p l R c cc nL m meth s args own Ts) {b : Bool} {off : Int} {tgt : Nat} (hdg : decode cc pc = .ok (.ifCond .eq off, 3)) (ht : (pc : Int) + off = (tgt : Int))
    (kt : b = false → W p l e R s m args below meth c H locs cells slots Q (F0 m tgt ls rest)) (kf : b = true → W p l e R s m args below meth c H locs cells slots Q (F0 m (pc + 3) ls rest)) : W p l e R s m args below meth c H locs cells slots Q (F0 m pc ls (.int (b2i b) :: rest)) :=
  lv_if_eq X.1 X.2.1 hdg ht (fun h => kt (by cases b; rfl; cases h)) (fun h => kf (by cases b; exact absurd rfl h; rfl))
theorem r_neB (X : cxC G p l R c cc nL m meth s args own Ts) {b : Bool} {off : Int} {tgt : Nat} (hdg : decode cc pc = .ok (.ifCond .ne off, 3)) (ht : (pc : Int) + off = (tgt : Int))
    (kt : b = true → W p l e R s m args below meth c H locs cells slots Q (F0 m tgt ls rest)) (kf : b = false → W p l e R s m args below meth c H locs cells slots Q (F0 m (pc + 3) ls rest)) : W p l e R s m args below meth c H locs cells slots Q (F0 m pc ls (.int (b2i b) :: rest)) :=
  lv_if_ne X.1 X.2.1 hdg ht (fun h => kt (by cases b; exact absurd rfl h; rfl)) (fun h => kf (by cases b; rfl; cases h))
theorem r_max (X : cxC G p l R c cc nL m meth s args own Ts) {index : Nat} (hlink : Cond.methodLink own index Lib.Math.max.name ∈ Ts) (hstat : Cond.static Lib.Math.max.name ∈ Ts) (hini : Cond.initialized "java/lang/Math" ∈ Ts) (hcode : Cond.code Lib.Math.max.name Lib.Math.max.code 2 (some .int) ∈ Ts) (hls : ls.size = nL)
    (hframes : 1 ≤ R.frames) (hlocals : (rest.map fun v => v.category).sum + 13 ≤ R.locals) (hc : cells ≤ R.cells) (hs : slots ≤ R.slots) {x y v : Int32} (hv : (if x < y then y else x) = v) (hdg : decode cc pc = .ok (.invokestatic index, 3))
    (kk : W p l e R s m args below meth c H locs cells slots Q (F0 m (pc + 3) ls (.int v :: rest))) : W p l e R s m args below meth c H locs cells slots Q (F0 m pc ls (.int y :: .int x :: rest)) := by
  subst hv
  exact va_mmax X.1 X.2.1 (by rw [X.2.2.1, hls]) X.2.2.2.1 (X.2.2.2.2.1 _ hlink) (X.2.2.2.2.1 _ hstat) (X.2.2.2.2.1 _ hini) (X.2.2.2.2.1 _ hcode) hframes hlocals hc hs hdg kk
theorem r_min (X : cxC G p l R c cc nL m meth s args own Ts) {index : Nat} (hlink : Cond.methodLink own index Lib.Math.min.name ∈ Ts) (hstat : Cond.static Lib.Math.min.name ∈ Ts) (hini : Cond.initialized "java/lang/Math" ∈ Ts) (hcode : Cond.code Lib.Math.min.name Lib.Math.min.code 2 (some .int) ∈ Ts) (hls : ls.size = nL)
    (hframes : 1 ≤ R.frames) (hlocals : (rest.map fun v => v.category).sum + 13 ≤ R.locals) (hc : cells ≤ R.cells) (hs : slots ≤ R.slots) {x y v : Int32} (hv : (if y < x then y else x) = v) (hdg : decode cc pc = .ok (.invokestatic index, 3))
    (kk : W p l e R s m args below meth c H locs cells slots Q (F0 m (pc + 3) ls (.int v :: rest))) : W p l e R s m args below meth c H locs cells slots Q (F0 m pc ls (.int y :: .int x :: rest)) := by
  subst hv
  exact va_mmin X.1 X.2.1 (by rw [X.2.2.1, hls]) X.2.2.2.1 (X.2.2.2.2.1 _ hlink) (X.2.2.2.2.1 _ hstat) (X.2.2.2.2.1 _ hini) (X.2.2.2.2.1 _ hcode) hframes hlocals hc hs hdg kk
end CXM
end
