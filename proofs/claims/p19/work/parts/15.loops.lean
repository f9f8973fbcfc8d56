/-! the class: its loops -/
theorem m_sizeL (l : Launch) (G : cx_G) (f : Wd) (L t n : Nat) (g : Nat → Nat) (hLR : LRx G f L t n g) : PI l G yJx4a65c_size_8abf5 wsJx4a65c_size_8abf5 0 0 [.ref L] f (fun v => v = nI n) := by
  obtain ⟨m, arr, cap, h, hL, -⟩ := hLR
  exact m_size l G f L t n m (.ref arr) hL
theorem W_genQ {p : Program} {l : Launch} {e : Env} {R : Room} {s : State} {m : MethodId} {args : Array Value} {below : List Frame} {meth : Method} {c : Code} {H : Heap} {locs : List Loc} {cells slots : Nat} {Q : State → Prop} {g : JFrame} (k : ∀ Q9, Q9 = Q → W p l e R s m args below meth c H locs cells slots Q9 g) : W p l e R s m args below meth c H locs cells slots Q g := k Q rfl
theorem cn_t {p : Nat → Bool} {n : Nat} (h : p n = true) : cn p (n + 1) = cn p n + 1 := by show cn p n + _ = _; rw [if_pos h]
theorem cn_f {p : Nat → Bool} {n : Nat} (h : p n = false) : cn p (n + 1) = cn p n := by show cn p n + _ = _; rw [if_neg (by rw [h]; decide)]; rfl
theorem nI_gt0 {n : Nat} (h : ¬ nI n ≤ 0) : 0 < n := by
  rcases Nat.eq_zero_or_pos n with q | q
  · exact absurd (by rw [q]; decide) h
  · exact q
theorem nI_le0 {n : Nat} (hn : n < 2 ^ 31) (h : nI n ≤ 0) : n = 0 := by
  rcases Nat.eq_zero_or_pos n with q | q
  · exact q
  · exact absurd h (nI_nle q hn)
theorem nI_sub3 (a b c : Nat) : nI a - nI b - nI c = nI a - nI (b + c) := by rw [← nI_add, Int32.sub_sub]
theorem nI_sub00 (a b : Nat) (h : b = 0) : nI a = nI a - nI b := by rw [h, pk_sub (Nat.zero_le a), Nat.sub_zero]
theorem lossC_0 (st : St) (k : Nat) : lossC st k (k + 1) = 0 := by
  unfold lossC
  rw [sm_cong (g := fun _ => 0) (fun j hj => if_neg (by omega))]
  exact sm_zero _
theorem lossC_s (st : St) {k j : Nat} (h : k < j) : lossC st k (j + 1) = lossC st k j + lossK st k j := by
  show sm _ j + (if k < j then lossK st k j else 0) = sm _ j + _
  rw [if_pos h]
theorem lossL_t (st : St) {k i : Nat} (h : k < st 8 i) : lossL st k (i + 1) = lossL st k i + st (1000 + i) (16 * st 3 k + st 2 k) := by
  show sm _ i + (if k < st 8 i then st (1000 + i) (16 * st 3 k + st 2 k) else 0) = sm _ i + _
  rw [if_pos h]
theorem lossL_f (st : St) {k i : Nat} (h : ¬ k < st 8 i) : lossL st k (i + 1) = lossL st k i := by
  show sm _ i + (if k < st 8 i then st (1000 + i) (16 * st 3 k + st 2 k) else 0) = sm _ i
  rw [if_neg h]
  rfl
theorem lossN_le {x y r fd x2 y2 r2 z2 : Nat} (h1 : fd ≤ 30) (h2 : z2 ≤ 6) : lossN x y r fd x2 y2 r2 z2 ≤ 30 := by
  unfold lossN
  split
  · exact h1
  · split <;> omega
theorem lossC_le (st : St) (hI : sInv st) {k : Nat} (hk : k < st 0 0) : ∀ n, n ≤ st 0 0 → lossC st k n ≤ 6000 := fun n hn => by
  have h := sm_bound (f := fun j => if k < j then lossK st k j else 0) (c := 30) (n := n) (fun j hj => by
    split
    · exact lossN_le (hI.2.2.1 k hk).2.2.2.2.2.2.1 (hI.2.2.1 j (by omega)).2.2.2.1
    · omega)
  have := hI.1.1
  unfold lossC
  omega
theorem lossL_le (st : St) (hI : sInv st) {k : Nat} (hk : k < st 0 0) : ∀ n, n ≤ st 0 1 → lossL st k n ≤ 8000 := fun n hn => by
  have h0 := hI.2.2.1 k hk
  have h := sm_bound (f := fun i => if k < st 8 i then st (1000 + i) (16 * st 3 k + st 2 k) else 0) (c := 80) (n := n) (fun i hi => by
    split
    · exact (hI.2.2.2.1 i (by omega)).2 _ (by have := h0.1; have := h0.2.1; omega)
    · omega)
  have := hI.1.2.1
  unfold lossL
  omega
section CXU
variable {G : cx_G} {p : Program} {l : Launch} {e : Env} {R : Room} {s : State} {m : MethodId} {args : Array Value} {below : List Frame} {meth : Method} {c : Code} {H : Heap} {locs : List Loc} {cells slots : Nat}
variable {cc : ByteArray} {nL : Nat} {own : String} {Ts : List Cond} {pc : Nat} {ls : Array Slot} {rest st : List Value} {f : Wd}
variable {x y : MethodName} {bytes : ByteArray} {maxL mc ms n index : Nat} {ret : Option FieldType} {ws ws' : List Cond} {rm : Room} {Qc : Array Value → State → Outcome → State → Prop} {As : List Value} {b : Nat}
theorem run_U (X : cxC G p l R c cc nL m meth s args own Ts) (S : cxS G s f H locs) (hM : Met l y ws rm (va_Pc (.ref b :: As) (Pin G f)) Qc mc ms (gA G)) {ci : Nat} {r : vw_C} {C owner : String} (n : Nat) (hg : GoodIn Ts (va_wsU own index C owner x y ws)) (hw : ws = Cond.code y bytes maxL ret :: ws') (hrc : rm.cells = mc) (hrs : rm.slots = ms)
    (hB : (⟨owner, x.name, x.desc⟩ : MethodName) ∈ gB) (hd : owner ≠ "java/lang/invoke/MethodHandle" ∧ owner ≠ "java/lang/invoke/VarHandle" ∧ (parseMethodDescriptor x.desc).map (fun d => d.parameters.length) = some n) (hR : rm.frames + 1 ≤ R.frames ∧ 8 + (maxL + 11) + rm.locals ≤ R.locals)
    (hb : ∃ (t : Nat) (fs : List Value), f b = some (t, .inr (ci, fs))) (hc : vwCl[ci]? = some r) (hr : r.1 = C) (hn : As.length = n) (hls : ls.size = nL) (hst : st = As.reverse ++ .ref b :: rest) (hW : (rest.map fun v => v.category).sum ≤ 8) (hdg : decode cc pc = .ok (.invokevirtual index, 3)) (hf : cells + mc ≤ R.cells ∧ slots + ms ≤ R.slots) :
    va_Run p l e R s m args below meth c H locs cells slots mc ms (F0 m pc ls st) rest (Qc (Value.ref b :: As).toArray) (gA G) := by
  subst hr
  obtain ⟨t0, fs, hb⟩ := hb
  exact va_runU (As := As) ⟨X.1, X.2.1, X.2.2.1, X.2.2.2.1, X.2.2.2.2.1⟩ hM (va_cwA n X.2.2.2.2.1 hg hw hrc hrs (X.2.2.2.2.2.1.2.2.2.2.2.2.2.2.2.2 _ hB) hd hR) ⟨Pin.blind, va_recv X.2.2.2.2.2.1.1 (S.1.one hb) (q0 := 0) hc rfl, fun U hU hW => ⟨rfl, by rw [hU]; exact S.1, gk.warm hW X.2.2.2.2.2.1⟩⟩ rfl hn hls hst (lv_room (pc := pc) (ls := ls) (rest := st) hW) hdg hf
end CXU
/-- what an eye counts -/
def seenP (st : St) (q ey x0 y0 tx ty : Nat) (k : Nat) : Bool := decide (q ≤ st 5 k ∧ (x0 ≤ st 2 k ∧ st 2 k ≤ tx ∧ y0 ≤ st 3 k ∧ st 3 k ≤ ty) ∧ 0 < st 7 k ∧ 10 - st 9 ey ≤ st 7 k)
set_option maxRecDepth 100000 in
set_option maxHeartbeats 4000000 in
/-- countLeft -/
theorem m_countLeft (l : Launch) (G : cx_G) (f : Wd) (st : St) (x gr rw1 L1 L2 L3 cu L4 : Nat) (g1 g2 g3 g4 : Nat → Nat) (w : Nat → Int32) (hI : sInv st) (hR : RXx G f st x gr rw1 L1 L2 L3 cu L4 g1 g2 g3 g4 w) : PI l G yX9_countLeft wsX9_countLeft 3 64 [.ref x] f (fun v => v = nI (cn (fun k => decide (0 < st 7 k)) (st 0 0))) := by
  refine cx_body (cc := cX9_countLeft) (n := 3) (ret := (some .int)) (by decide +kernel) rfl (Nat.le_of_ble_eq_true rfl) ?_
  intro p0 e0 s0 m0 b0 meth0 c0 ls X hr hnm S hl
  have X : cxC G p0 l _ c0 cX9_countLeft 3 m0 meth0 s0 _ RX9 wsX9_countLeft := X
  have hl : lv_has ls 3 [(0, .ref x)] := hl
  have in_RX1 : ∀ w ∈ u_ws RX1 TX1 6, w ∈ wsX9_countLeft := by decide +kernel
  have in_RX9 : ∀ w ∈ u_ws RX9 TX9 6, w ∈ wsX9_countLeft := by decide +kernel
  obtain ⟨hi0, hi1, hi2, hi3, hi4, hi5, hi6, hi7⟩ := id hI
  obtain ⟨hx, hgr, hrw, hgd, hL1, hC, hL2, hS2, hL3, hE, hcu, hL4, hA⟩ := id hR
  refine lv_iconst (v := 0) X.1 X.2.1 dX9_countLeft_0 (by decide) ?_
  refine lv_istore_n (lv' := [(1, .int 0), (0, .ref x)]) X.1 X.2.1 dX9_countLeft_1 rfl hl (by decide) rfl (fun ls hl => ?_)
  refine lv_iconst (v := 0) X.1 X.2.1 dX9_countLeft_2 (by decide) ?_
  refine lv_istore_n (lv' := [(2, .int 0), (1, .int 0), (0, .ref x)]) X.1 X.2.1 dX9_countLeft_3 rfl hl (by decide) rfl (fun ls hl => ?_)
  refine W_genQ (fun Q9 hQ9 => ?_)
  have loop : ∀ (N : Nat) (k : Nat) (H : Heap) (locs : List Loc) (ls : Array Slot), k ≤ st 0 0 → st 0 0 < k + N → cxS G s0 f H locs → lv_has ls 3 [(0, .ref x), (1, .int (nI (cn (fun k => decide (0 < st 7 k)) k))), (2, .int (nI k))] → W p0 l e0 ({ frames := 3, cells := 0, slots := 0, locals := 64 } : Room) s0 m0 ([.ref x] : List Value).toArray b0 meth0 c0 H locs 0 0 Q9 (F0 m0 4 ls []) := by
    intro N
    induction N with
    | zero =>
      intro k  H locs ls hk hN S hl
      exfalso
      omega
    | succ N ih =>
      intro k  H locs ls hk hN S hl
      refine lv_iload_n X.1 X.2.1 dX9_countLeft_4 rfl (lv_at hl 2 rfl) ?_
      refine lv_aload_n X.1 X.2.1 dX9_countLeft_5 rfl (lv_at hl 0 rfl) ?_
      refine r_get (C := RX9) (T := TX9) (N := 6) (ref := "Craterclock") X S in_RX9 hx rfl 1 (by decide) (by decide +kernel) (fun _ h => h) rfl dX9_countLeft_6 ?_
      refine call_ip (run_V X S (m_sizeL l G f L1 3 (st 0 0) g1 hL1) 0 gX9_countLeft_Jx4a65c_size_8abf5 rfl rfl rfl (by decide +kernel) ⟨(by exact Nat.le_of_ble_eq_true rfl), (by exact Nat.le_of_ble_eq_true rfl)⟩ hL1.obj rfl rfl rfl hl.1 rfl (by exact Nat.le_of_ble_eq_true rfl) dX9_countLeft_9 ⟨(Nat.zero_le _), (Nat.zero_le _)⟩) S (fun r_9 H locs hr_9 S => ?_)
      subst hr_9
      refine lv_icmp_ge (tgt := 41) X.1 X.2.1 dX9_countLeft_12 (by decide) (fun c_12 => ?_) (fun c_12 => ?_)
      · have hkn : k = st 0 0 := by
          have := (nI_leI (by omega) (by omega)).mp c_12
          omega
        subst hQ9
        refine lv_iload_n X.1 X.2.1 dX9_countLeft_41 rfl (lv_at hl 1 rfl) ?_
        refine e_ip X hr S dX9_countLeft_42 ?_
        rw [hkn]
      · have hlt_k : k < st 0 0 := Nat.lt_of_not_le (fun z => c_12 (nI_le z (by omega)))
        refine lv_aload_n X.1 X.2.1 dX9_countLeft_15 rfl (lv_at hl 0 rfl) ?_
        refine r_get (C := RX9) (T := TX9) (N := 6) (ref := "Craterclock") X S in_RX9 hx rfl 1 (by decide) (by decide +kernel) (fun _ h => h) rfl dX9_countLeft_16 ?_
        refine lv_iload_n X.1 X.2.1 dX9_countLeft_19 rfl (lv_at hl 2 rfl) ?_
        refine call_rp (run_V X S (m_get l G f L1 3 (st 0 0) k g1 hL1 hlt_k (by omega)) 1 gX9_countLeft_Jx4a65c_get_915e3 rfl rfl rfl (by decide +kernel) ⟨(by exact Nat.le_of_ble_eq_true rfl), (by exact Nat.le_of_ble_eq_true rfl)⟩ hL1.obj rfl rfl rfl hl.1 rfl (by exact Nat.le_of_ble_eq_true rfl) dX9_countLeft_20 ⟨(Nat.zero_le _), (Nat.zero_le _)⟩) S (fun r_20 H locs hr_20 S => ?_)
        subst hr_20
        refine r_castS X S (nm := "Craterclock$Crater") rfl (by decide +kernel) (hC k hlt_k) rfl dX9_countLeft_23 ?_
        refine r_get (C := RX1) (T := TX1) (N := 6) (ref := "Craterclock$Crater") X S in_RX1 (hC k hlt_k) rfl 5 (by decide) (by decide +kernel) (fun _ h => h) rfl dX9_countLeft_26 ?_
        refine lv_if_le (tgt := 35) X.1 X.2.1 dX9_countLeft_29 (by decide) (fun c_29 => ?_) (fun c_29 => ?_)
        · refine lv_iinc (v := (nI (k + 1))) (lv' := [(2, .int (nI (k + 1))), (0, .ref x), (1, .int (nI (cn (fun k => decide (0 < st 7 k)) k)))]) X.1 X.2.1 dX9_countLeft_35 hl (k := 2) rfl (nI_1 _) (by decide) rfl (fun ls hl => ?_)
          refine lv_goto (tgt := 4) X.1 X.2.1 dX9_countLeft_38 (by decide) ?_
          have hcn : cn (fun k => decide (0 < st 7 k)) (k + 1) = cn (fun k => decide (0 < st 7 k)) k := cn_f (decide_eq_false (fun z => by have := nI_le0 (by have := (hi2 k hlt_k).2.2.2.2.2.2; omega) c_29; omega))
          exact ih (k + 1) H locs ls (by omega) (by omega) S (by rw [hcn]; exact lv_sub hl [1, 2, 0] rfl)
        · refine lv_iinc (v := (nI ((cn (fun k => decide (0 < st 7 k)) k) + 1))) (lv' := [(1, .int (nI ((cn (fun k => decide (0 < st 7 k)) k) + 1))), (0, .ref x), (2, .int (nI k))]) X.1 X.2.1 dX9_countLeft_32 hl (k := 1) rfl (nI_1 _) (by decide) rfl (fun ls hl => ?_)
          refine lv_iinc (v := (nI (k + 1))) (lv' := [(2, .int (nI (k + 1))), (1, .int (nI ((cn (fun k => decide (0 < st 7 k)) k) + 1))), (0, .ref x)]) X.1 X.2.1 dX9_countLeft_35 hl (k := 2) rfl (nI_1 _) (by decide) rfl (fun ls hl => ?_)
          refine lv_goto (tgt := 4) X.1 X.2.1 dX9_countLeft_38 (by decide) ?_
          have hcn : cn (fun k => decide (0 < st 7 k)) (k + 1) = cn (fun k => decide (0 < st 7 k)) k + 1 := cn_t (decide_eq_true (nI_gt0 c_29))
          exact ih (k + 1) H locs ls (by omega) (by omega) S (by rw [hcn]; exact lv_sub hl [2, 1, 0] rfl)
  exact loop (st 0 0 + 1) 0 _ _ _ (by omega) (by omega) S (lv_sub hl [2, 1, 0] rfl)

set_option maxRecDepth 100000 in
set_option maxHeartbeats 4000000 in
/-- depthOnceMore -/
theorem m_depthOnceMore (l : Launch) (G : cx_G) (f : Wd) (st : St) (x gr rw1 L1 L2 L3 cu L4 : Nat) (g1 g2 g3 g4 : Nat → Nat) (w : Nat → Int32) (hI : sInv st) (hR : RXx G f st x gr rw1 L1 L2 L3 cu L4 g1 g2 g3 g4 w) (k : Nat) (hlt_k : k < st 0 0) : PI l G yX9_depthOnceMore wsX9_depthOnceMore 3 64 [.ref x, .int (nI k)] f (fun v => v = nI (st 7 k)) := by
  refine cx_body (cc := cX9_depthOnceMore) (n := 6) (ret := (some .int)) (by decide +kernel) rfl (Nat.le_of_ble_eq_true rfl) ?_
  intro p0 e0 s0 m0 b0 meth0 c0 ls X hr hnm S hl
  have X : cxC G p0 l _ c0 cX9_depthOnceMore 6 m0 meth0 s0 _ RX9 wsX9_depthOnceMore := X
  have hl : lv_has ls 6 [(0, .ref x), (1, .int (nI k))] := hl
  have in_RX1 : ∀ w ∈ u_ws RX1 TX1 6, w ∈ wsX9_depthOnceMore := by decide +kernel
  have in_RX5 : ∀ w ∈ u_ws RX5 TX5 3, w ∈ wsX9_depthOnceMore := by decide +kernel
  have in_RX8 : ∀ w ∈ u_ws RX8 TX8 3, w ∈ wsX9_depthOnceMore := by decide +kernel
  have in_RX9 : ∀ w ∈ u_ws RX9 TX9 6, w ∈ wsX9_depthOnceMore := by decide +kernel
  obtain ⟨hi0, hi1, hi2, hi3, hi4, hi5, hi6, hi7⟩ := id hI
  obtain ⟨hx, hgr, hrw, hgd, hL1, hC, hL2, hS2, hL3, hE, hcu, hL4, hA⟩ := id hR
  have hck := hi2 k hlt_k
  obtain ⟨hcx, hcy, hz1, hz6, hr1, hr7, hfd, hdd⟩ := id hck
  refine lv_iload_n X.1 X.2.1 dX9_depthOnceMore_0 rfl (lv_at hl 1 rfl) ?_
  refine lv_if_lt (tgt := 15) X.1 X.2.1 dX9_depthOnceMore_1 (by decide) (fun c_1 => ?_) (fun c_1 => ?_)
  · exact absurd c_1 (nI_pos (by omega))
  · refine lv_iload_n X.1 X.2.1 dX9_depthOnceMore_4 rfl (lv_at hl 1 rfl) ?_
    refine lv_aload_n X.1 X.2.1 dX9_depthOnceMore_5 rfl (lv_at hl 0 rfl) ?_
    refine r_get (C := RX9) (T := TX9) (N := 6) (ref := "Craterclock") X S in_RX9 hx rfl 1 (by decide) (by decide +kernel) (fun _ h => h) rfl dX9_depthOnceMore_6 ?_
    refine call_ip (run_V X S (m_sizeL l G f L1 3 (st 0 0) g1 hL1) 0 gX9_depthOnceMore_Jx4a65c_size_8abf5 rfl rfl rfl (by decide +kernel) ⟨(by exact Nat.le_of_ble_eq_true rfl), (by exact Nat.le_of_ble_eq_true rfl)⟩ hL1.obj rfl rfl rfl hl.1 rfl (by exact Nat.le_of_ble_eq_true rfl) dX9_depthOnceMore_9 ⟨(Nat.zero_le _), (Nat.zero_le _)⟩) S (fun r_9 H locs hr_9 S => ?_)
    subst hr_9
    refine lv_icmp_lt (tgt := 17) X.1 X.2.1 dX9_depthOnceMore_12 (by decide) (fun c_12 => ?_) (fun c_12 => ?_)
    · refine lv_aload_n X.1 X.2.1 dX9_depthOnceMore_17 rfl (lv_at hl 0 rfl) ?_
      refine r_get (C := RX9) (T := TX9) (N := 6) (ref := "Craterclock") X S in_RX9 hx rfl 1 (by decide) (by decide +kernel) (fun _ h => h) rfl dX9_depthOnceMore_18 ?_
      refine lv_iload_n X.1 X.2.1 dX9_depthOnceMore_21 rfl (lv_at hl 1 rfl) ?_
      refine call_rp (run_V X S (m_get l G f L1 3 (st 0 0) k g1 hL1 hlt_k (by omega)) 1 gX9_depthOnceMore_Jx4a65c_get_915e3 rfl rfl rfl (by decide +kernel) ⟨(by exact Nat.le_of_ble_eq_true rfl), (by exact Nat.le_of_ble_eq_true rfl)⟩ hL1.obj rfl rfl rfl hl.1 rfl (by exact Nat.le_of_ble_eq_true rfl) dX9_depthOnceMore_22 ⟨(Nat.zero_le _), (Nat.zero_le _)⟩) S (fun r_22 H locs hr_22 S => ?_)
      subst hr_22
      refine r_castS X S (nm := "Craterclock$Crater") rfl (by decide +kernel) (hC k hlt_k) rfl dX9_depthOnceMore_25 ?_
      refine lv_astore_n (lv' := [(2, .ref (g1 k)), (0, .ref x), (1, .int (nI k))]) X.1 X.2.1 dX9_depthOnceMore_28 rfl hl (by decide) rfl (fun ls hl => ?_)
      refine lv_aload_n X.1 X.2.1 dX9_depthOnceMore_29 rfl (lv_at hl 0 rfl) ?_
      refine r_get (C := RX1) (T := TX1) (N := 6) (ref := "Craterclock$Crater") X S in_RX1 (hC k hlt_k) rfl 4 (by decide) (by decide +kernel) (fun _ h => h) rfl dX9_depthOnceMore_30 ?_
      refine r_toi (nI_sub00 (st 6 k) (lossC st k (k + 1)) (lossC_0 st k)) ?_
      refine lv_istore_n (lv' := [(3, .int (nI (st 6 k) - nI (lossC st k (k + 1)))), (2, .ref (g1 k)), (0, .ref x), (1, .int (nI k))]) X.1 X.2.1 dX9_depthOnceMore_33 rfl hl (by decide) rfl (fun ls hl => ?_)
      refine lv_iload_n X.1 X.2.1 dX9_depthOnceMore_34 rfl (lv_at hl 3 rfl) ?_
      refine lv_iconst (v := 1) X.1 X.2.1 dX9_depthOnceMore_35 (by decide) ?_
      refine lv_iadd X.1 X.2.1 dX9_depthOnceMore_36 ?_
      refine r_toi (nI_1 k) ?_
      refine lv_istore (lv' := [(4, .int (nI (k + 1))), (3, .int (nI (st 6 k) - nI (lossC st k (k + 1)))), (2, .ref (g1 k)), (0, .ref x), (1, .int (nI k))]) X.1 X.2.1 dX9_depthOnceMore_37 hl (by decide) rfl (fun ls hl => ?_)
      refine W_genQ (fun Q9 hQ9 => ?_)
      have loop : ∀ (N : Nat) (j : Nat) (H : Heap) (locs : List Loc) (ls : Array Slot), k < j → j ≤ st 0 0 → st 0 0 < j + N → cxS G s0 f H locs → lv_has ls 6 [(0, .ref x), (1, .int (nI k)), (2, .ref (g1 k)), (3, .int (nI (st 6 k) - nI (lossC st k j))), (4, .int (nI j))] → W p0 l e0 ({ frames := 3, cells := 0, slots := 0, locals := 64 } : Room) s0 m0 ([.ref x, .int (nI k)] : List Value).toArray b0 meth0 c0 H locs 0 0 Q9 (F0 m0 39 ls []) := by
        intro N
        induction N with
        | zero =>
          intro j  H locs ls hkj hk hN S hl
          exfalso
          omega
        | succ N ih =>
          intro j  H locs ls hkj hk hN S hl
          refine lv_iload X.1 X.2.1 dX9_depthOnceMore_39 (lv_at hl 4 rfl) ?_
          refine lv_aload_n X.1 X.2.1 dX9_depthOnceMore_41 rfl (lv_at hl 0 rfl) ?_
          refine r_get (C := RX9) (T := TX9) (N := 6) (ref := "Craterclock") X S in_RX9 hx rfl 1 (by decide) (by decide +kernel) (fun _ h => h) rfl dX9_depthOnceMore_42 ?_
          refine call_ip (run_V X S (m_sizeL l G f L1 3 (st 0 0) g1 hL1) 0 gX9_depthOnceMore_Jx4a65c_size_8abf5 rfl rfl rfl (by decide +kernel) ⟨(by exact Nat.le_of_ble_eq_true rfl), (by exact Nat.le_of_ble_eq_true rfl)⟩ hL1.obj rfl rfl rfl hl.1 rfl (by exact Nat.le_of_ble_eq_true rfl) dX9_depthOnceMore_45 ⟨(Nat.zero_le _), (Nat.zero_le _)⟩) S (fun r_45 H locs hr_45 S => ?_)
          subst hr_45
          refine lv_icmp_ge (tgt := 76) X.1 X.2.1 dX9_depthOnceMore_48 (by decide) (fun c_48 => ?_) (fun c_48 => ?_)
          · have hkn : j = st 0 0 := by
              have := (nI_leI (by omega) (by omega)).mp c_48
              omega
            subst hkn
            refine lv_iconst (v := 0) X.1 X.2.1 dX9_depthOnceMore_76 (by decide) ?_
            refine lv_istore (lv' := [(4, .int 0), (0, .ref x), (1, .int (nI k)), (2, .ref (g1 k)), (3, .int (nI (st 6 k) - nI (lossC st k (st 0 0))))]) X.1 X.2.1 dX9_depthOnceMore_77 hl (by decide) rfl (fun ls hl => ?_)
            have loop2 : ∀ (N : Nat) (i : Nat) (H : Heap) (locs : List Loc) (ls : Array Slot), i ≤ st 0 1 → st 0 1 < i + N → cxS G s0 f H locs → lv_has ls 6 [(0, .ref x), (1, .int (nI k)), (2, .ref (g1 k)), (3, .int (nI (st 6 k) - nI (lossC st k (st 0 0) + lossL st k i))), (4, .int (nI i))] → W p0 l e0 ({ frames := 3, cells := 0, slots := 0, locals := 64 } : Room) s0 m0 ([.ref x, .int (nI k)] : List Value).toArray b0 meth0 c0 H locs 0 0 Q9 (F0 m0 79 ls []) := by
              intro N
              induction N with
              | zero =>
                intro i  H locs ls hk hN S hl
                exfalso
                omega
              | succ N ih2 =>
                intro i  H locs ls hk hN S hl
                refine lv_iload X.1 X.2.1 dX9_depthOnceMore_79 (lv_at hl 4 rfl) ?_
                refine lv_aload_n X.1 X.2.1 dX9_depthOnceMore_81 rfl (lv_at hl 0 rfl) ?_
                refine r_get (C := RX9) (T := TX9) (N := 6) (ref := "Craterclock") X S in_RX9 hx rfl 2 (by decide) (by decide +kernel) (fun _ h => h) rfl dX9_depthOnceMore_82 ?_
                refine call_ip (run_V X S (m_sizeL l G f L2 4 (st 0 1) g2 hL2) 0 gX9_depthOnceMore_Jx4a65c_size_8abf5 rfl rfl rfl (by decide +kernel) ⟨(by exact Nat.le_of_ble_eq_true rfl), (by exact Nat.le_of_ble_eq_true rfl)⟩ hL2.obj rfl rfl rfl hl.1 rfl (by exact Nat.le_of_ble_eq_true rfl) dX9_depthOnceMore_85 ⟨(Nat.zero_le _), (Nat.zero_le _)⟩) S (fun r_85 H locs hr_85 S => ?_)
                subst hr_85
                refine lv_icmp_ge (tgt := 129) X.1 X.2.1 dX9_depthOnceMore_88 (by decide) (fun c_88 => ?_) (fun c_88 => ?_)
                · have hkn : i = st 0 1 := by
                    have := (nI_leI (by omega) (by omega)).mp c_88
                    omega
                  subst hkn
                  subst hQ9
                  refine lv_iconst (v := 0) X.1 X.2.1 dX9_depthOnceMore_129 (by decide) ?_
                  refine lv_iload_n X.1 X.2.1 dX9_depthOnceMore_130 rfl (lv_at hl 3 rfl) ?_
                  refine r_max (v := nI (st 6 k - (lossC st k (st 0 0) + lossL st k (st 0 1)))) X (by decide +kernel) (by decide +kernel) (by decide +kernel) (by decide +kernel) hl.1 (by exact Nat.le_of_ble_eq_true rfl) (by exact Nat.le_of_ble_eq_true rfl) (Nat.zero_le _) (Nat.zero_le _) (by exact max0 (by omega) (by have := lossC_le st hI hlt_k _ (Nat.le_refl _); have := lossL_le st hI hlt_k _ (Nat.le_refl _); omega)) dX9_depthOnceMore_131 ?_
                  refine e_ip X hr S dX9_depthOnceMore_134 ?_
                  rw [hi7 k hlt_k]
                · have hlt_i : i < st 0 1 := Nat.lt_of_not_le (fun z => c_88 (nI_le z (by omega)))
                  refine lv_aload_n X.1 X.2.1 dX9_depthOnceMore_91 rfl (lv_at hl 0 rfl) ?_
                  refine r_get (C := RX9) (T := TX9) (N := 6) (ref := "Craterclock") X S in_RX9 hx rfl 2 (by decide) (by decide +kernel) (fun _ h => h) rfl dX9_depthOnceMore_92 ?_
                  refine lv_iload X.1 X.2.1 dX9_depthOnceMore_95 (lv_at hl 4 rfl) ?_
                  refine call_rp (run_V X S (m_get l G f L2 4 (st 0 1) i g2 hL2 hlt_i (by omega)) 1 gX9_depthOnceMore_Jx4a65c_get_915e3 rfl rfl rfl (by decide +kernel) ⟨(by exact Nat.le_of_ble_eq_true rfl), (by exact Nat.le_of_ble_eq_true rfl)⟩ hL2.obj rfl rfl rfl hl.1 rfl (by exact Nat.le_of_ble_eq_true rfl) dX9_depthOnceMore_97 ⟨(Nat.zero_le _), (Nat.zero_le _)⟩) S (fun r_97 H locs hr_97 S => ?_)
                  subst hr_97
                  have hb8 := (hi3 i hlt_i).1
                  rcases hS2 i hlt_i with ⟨fl, vv, x0, y0, tx, ty, ho, hfl, ⟨hx0, hy0, htx, hty⟩, hφ⟩ | ⟨sg, sr, vv, sw, sgd, ho, hsg, hsr, hgrd, hsgb, hvv, hφ⟩
                  · refine r_castY X S (nm := "Craterclock$Lessening") (by decide +kernel) (by decide +kernel) ho rfl dX9_depthOnceMore_100 ?_
                    refine lv_astore (lv' := [(5, .ref (g2 i)), (0, .ref x), (1, .int (nI k)), (2, .ref (g1 k)), (3, .int (nI (st 6 k) - nI (lossC st k (st 0 0) + lossL st k i))), (4, .int (nI i))]) X.1 X.2.1 dX9_depthOnceMore_103 hl (by decide) rfl (fun ls hl => ?_)
                    refine lv_iload_n X.1 X.2.1 dX9_depthOnceMore_105 rfl (lv_at hl 2 rfl) ?_
                    refine lv_aload X.1 X.2.1 dX9_depthOnceMore_106 (lv_at hl 0 rfl) ?_
                    refine r_get (C := RX5) (T := TX5) (N := 3) (ref := "Craterclock$Lessening") X S in_RX5 ho rfl 0 (by decide) (by decide +kernel) (fun _ h => h) rfl dX9_depthOnceMore_108 ?_
                    refine lv_icmp_ge (tgt := 123) X.1 X.2.1 dX9_depthOnceMore_111 (by decide) (fun c_111 => ?_) (fun c_111 => ?_)
                    · refine lv_iinc (v := (nI (i + 1))) (lv' := [(4, .int (nI (i + 1))), (5, .ref (g2 i)), (0, .ref x), (1, .int (nI k)), (2, .ref (g1 k)), (3, .int (nI (st 6 k) - nI (lossC st k (st 0 0) + lossL st k i)))]) X.1 X.2.1 dX9_depthOnceMore_123 hl (k := 5) rfl (nI_1 _) (by decide) rfl (fun ls hl => ?_)
                      refine lv_goto (tgt := 79) X.1 X.2.1 dX9_depthOnceMore_126 (by decide) ?_
                      exact ih2 (i + 1) H locs ls (by omega) (by omega) S (by rw [lossL_f st (fun z => nI_ge z (by omega) c_111)]; exact lv_sub hl [2, 3, 4, 5, 0] rfl)
                    · refine lv_iload_n X.1 X.2.1 dX9_depthOnceMore_114 rfl (lv_at hl 4 rfl) ?_
                      refine lv_aload X.1 X.2.1 dX9_depthOnceMore_115 (lv_at hl 0 rfl) ?_
                      refine lv_aload_n X.1 X.2.1 dX9_depthOnceMore_117 rfl (lv_at hl 3 rfl) ?_
                      refine call_ip (run_U X S (m_lossF l G f (g2 i) 8 fl 8 (st 8 i) x0 y0 tx ty vv (g1 k) (100 + k) (st 2 k) (st 3 k) (st 4 k) (st 5 k) (st 6 k) (st 7 k) ho hfl (hC k hlt_k) hcx hcy hx0 hy0 htx hty) 1 gX9_depthOnceMore_X5_lossOf_u214X5 rfl rfl rfl (by decide +kernel) (by decide +kernel) ⟨(by exact Nat.le_of_ble_eq_true rfl), (by exact Nat.le_of_ble_eq_true rfl)⟩ ⟨_, _, ho⟩ rfl rfl rfl hl.1 rfl (by exact Nat.le_of_ble_eq_true rfl) dX9_depthOnceMore_118 ⟨(Nat.zero_le _), (Nat.zero_le _)⟩) S (fun r_118 H locs hr_118 S => ?_)
                      rw [← hφ _ _ hcx hcy] at hr_118
                      subst hr_118
                      refine lv_isub X.1 X.2.1 dX9_depthOnceMore_121 ?_
                      refine r_toi (nI_sub3 _ _ _) ?_
                      refine lv_istore_n (lv' := [(3, .int (nI (st 6 k) - nI (lossC st k (st 0 0) + lossL st k i + st (1000 + i) (16 * st 3 k + st 2 k)))), (5, .ref (g2 i)), (0, .ref x), (1, .int (nI k)), (2, .ref (g1 k)), (4, .int (nI i))]) X.1 X.2.1 dX9_depthOnceMore_122 rfl hl (by decide) rfl (fun ls hl => ?_)
                      refine lv_iinc (v := (nI (i + 1))) (lv' := [(4, .int (nI (i + 1))), (3, .int (nI (st 6 k) - nI (lossC st k (st 0 0) + lossL st k i + st (1000 + i) (16 * st 3 k + st 2 k)))), (5, .ref (g2 i)), (0, .ref x), (1, .int (nI k)), (2, .ref (g1 k))]) X.1 X.2.1 dX9_depthOnceMore_123 hl (k := 5) rfl (nI_1 _) (by decide) rfl (fun ls hl => ?_)
                      refine lv_goto (tgt := 79) X.1 X.2.1 dX9_depthOnceMore_126 (by decide) ?_
                      exact ih2 (i + 1) H locs ls (by omega) (by omega) S (by rw [lossL_t st (Nat.lt_of_not_le (fun z => c_111 (nI_le z (by omega)))), ← Nat.add_assoc]; exact lv_sub hl [3, 4, 5, 1, 0] rfl)
                  · refine r_castY X S (nm := "Craterclock$Lessening") (by decide +kernel) (by decide +kernel) ho rfl dX9_depthOnceMore_100 ?_
                    refine lv_astore (lv' := [(5, .ref (g2 i)), (0, .ref x), (1, .int (nI k)), (2, .ref (g1 k)), (3, .int (nI (st 6 k) - nI (lossC st k (st 0 0) + lossL st k i))), (4, .int (nI i))]) X.1 X.2.1 dX9_depthOnceMore_103 hl (by decide) rfl (fun ls hl => ?_)
                    refine lv_iload_n X.1 X.2.1 dX9_depthOnceMore_105 rfl (lv_at hl 2 rfl) ?_
                    refine lv_aload X.1 X.2.1 dX9_depthOnceMore_106 (lv_at hl 0 rfl) ?_
                    refine r_get (C := RX8) (T := TX8) (N := 3) (ref := "Craterclock$Lessening") X S in_RX8 ho rfl 0 (by decide) (by decide +kernel) (fun _ h => h) rfl dX9_depthOnceMore_108 ?_
                    refine lv_icmp_ge (tgt := 123) X.1 X.2.1 dX9_depthOnceMore_111 (by decide) (fun c_111 => ?_) (fun c_111 => ?_)
                    · refine lv_iinc (v := (nI (i + 1))) (lv' := [(4, .int (nI (i + 1))), (5, .ref (g2 i)), (0, .ref x), (1, .int (nI k)), (2, .ref (g1 k)), (3, .int (nI (st 6 k) - nI (lossC st k (st 0 0) + lossL st k i)))]) X.1 X.2.1 dX9_depthOnceMore_123 hl (k := 5) rfl (nI_1 _) (by decide) rfl (fun ls hl => ?_)
                      refine lv_goto (tgt := 79) X.1 X.2.1 dX9_depthOnceMore_126 (by decide) ?_
                      exact ih2 (i + 1) H locs ls (by omega) (by omega) S (by rw [lossL_f st (fun z => nI_ge z (by omega) c_111)]; exact lv_sub hl [2, 3, 4, 5, 0] rfl)
                    · refine lv_iload_n X.1 X.2.1 dX9_depthOnceMore_114 rfl (lv_at hl 4 rfl) ?_
                      refine lv_aload X.1 X.2.1 dX9_depthOnceMore_115 (lv_at hl 0 rfl) ?_
                      refine lv_aload_n X.1 X.2.1 dX9_depthOnceMore_117 rfl (lv_at hl 3 rfl) ?_
                      refine call_ip (run_U X S (m_lossS l G f (g2 i) 8 sg 8 sr 8 (st 8 i) vv (g1 k) (100 + k) sw sgd (st 2 k) (st 3 k) (st 4 k) (st 5 k) (st 6 k) (st 7 k) ho hsg hsr hgrd (hC k hlt_k) hcx hcy (hsgb _ (by omega)) hvv) 1 gX9_depthOnceMore_X8_lossOf_u214X8 rfl rfl rfl (by decide +kernel) (by decide +kernel) ⟨(by exact Nat.le_of_ble_eq_true rfl), (by exact Nat.le_of_ble_eq_true rfl)⟩ ⟨_, _, ho⟩ rfl rfl rfl hl.1 rfl (by exact Nat.le_of_ble_eq_true rfl) dX9_depthOnceMore_118 ⟨(Nat.zero_le _), (Nat.zero_le _)⟩) S (fun r_118 H locs hr_118 S => ?_)
                      rw [← hφ _ _ hcx hcy] at hr_118
                      subst hr_118
                      refine lv_isub X.1 X.2.1 dX9_depthOnceMore_121 ?_
                      refine r_toi (nI_sub3 _ _ _) ?_
                      refine lv_istore_n (lv' := [(3, .int (nI (st 6 k) - nI (lossC st k (st 0 0) + lossL st k i + st (1000 + i) (16 * st 3 k + st 2 k)))), (5, .ref (g2 i)), (0, .ref x), (1, .int (nI k)), (2, .ref (g1 k)), (4, .int (nI i))]) X.1 X.2.1 dX9_depthOnceMore_122 rfl hl (by decide) rfl (fun ls hl => ?_)
                      refine lv_iinc (v := (nI (i + 1))) (lv' := [(4, .int (nI (i + 1))), (3, .int (nI (st 6 k) - nI (lossC st k (st 0 0) + lossL st k i + st (1000 + i) (16 * st 3 k + st 2 k)))), (5, .ref (g2 i)), (0, .ref x), (1, .int (nI k)), (2, .ref (g1 k))]) X.1 X.2.1 dX9_depthOnceMore_123 hl (k := 5) rfl (nI_1 _) (by decide) rfl (fun ls hl => ?_)
                      refine lv_goto (tgt := 79) X.1 X.2.1 dX9_depthOnceMore_126 (by decide) ?_
                      exact ih2 (i + 1) H locs ls (by omega) (by omega) S (by rw [lossL_t st (Nat.lt_of_not_le (fun z => c_111 (nI_le z (by omega)))), ← Nat.add_assoc]; exact lv_sub hl [3, 4, 5, 1, 0] rfl)
            exact loop2 (st 0 1 + 1) 0 _ _ _ (by omega) (by omega) S (by rw [show lossL st k 0 = 0 from rfl, Nat.add_zero]; exact lv_sub hl [1, 2, 3, 4, 0] rfl)
          · have hlt_j : j < st 0 0 := Nat.lt_of_not_le (fun z => c_48 (nI_le z (by omega)))
            refine lv_iload_n X.1 X.2.1 dX9_depthOnceMore_51 rfl (lv_at hl 3 rfl) ?_
            refine lv_aload_n X.1 X.2.1 dX9_depthOnceMore_52 rfl (lv_at hl 2 rfl) ?_
            refine lv_aload_n X.1 X.2.1 dX9_depthOnceMore_53 rfl (lv_at hl 0 rfl) ?_
            refine r_get (C := RX9) (T := TX9) (N := 6) (ref := "Craterclock") X S in_RX9 hx rfl 1 (by decide) (by decide +kernel) (fun _ h => h) rfl dX9_depthOnceMore_54 ?_
            refine lv_iload X.1 X.2.1 dX9_depthOnceMore_57 (lv_at hl 4 rfl) ?_
            refine call_rp (run_V X S (m_get l G f L1 3 (st 0 0) j g1 hL1 hlt_j (by omega)) 1 gX9_depthOnceMore_Jx4a65c_get_915e3 rfl rfl rfl (by decide +kernel) ⟨(by exact Nat.le_of_ble_eq_true rfl), (by exact Nat.le_of_ble_eq_true rfl)⟩ hL1.obj rfl rfl rfl hl.1 rfl (by exact Nat.le_of_ble_eq_true rfl) dX9_depthOnceMore_59 ⟨(Nat.zero_le _), (Nat.zero_le _)⟩) S (fun r_59 H locs hr_59 S => ?_)
            subst hr_59
            refine r_castS X S (nm := "Craterclock$Crater") rfl (by decide +kernel) (hC j hlt_j) rfl dX9_depthOnceMore_62 ?_
            refine call_ip (run_V X S (m_lossBy l G f (g1 k) (100 + k) (g1 j) (100 + j) (st 2 k) (st 3 k) (st 4 k) (st 5 k) (st 6 k) (st 7 k) (st 2 j) (st 3 j) (st 4 j) (st 5 j) (st 6 j) (st 7 j) (hC k hlt_k) (hC j hlt_j) hcx hcy (by omega) (hi2 j hlt_j).1 (hi2 j hlt_j).2.1 (by have := (hi2 j hlt_j).2.2.2.2.2.1; omega)) 1 gX9_depthOnceMore_X1_lossBy rfl rfl rfl (by decide +kernel) ⟨(by exact Nat.le_of_ble_eq_true rfl), (by exact Nat.le_of_ble_eq_true rfl)⟩ ⟨_, _, (hC k hlt_k)⟩ rfl rfl rfl hl.1 rfl (by exact Nat.le_of_ble_eq_true rfl) dX9_depthOnceMore_65 ⟨(Nat.zero_le _), (Nat.zero_le _)⟩) S (fun r_65 H locs hr_65 S => ?_)
            subst hr_65
            refine lv_isub X.1 X.2.1 dX9_depthOnceMore_68 ?_
            refine r_toi (nI_sub3 _ _ _) ?_
            refine lv_istore_n (lv' := [(3, .int (nI (st 6 k) - nI (lossC st k j + lossK st k j))), (0, .ref x), (1, .int (nI k)), (2, .ref (g1 k)), (4, .int (nI j))]) X.1 X.2.1 dX9_depthOnceMore_69 rfl hl (by decide) rfl (fun ls hl => ?_)
            refine lv_iinc (v := (nI (j + 1))) (lv' := [(4, .int (nI (j + 1))), (3, .int (nI (st 6 k) - nI (lossC st k j + lossK st k j))), (0, .ref x), (1, .int (nI k)), (2, .ref (g1 k))]) X.1 X.2.1 dX9_depthOnceMore_70 hl (k := 4) rfl (nI_1 _) (by decide) rfl (fun ls hl => ?_)
            refine lv_goto (tgt := 39) X.1 X.2.1 dX9_depthOnceMore_73 (by decide) ?_
            exact ih (j + 1) H locs ls (by omega) (by omega) (by omega) S (by rw [lossC_s st hkj]; exact lv_sub hl [2, 3, 4, 1, 0] rfl)
      exact loop (st 0 0 + 1) (k + 1) _ _ _ (by omega) (by omega) (by omega) S (lv_sub hl [3, 4, 2, 1, 0] rfl)
    · exact absurd (nI_lt hlt_k (by omega)) c_12

set_option maxRecDepth 100000 in
set_option maxHeartbeats 4000000 in
/-- countSeen -/
theorem m_countSeen (l : Launch) (G : cx_G) (f : Wd) (st : St) (x gr rw1 L1 L2 L3 cu L4 : Nat) (g1 g2 g3 g4 : Nat → Nat) (w : Nat → Int32) (hI : sInv st) (hR : RXx G f st x gr rw1 L1 L2 L3 cu L4 g1 g2 g3 g4 w) (ey fl tf x0 y0 tx ty q : Nat) (hlt_ey : ey < st 0 2) (hfl : f fl = some (tf, eF x0 y0 tx ty)) (hx0 : x0 < 16) (hy0 : y0 < 16) (htx : tx < 16) (hty : ty < 16) (hq : q < 100) : PI l G yX9_countSeen wsX9_countSeen 3 64 [.ref x, .int (nI ey), .ref fl, .int (nI q)] f (fun v => v = nI (cn (seenP st q ey x0 y0 tx ty) (st 0 0))) := by
  refine cx_body (cc := cX9_countSeen) (n := 8) (ret := (some .int)) (by decide +kernel) rfl (Nat.le_of_ble_eq_true rfl) ?_
  intro p0 e0 s0 m0 b0 meth0 c0 ls X hr hnm S hl
  have X : cxC G p0 l _ c0 cX9_countSeen 8 m0 meth0 s0 _ RX9 wsX9_countSeen := X
  have hl : lv_has ls 8 [(0, .ref x), (1, .int (nI ey)), (2, .ref fl), (3, .int (nI q))] := hl
  have in_RX1 : ∀ w ∈ u_ws RX1 TX1 6, w ∈ wsX9_countSeen := by decide +kernel
  have in_RX9 : ∀ w ∈ u_ws RX9 TX9 6, w ∈ wsX9_countSeen := by decide +kernel
  obtain ⟨hi0, hi1, hi2, hi3, hi4, hi5, hi6, hi7⟩ := id hI
  obtain ⟨hx, hgr, hrw, hgd, hL1, hC, hL2, hS2, hL3, hE, hcu, hL4, hA⟩ := id hR
  have hey := hi4 ey hlt_ey
  refine lv_iload_n X.1 X.2.1 dX9_countSeen_0 rfl (lv_at hl 1 rfl) ?_
  refine lv_if_lt (tgt := 15) X.1 X.2.1 dX9_countSeen_1 (by decide) (fun c_1 => ?_) (fun c_1 => ?_)
  · exact absurd c_1 (nI_pos (by omega))
  · refine lv_iload_n X.1 X.2.1 dX9_countSeen_4 rfl (lv_at hl 1 rfl) ?_
    refine lv_aload_n X.1 X.2.1 dX9_countSeen_5 rfl (lv_at hl 0 rfl) ?_
    refine r_get (C := RX9) (T := TX9) (N := 6) (ref := "Craterclock") X S in_RX9 hx rfl 3 (by decide) (by decide +kernel) (fun _ h => h) rfl dX9_countSeen_6 ?_
    refine call_ip (run_V X S (m_sizeL l G f L3 5 (st 0 2) g3 hL3) 0 gX9_countSeen_Jx4a65c_size_8abf5 rfl rfl rfl (by decide +kernel) ⟨(by exact Nat.le_of_ble_eq_true rfl), (by exact Nat.le_of_ble_eq_true rfl)⟩ hL3.obj rfl rfl rfl hl.1 rfl (by exact Nat.le_of_ble_eq_true rfl) dX9_countSeen_9 ⟨(Nat.zero_le _), (Nat.zero_le _)⟩) S (fun r_9 H locs hr_9 S => ?_)
    subst hr_9
    refine lv_icmp_lt (tgt := 17) X.1 X.2.1 dX9_countSeen_12 (by decide) (fun c_12 => ?_) (fun c_12 => ?_)
    · refine lv_aload_n X.1 X.2.1 dX9_countSeen_17 rfl (lv_at hl 0 rfl) ?_
      refine r_get (C := RX9) (T := TX9) (N := 6) (ref := "Craterclock") X S in_RX9 hx rfl 3 (by decide) (by decide +kernel) (fun _ h => h) rfl dX9_countSeen_18 ?_
      refine lv_iload_n X.1 X.2.1 dX9_countSeen_21 rfl (lv_at hl 1 rfl) ?_
      refine call_rp (run_V X S (m_get l G f L3 5 (st 0 2) ey g3 hL3 hlt_ey (by omega)) 1 gX9_countSeen_Jx4a65c_get_915e3 rfl rfl rfl (by decide +kernel) ⟨(by exact Nat.le_of_ble_eq_true rfl), (by exact Nat.le_of_ble_eq_true rfl)⟩ hL3.obj rfl rfl rfl hl.1 rfl (by exact Nat.le_of_ble_eq_true rfl) dX9_countSeen_22 ⟨(Nat.zero_le _), (Nat.zero_le _)⟩) S (fun r_22 H locs hr_22 S => ?_)
      subst hr_22
      refine r_castS X S (nm := "Craterclock$Eye") rfl (by decide +kernel) (hE ey hlt_ey) rfl dX9_countSeen_25 ?_
      refine lv_astore (lv' := [(4, .ref (g3 ey)), (0, .ref x), (1, .int (nI ey)), (2, .ref fl), (3, .int (nI q))]) X.1 X.2.1 dX9_countSeen_28 hl (by decide) rfl (fun ls hl => ?_)
      refine lv_iconst (v := 0) X.1 X.2.1 dX9_countSeen_30 (by decide) ?_
      refine lv_istore (lv' := [(5, .int 0), (4, .ref (g3 ey)), (0, .ref x), (1, .int (nI ey)), (2, .ref fl), (3, .int (nI q))]) X.1 X.2.1 dX9_countSeen_31 hl (by decide) rfl (fun ls hl => ?_)
      refine lv_iconst (v := 0) X.1 X.2.1 dX9_countSeen_33 (by decide) ?_
      refine lv_istore (lv' := [(6, .int 0), (5, .int 0), (4, .ref (g3 ey)), (0, .ref x), (1, .int (nI ey)), (2, .ref fl), (3, .int (nI q))]) X.1 X.2.1 dX9_countSeen_34 hl (by decide) rfl (fun ls hl => ?_)
      refine W_genQ (fun Q9 hQ9 => ?_)
      have loop : ∀ (N : Nat) (k : Nat) (H : Heap) (locs : List Loc) (ls : Array Slot), k ≤ st 0 0 → st 0 0 < k + N → cxS G s0 f H locs → lv_has ls 8 [(0, .ref x), (2, .ref fl), (3, .int (nI q)), (4, .ref (g3 ey)), (5, .int (nI (cn (seenP st q ey x0 y0 tx ty) k))), (6, .int (nI k))] → W p0 l e0 ({ frames := 3, cells := 0, slots := 0, locals := 64 } : Room) s0 m0 ([.ref x, .int (nI ey), .ref fl, .int (nI q)] : List Value).toArray b0 meth0 c0 H locs 0 0 Q9 (F0 m0 36 ls []) := by
        intro N
        induction N with
        | zero =>
          intro k  H locs ls hk hN S hl
          exfalso
          omega
        | succ N ih =>
          intro k  H locs ls hk hN S hl
          refine lv_iload X.1 X.2.1 dX9_countSeen_36 (lv_at hl 5 rfl) ?_
          refine lv_aload_n X.1 X.2.1 dX9_countSeen_38 rfl (lv_at hl 0 rfl) ?_
          refine r_get (C := RX9) (T := TX9) (N := 6) (ref := "Craterclock") X S in_RX9 hx rfl 1 (by decide) (by decide +kernel) (fun _ h => h) rfl dX9_countSeen_39 ?_
          refine call_ip (run_V X S (m_sizeL l G f L1 3 (st 0 0) g1 hL1) 0 gX9_countSeen_Jx4a65c_size_8abf5 rfl rfl rfl (by decide +kernel) ⟨(by exact Nat.le_of_ble_eq_true rfl), (by exact Nat.le_of_ble_eq_true rfl)⟩ hL1.obj rfl rfl rfl hl.1 rfl (by exact Nat.le_of_ble_eq_true rfl) dX9_countSeen_42 ⟨(Nat.zero_le _), (Nat.zero_le _)⟩) S (fun r_42 H locs hr_42 S => ?_)
          subst hr_42
          refine lv_icmp_ge (tgt := 107) X.1 X.2.1 dX9_countSeen_45 (by decide) (fun c_45 => ?_) (fun c_45 => ?_)
          · have hkn : k = st 0 0 := by
              have := (nI_leI (by omega) (by omega)).mp c_45
              omega
            subst hQ9
            refine lv_iload X.1 X.2.1 dX9_countSeen_107 (lv_at hl 4 rfl) ?_
            refine e_ip X hr S dX9_countSeen_109 ?_
            rw [hkn]
          · have hlt_k : k < st 0 0 := Nat.lt_of_not_le (fun z => c_45 (nI_le z (by omega)))
            have hck := hi2 k hlt_k
            have hr7 := hck.2.2.2.2.2.1
            refine lv_aload_n X.1 X.2.1 dX9_countSeen_48 rfl (lv_at hl 0 rfl) ?_
            refine r_get (C := RX9) (T := TX9) (N := 6) (ref := "Craterclock") X S in_RX9 hx rfl 1 (by decide) (by decide +kernel) (fun _ h => h) rfl dX9_countSeen_49 ?_
            refine lv_iload X.1 X.2.1 dX9_countSeen_52 (lv_at hl 5 rfl) ?_
            refine call_rp (run_V X S (m_get l G f L1 3 (st 0 0) k g1 hL1 hlt_k (by omega)) 1 gX9_countSeen_Jx4a65c_get_915e3 rfl rfl rfl (by decide +kernel) ⟨(by exact Nat.le_of_ble_eq_true rfl), (by exact Nat.le_of_ble_eq_true rfl)⟩ hL1.obj rfl rfl rfl hl.1 rfl (by exact Nat.le_of_ble_eq_true rfl) dX9_countSeen_54 ⟨(Nat.zero_le _), (Nat.zero_le _)⟩) S (fun r_54 H locs hr_54 S => ?_)
            subst hr_54
            refine r_castS X S (nm := "Craterclock$Crater") rfl (by decide +kernel) (hC k hlt_k) rfl dX9_countSeen_57 ?_
            refine lv_astore (lv' := [(7, .ref (g1 k)), (0, .ref x), (2, .ref fl), (3, .int (nI q)), (4, .ref (g3 ey)), (5, .int (nI (cn (seenP st q ey x0 y0 tx ty) k))), (6, .int (nI k))]) X.1 X.2.1 dX9_countSeen_60 hl (by decide) rfl (fun ls hl => ?_)
            refine lv_aload X.1 X.2.1 dX9_countSeen_62 (lv_at hl 0 rfl) ?_
            refine r_get (C := RX1) (T := TX1) (N := 6) (ref := "Craterclock$Crater") X S in_RX1 (hC k hlt_k) rfl 3 (by decide) (by decide +kernel) (fun _ h => h) rfl dX9_countSeen_64 ?_
            refine lv_iload_n X.1 X.2.1 dX9_countSeen_67 rfl (lv_at hl 3 rfl) ?_
            refine lv_icmp_lt (tgt := 101) X.1 X.2.1 dX9_countSeen_68 (by decide) (fun c_68 => ?_) (fun c_68 => ?_)
            · refine lv_iinc (v := (nI (k + 1))) (lv' := [(6, .int (nI (k + 1))), (7, .ref (g1 k)), (0, .ref x), (2, .ref fl), (3, .int (nI q)), (4, .ref (g3 ey)), (5, .int (nI (cn (seenP st q ey x0 y0 tx ty) k)))]) X.1 X.2.1 dX9_countSeen_101 hl (k := 6) rfl (nI_1 _) (by decide) rfl (fun ls hl => ?_)
              refine lv_goto (tgt := 36) X.1 X.2.1 dX9_countSeen_104 (by decide) ?_
              have hcn : cn (seenP st q ey x0 y0 tx ty) (k + 1) = cn (seenP st q ey x0 y0 tx ty) k := cn_f (decide_eq_false (fun z => nI_nlt z.1 (by omega) c_68))
              exact ih (k + 1) H locs ls (by omega) (by omega) S (by rw [hcn]; exact lv_sub hl [2, 3, 4, 5, 6, 0] rfl)
            · refine lv_aload_n X.1 X.2.1 dX9_countSeen_71 rfl (lv_at hl 2 rfl) ?_
              refine lv_aload X.1 X.2.1 dX9_countSeen_72 (lv_at hl 0 rfl) ?_
              refine r_get (C := RX1) (T := TX1) (N := 6) (ref := "Craterclock$Crater") X S in_RX1 (hC k hlt_k) rfl 0 (by decide) (by decide +kernel) (fun _ h => h) rfl dX9_countSeen_74 ?_
              refine lv_aload X.1 X.2.1 dX9_countSeen_77 (lv_at hl 0 rfl) ?_
              refine r_get (C := RX1) (T := TX1) (N := 6) (ref := "Craterclock$Crater") X S in_RX1 (hC k hlt_k) rfl 1 (by decide) (by decide +kernel) (fun _ h => h) rfl dX9_countSeen_79 ?_
              refine call_ip (run_V X S (m_has l G f fl tf x0 y0 tx ty hfl hx0 hy0 htx hty (st 2 k) (st 3 k) hck.1 hck.2.1) 2 gX9_countSeen_X4_has rfl rfl rfl (by decide +kernel) ⟨(by exact Nat.le_of_ble_eq_true rfl), (by exact Nat.le_of_ble_eq_true rfl)⟩ ⟨_, _, hfl⟩ rfl rfl rfl hl.1 rfl (by exact Nat.le_of_ble_eq_true rfl) dX9_countSeen_82 ⟨(Nat.zero_le _), (Nat.zero_le _)⟩) S (fun r_82 H locs hr_82 S => ?_)
              subst hr_82
              refine r_eqB (tgt := 101) X dX9_countSeen_85 (by decide) (fun c_85 => ?_) (fun c_85 => ?_)
              · refine lv_iinc (v := (nI (k + 1))) (lv' := [(6, .int (nI (k + 1))), (7, .ref (g1 k)), (0, .ref x), (2, .ref fl), (3, .int (nI q)), (4, .ref (g3 ey)), (5, .int (nI (cn (seenP st q ey x0 y0 tx ty) k)))]) X.1 X.2.1 dX9_countSeen_101 hl (k := 6) rfl (nI_1 _) (by decide) rfl (fun ls hl => ?_)
                refine lv_goto (tgt := 36) X.1 X.2.1 dX9_countSeen_104 (by decide) ?_
                have hcn : cn (seenP st q ey x0 y0 tx ty) (k + 1) = cn (seenP st q ey x0 y0 tx ty) k := cn_f (decide_eq_false (fun z => of_decide_eq_false c_85 z.2.1))
                exact ih (k + 1) H locs ls (by omega) (by omega) S (by rw [hcn]; exact lv_sub hl [2, 3, 4, 5, 6, 0] rfl)
              · refine lv_aload X.1 X.2.1 dX9_countSeen_88 (lv_at hl 4 rfl) ?_
                refine lv_aload X.1 X.2.1 dX9_countSeen_90 (lv_at hl 0 rfl) ?_
                refine call_ip (run_V X S (m_sees l G f (g3 ey) 8 (st 9 ey) (g1 k) (100 + k) (st 2 k) (st 3 k) (st 4 k) (st 5 k) (st 6 k) (st 7 k) (hC k hlt_k) (hE ey hlt_ey) hey.2 (by have := hck.2.2.2.2.2.2; omega)) 1 gX9_countSeen_X3_sees rfl rfl rfl (by decide +kernel) ⟨(by exact Nat.le_of_ble_eq_true rfl), (by exact Nat.le_of_ble_eq_true rfl)⟩ ⟨_, _, (hE ey hlt_ey)⟩ rfl rfl rfl hl.1 rfl (by exact Nat.le_of_ble_eq_true rfl) dX9_countSeen_92 ⟨(Nat.zero_le _), (Nat.zero_le _)⟩) S (fun r_92 H locs hr_92 S => ?_)
                subst hr_92
                refine r_eqB (tgt := 101) X dX9_countSeen_95 (by decide) (fun c_95 => ?_) (fun c_95 => ?_)
                · refine lv_iinc (v := (nI (k + 1))) (lv' := [(6, .int (nI (k + 1))), (7, .ref (g1 k)), (0, .ref x), (2, .ref fl), (3, .int (nI q)), (4, .ref (g3 ey)), (5, .int (nI (cn (seenP st q ey x0 y0 tx ty) k)))]) X.1 X.2.1 dX9_countSeen_101 hl (k := 6) rfl (nI_1 _) (by decide) rfl (fun ls hl => ?_)
                  refine lv_goto (tgt := 36) X.1 X.2.1 dX9_countSeen_104 (by decide) ?_
                  have hcn : cn (seenP st q ey x0 y0 tx ty) (k + 1) = cn (seenP st q ey x0 y0 tx ty) k := cn_f (decide_eq_false (fun z => of_decide_eq_false c_95 z.2.2))
                  exact ih (k + 1) H locs ls (by omega) (by omega) S (by rw [hcn]; exact lv_sub hl [2, 3, 4, 5, 6, 0] rfl)
                · refine lv_iinc (v := (nI ((cn (seenP st q ey x0 y0 tx ty) k) + 1))) (lv' := [(5, .int (nI ((cn (seenP st q ey x0 y0 tx ty) k) + 1))), (7, .ref (g1 k)), (0, .ref x), (2, .ref fl), (3, .int (nI q)), (4, .ref (g3 ey)), (6, .int (nI k))]) X.1 X.2.1 dX9_countSeen_98 hl (k := 5) rfl (nI_1 _) (by decide) rfl (fun ls hl => ?_)
                  refine lv_iinc (v := (nI (k + 1))) (lv' := [(6, .int (nI (k + 1))), (5, .int (nI ((cn (seenP st q ey x0 y0 tx ty) k) + 1))), (7, .ref (g1 k)), (0, .ref x), (2, .ref fl), (3, .int (nI q)), (4, .ref (g3 ey))]) X.1 X.2.1 dX9_countSeen_101 hl (k := 6) rfl (nI_1 _) (by decide) rfl (fun ls hl => ?_)
                  refine lv_goto (tgt := 36) X.1 X.2.1 dX9_countSeen_104 (by decide) ?_
                  have hcn : cn (seenP st q ey x0 y0 tx ty) (k + 1) = cn (seenP st q ey x0 y0 tx ty) k + 1 := cn_t (decide_eq_true ⟨Nat.le_of_not_lt (fun z => c_68 (nI_lt z (by omega))), of_decide_eq_true c_85, of_decide_eq_true c_95⟩)
                  exact ih (k + 1) H locs ls (by omega) (by omega) S (by rw [hcn]; exact lv_sub hl [3, 4, 5, 6, 1, 0] rfl)
      exact loop (st 0 0 + 1) 0 _ _ _ (by omega) (by omega) S (lv_sub hl [3, 5, 6, 2, 1, 0] rfl)
    · exact absurd (nI_lt hlt_ey (by omega)) c_12

set_option maxRecDepth 100000 in
set_option maxHeartbeats 4000000 in
/-- densitySeen -/
theorem m_densitySeen (l : Launch) (G : cx_G) (f : Wd) (st : St) (x gr rw1 L1 L2 L3 cu L4 : Nat) (g1 g2 g3 g4 : Nat → Nat) (w : Nat → Int32) (hI : sInv st) (hR : RXx G f st x gr rw1 L1 L2 L3 cu L4 g1 g2 g3 g4 w) (ey fl tf x0 y0 tx ty : Nat) (hlt_ey : ey < st 0 2) (hfl : f fl = some (tf, eF x0 y0 tx ty)) (hx0 : x0 < 16) (hy0 : y0 < 16) (htx : tx < 16) (hty : ty < 16) (h1 : x0 ≤ tx) (h2 : y0 ≤ ty) : PL l G yX9_densitySeen wsX9_densitySeen 4 91 [.ref x, .int (nI ey), .ref fl] f (fun v => v = lN (cn (seenP st 1 ey x0 y0 tx ty) (st 0 0) * 256000 / ((tx - x0 + 1) * (ty - y0 + 1)))) := by
  refine cx_body (cc := cX9_densitySeen) (n := 3) (ret := (some .long)) (by decide +kernel) rfl (Nat.le_of_ble_eq_true rfl) ?_
  intro p0 e0 s0 m0 b0 meth0 c0 ls X hr hnm S hl
  have X : cxC G p0 l _ c0 cX9_densitySeen 3 m0 meth0 s0 _ RX9 wsX9_densitySeen := X
  have hl : lv_has ls 3 [(0, .ref x), (1, .int (nI ey)), (2, .ref fl)] := hl
  obtain ⟨hi0, hi1, hi2, hi3, hi4, hi5, hi6, hi7⟩ := id hI
  obtain ⟨hx, hgr, hrw, hgd, hL1, hC, hL2, hS2, hL3, hE, hcu, hL4, hA⟩ := id hR
  have hcn := cn_le (seenP st 1 ey x0 y0 tx ty) (st 0 0)
  have hm1 : (tx - x0 + 1) * (ty - y0 + 1) ≤ 16 * 16 := Nat.mul_le_mul (by omega) (by omega)
  have hm0 : 0 < (tx - x0 + 1) * (ty - y0 + 1) := Nat.mul_pos (by omega) (by omega)
  refine lv_aload_n X.1 X.2.1 dX9_densitySeen_0 rfl (lv_at hl 0 rfl) ?_
  refine lv_iload_n X.1 X.2.1 dX9_densitySeen_1 rfl (lv_at hl 1 rfl) ?_
  refine lv_aload_n X.1 X.2.1 dX9_densitySeen_2 rfl (lv_at hl 2 rfl) ?_
  refine lv_iconst (v := 1) X.1 X.2.1 dX9_densitySeen_3 (by decide) ?_
  refine call_ip (run_V X S (m_countSeen l G f st x gr rw1 L1 L2 L3 cu L4 g1 g2 g3 g4 w hI hR ey fl tf x0 y0 tx ty 1 hlt_ey hfl hx0 hy0 htx hty (by omega)) 3 gX9_densitySeen_X9_countSeen rfl rfl rfl (by decide +kernel) ⟨(by exact Nat.le_of_ble_eq_true rfl), (by exact Nat.le_of_ble_eq_true rfl)⟩ ⟨_, _, hx⟩ rfl rfl rfl hl.1 rfl (by exact Nat.le_of_ble_eq_true rfl) dX9_densitySeen_4 ⟨(Nat.zero_le _), (Nat.zero_le _)⟩) S (fun r_4 H locs hr_4 S => ?_)
  subst hr_4
  refine lv_i2l (v := (nI (cn (seenP st 1 ey x0 y0 tx ty) (st 0 0))).toInt64) X.1 X.2.1 dX9_densitySeen_7 rfl ?_
  refine r_tol (nI_l (by omega)) ?_
  refine r_ldc2 (v := 256000) X (by decide +kernel) dX9_densitySeen_8 ?_
  refine lv_lmul X.1 X.2.1 dX9_densitySeen_11 ?_
  refine r_tol (lN_mul _ _) ?_
  refine lv_aload_n X.1 X.2.1 dX9_densitySeen_12 rfl (lv_at hl 2 rfl) ?_
  refine call_ip (run_V X S (m_cells l G f fl tf x0 y0 tx ty hfl hx0 hy0 htx hty h1 h2) 0 gX9_densitySeen_X4_cells rfl rfl rfl (by decide +kernel) ⟨(by exact Nat.le_of_ble_eq_true rfl), (by exact Nat.le_of_ble_eq_true rfl)⟩ ⟨_, _, hfl⟩ rfl rfl rfl hl.1 rfl (by exact Nat.le_of_ble_eq_true rfl) dX9_densitySeen_13 ⟨(Nat.zero_le _), (Nat.zero_le _)⟩) S (fun r_13 H locs hr_13 S => ?_)
  subst hr_13
  refine lv_i2l (v := (nI ((tx - x0 + 1) * (ty - y0 + 1))).toInt64) X.1 X.2.1 dX9_densitySeen_16 rfl ?_
  refine r_tol (nI_l (by omega)) ?_
  refine call_lp (run_S X S (m_div l G f (cn (seenP st 1 ey x0 y0 tx ty) (st 0 0) * 256000) ((tx - x0 + 1) * (ty - y0 + 1)) (by omega) (by omega) hm0) 2 gX9_densitySeen_X2_dividedDown rfl rfl rfl (by decide +kernel) ⟨(by exact Nat.le_of_ble_eq_true rfl), (by exact Nat.le_of_ble_eq_true rfl)⟩ rfl hl.1 rfl (by exact Nat.le_of_ble_eq_true rfl) dX9_densitySeen_17 ⟨(Nat.zero_le _), (Nat.zero_le _)⟩) S (fun r_17 H locs hr_17 S => ?_)
  subst hr_17
  refine e_lp X hr S dX9_densitySeen_20 ?_
  exact rfl
