/-! the class: its loops -/
theorem m_sizeL (l : Launch) (G : cx_G) (f : Wd) (L t n : Nat) (g : Nat → Nat) (hLR : LRx G f L t n g) : PI l G yJx4a65c_size_8abf5 wsJx4a65c_size_8abf5 0 0 [.ref L] f (fun v => v = nI n) := by
  obtain ⟨m, arr, cap, h, hL, -⟩ := hLR
  exact m_size l G f L t n m (.ref arr) hL
theorem W_genQ {p : Program} {l : Launch} {e : Env} {R : Room} {s : State} {m : MethodId} {args : Array Value} {below : List Frame} {meth : Method} {c : Code} {H : Heap} {locs : List Loc} {cells slots : Nat} {Q : State → Prop} {g : JFrame} (k : ∀ Q9, Q9 = Q → W p l e R s m args below meth c H locs cells slots Q9 g) : W p l e R s m args below meth c H locs cells slots Q g := k Q rfl
theorem cn_t {p : Nat → Bool} {n : Nat} (h : p n = true) : cn p (n + 1) = cn p n + 1 := by show cn p n + _ = _; rw [if_pos h]
theorem cn_f {p : Nat → Bool} {n : Nat} (h : p n = false) : cn p (n + 1) = cn p n := by show cn p n + _ = _; rw [if_neg (by rw [h]; decide)]; rfl
theorem nI_gt0 {n : Nat} (h : ¬ nI n ≤ 0) : 0 < n := by
  rcases Nat.eq_zero_or_pos n with q | q
  · exact absurd (by rw [q]; decide) h
  · exact q
theorem nI_le0 {n : Nat} (hn : n < 2 ^ 31) (h : nI n ≤ 0) : n = 0 := by
  rcases Nat.eq_zero_or_pos n with q | q
  · exact q
  · exact absurd h (nI_nle q hn)
set_option maxRecDepth 100000 in
set_option maxHeartbeats 4000000 in
/-- countLeft -/
theorem m_countLeft (l : Launch) (G : cx_G) (f : Wd) (st : St) (x gr rw1 L1 L2 L3 cu L4 : Nat) (g1 g2 g3 g4 : Nat → Nat) (w : Nat → Int32) (hI : sInv st) (hR : RXx G f st x gr rw1 L1 L2 L3 cu L4 g1 g2 g3 g4 w) : PI l G yX9_countLeft wsX9_countLeft 3 64 [.ref x] f (fun v => v = nI (cn (fun k => decide (0 < st 7 k)) (st 0 0))) := by
  refine cx_body (cc := cX9_countLeft) (n := 3) (ret := (some .int)) (by decide +kernel) rfl (Nat.le_of_ble_eq_true rfl) ?_
  intro p0 e0 s0 m0 b0 meth0 c0 ls X hr hnm S hl
  have X : cxC G p0 l _ c0 cX9_countLeft 3 m0 meth0 s0 _ RX9 wsX9_countLeft := X
  have hl : lv_has ls 3 [(0, .ref x)] := hl
  have in_RX1 : ∀ w ∈ u_ws RX1 TX1 6, w ∈ wsX9_countLeft := by decide +kernel
  have in_RX9 : ∀ w ∈ u_ws RX9 TX9 6, w ∈ wsX9_countLeft := by decide +kernel
  obtain ⟨hi0, hi1, hi2, hi3, hi4, hi5, hi6, hi7⟩ := id hI
  obtain ⟨hx, hgr, hrw, hgd, hL1, hC, hL2, hS2, hL3, hE, hcu, hL4, hA⟩ := id hR
  refine lv_iconst (v := 0) X.1 X.2.1 dX9_countLeft_0 (by decide) ?_
  refine lv_istore_n (lv' := [(1, .int 0), (0, .ref x)]) X.1 X.2.1 dX9_countLeft_1 rfl hl (by decide) rfl (fun ls hl => ?_)
  refine lv_iconst (v := 0) X.1 X.2.1 dX9_countLeft_2 (by decide) ?_
  refine lv_istore_n (lv' := [(2, .int 0), (1, .int 0), (0, .ref x)]) X.1 X.2.1 dX9_countLeft_3 rfl hl (by decide) rfl (fun ls hl => ?_)
  refine W_genQ (fun Q9 hQ9 => ?_)
  have loop : ∀ (N : Nat) (k : Nat) (H : Heap) (locs : List Loc) (ls : Array Slot), k ≤ st 0 0 → st 0 0 < k + N → cxS G s0 f H locs → lv_has ls 3 [(0, .ref x), (1, .int (nI (cn (fun k => decide (0 < st 7 k)) k))), (2, .int (nI k))] → W p0 l e0 ({ frames := 3, cells := 0, slots := 0, locals := 64 } : Room) s0 m0 ([.ref x] : List Value).toArray b0 meth0 c0 H locs 0 0 Q9 (F0 m0 4 ls []) := by
    intro N
    induction N with
    | zero =>
      intro k  H locs ls hk hN S hl
      exfalso
      omega
    | succ N ih =>
      intro k  H locs ls hk hN S hl
      refine lv_iload_n X.1 X.2.1 dX9_countLeft_4 rfl (lv_at hl 2 rfl) ?_
      refine lv_aload_n X.1 X.2.1 dX9_countLeft_5 rfl (lv_at hl 0 rfl) ?_
      refine r_get (C := RX9) (T := TX9) (N := 6) (ref := "Craterclock") X S in_RX9 hx rfl 1 (by decide) (by decide +kernel) (fun _ h => h) rfl dX9_countLeft_6 ?_
      refine call_ip (run_V X S (m_sizeL l G f L1 3 (st 0 0) g1 hL1) 0 gX9_countLeft_Jx4a65c_size_8abf5 rfl rfl rfl (by decide +kernel) ⟨(by exact Nat.le_of_ble_eq_true rfl), (by exact Nat.le_of_ble_eq_true rfl)⟩ hL1.obj rfl rfl rfl hl.1 rfl (by exact Nat.le_of_ble_eq_true rfl) dX9_countLeft_9 ⟨(Nat.zero_le _), (Nat.zero_le _)⟩) S (fun r_9 H locs hr_9 S => ?_)
      subst hr_9
      refine lv_icmp_ge (tgt := 41) X.1 X.2.1 dX9_countLeft_12 (by decide) (fun c_12 => ?_) (fun c_12 => ?_)
      · have hkn : k = st 0 0 := by
          have := (nI_leI (by omega) (by omega)).mp c_12
          omega
        subst hQ9
        refine lv_iload_n X.1 X.2.1 dX9_countLeft_41 rfl (lv_at hl 1 rfl) ?_
        refine e_ip X hr S dX9_countLeft_42 ?_
        rw [hkn]
      · have hlt_k : k < st 0 0 := Nat.lt_of_not_le (fun z => c_12 (nI_le z (by omega)))
        refine lv_aload_n X.1 X.2.1 dX9_countLeft_15 rfl (lv_at hl 0 rfl) ?_
        refine r_get (C := RX9) (T := TX9) (N := 6) (ref := "Craterclock") X S in_RX9 hx rfl 1 (by decide) (by decide +kernel) (fun _ h => h) rfl dX9_countLeft_16 ?_
        refine lv_iload_n X.1 X.2.1 dX9_countLeft_19 rfl (lv_at hl 2 rfl) ?_
        refine call_rp (run_V X S (m_get l G f L1 3 (st 0 0) k g1 hL1 hlt_k (by omega)) 1 gX9_countLeft_Jx4a65c_get_915e3 rfl rfl rfl (by decide +kernel) ⟨(by exact Nat.le_of_ble_eq_true rfl), (by exact Nat.le_of_ble_eq_true rfl)⟩ hL1.obj rfl rfl rfl hl.1 rfl (by exact Nat.le_of_ble_eq_true rfl) dX9_countLeft_20 ⟨(Nat.zero_le _), (Nat.zero_le _)⟩) S (fun r_20 H locs hr_20 S => ?_)
        subst hr_20
        refine r_castS X S (nm := "Craterclock$Crater") rfl (by decide +kernel) (hC k hlt_k) rfl dX9_countLeft_23 ?_
        refine r_get (C := RX1) (T := TX1) (N := 6) (ref := "Craterclock$Crater") X S in_RX1 (hC k hlt_k) rfl 5 (by decide) (by decide +kernel) (fun _ h => h) rfl dX9_countLeft_26 ?_
        refine lv_if_le (tgt := 35) X.1 X.2.1 dX9_countLeft_29 (by decide) (fun c_29 => ?_) (fun c_29 => ?_)
        · refine lv_iinc (v := (nI (k + 1))) (lv' := [(2, .int (nI (k + 1))), (0, .ref x), (1, .int (nI (cn (fun k => decide (0 < st 7 k)) k)))]) X.1 X.2.1 dX9_countLeft_35 hl (k := 2) rfl (nI_1 _) (by decide) rfl (fun ls hl => ?_)
          refine lv_goto (tgt := 4) X.1 X.2.1 dX9_countLeft_38 (by decide) ?_
          have hcn : cn (fun k => decide (0 < st 7 k)) (k + 1) = cn (fun k => decide (0 < st 7 k)) k := cn_f (decide_eq_false (fun z => by have := nI_le0 (by have := (hi2 k hlt_k).2.2.2.2.2.2; omega) c_29; omega))
          exact ih (k + 1) H locs ls (by omega) (by omega) S (by rw [hcn]; exact lv_sub hl [1, 2, 0] rfl)
        · refine lv_iinc (v := (nI ((cn (fun k => decide (0 < st 7 k)) k) + 1))) (lv' := [(1, .int (nI ((cn (fun k => decide (0 < st 7 k)) k) + 1))), (0, .ref x), (2, .int (nI k))]) X.1 X.2.1 dX9_countLeft_32 hl (k := 1) rfl (nI_1 _) (by decide) rfl (fun ls hl => ?_)
          refine lv_iinc (v := (nI (k + 1))) (lv' := [(2, .int (nI (k + 1))), (1, .int (nI ((cn (fun k => decide (0 < st 7 k)) k) + 1))), (0, .ref x)]) X.1 X.2.1 dX9_countLeft_35 hl (k := 2) rfl (nI_1 _) (by decide) rfl (fun ls hl => ?_)
          refine lv_goto (tgt := 4) X.1 X.2.1 dX9_countLeft_38 (by decide) ?_
          have hcn : cn (fun k => decide (0 < st 7 k)) (k + 1) = cn (fun k => decide (0 < st 7 k)) k + 1 := cn_t (decide_eq_true (nI_gt0 c_29))
          exact ih (k + 1) H locs ls (by omega) (by omega) S (by rw [hcn]; exact lv_sub hl [2, 1, 0] rfl)
  exact loop (st 0 0 + 1) 0 _ _ _ (by omega) (by omega) S (lv_sub hl [2, 1, 0] rfl)
