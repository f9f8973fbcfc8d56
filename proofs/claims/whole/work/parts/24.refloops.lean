/-! the reference: its loops -/
theorem loss_in {st : St} {k x y z : Nat} (h : st 5 k ≤ radOn (st 1 (16 * y + x)) z ∧ sq x (st 2 k) + sq y (st 3 k) ≤ radOn (st 1 (16 * y + x)) z * radOn (st 1 (16 * y + x)) z) : lossB st k x y z = st 6 k := by unfold lossB lossN; rw [if_pos h]
theorem loss_nr {st : St} {k x y z : Nat} (h : ¬ (st 5 k ≤ radOn (st 1 (16 * y + x)) z ∧ sq x (st 2 k) + sq y (st 3 k) ≤ radOn (st 1 (16 * y + x)) z * radOn (st 1 (16 * y + x)) z)) (h2 : sq x (st 2 k) + sq y (st 3 k) ≤ (st 5 k + radOn (st 1 (16 * y + x)) z) * (st 5 k + radOn (st 1 (16 * y + x)) z)) : lossB st k x y z = z := by unfold lossB lossN; rw [if_neg h, if_pos h2]
theorem loss_no {st : St} {k x y z : Nat} (h : ¬ (st 5 k ≤ radOn (st 1 (16 * y + x)) z ∧ sq x (st 2 k) + sq y (st 3 k) ≤ radOn (st 1 (16 * y + x)) z * radOn (st 1 (16 * y + x)) z)) (h2 : ¬ sq x (st 2 k) + sq y (st 3 k) ≤ (st 5 k + radOn (st 1 (16 * y + x)) z) * (st 5 k + radOn (st 1 (16 * y + x)) z)) : lossB st k x y z = 0 := by unfold lossB lossN; rw [if_neg h, if_neg h2]
def vset (V : Nat → Nat → Int32) (a : Nat) (w : Nat → Int32) : Nat → Nat → Int32 := fun b => if b = a then w else V b
theorem sq16 {a b c d : Nat} (ha : a < 16) (hb : b < 16) (hc : c < 16) (hd : d < 16) : sq a b + sq c d < 512 := by
  have := sq_lt ha hb
  have := sq_lt hc hd
  omega
theorem mulb {r n : Nat} (h : r ≤ n) : r * r ≤ n * n := Nat.mul_le_mul h h
set_option maxRecDepth 100000 in
set_option maxHeartbeats 4000000 in
/-- left -/
theorem n_left (l : Launch) (G : cx_G) (f : Wd) (st : St) (y : Nat) (A : Nat → Nat) (V : Nat → Nat → Int32) (VL : Nat → Nat → Int64) (thr : Int32) (hI : sInv st) (hM : RMx G f st y A V VL thr) : PI l G yX10_left wsX10_left 0 0 [.ref y] f (fun r => r = nI (cn (liveP st) (st 0 0))) := by
  refine cx_body (cc := cX10_left) (n := 3) (ret := (some .int)) (by decide +kernel) rfl (Nat.le_of_ble_eq_true rfl) ?_
  intro p0 e0 s0 m0 b0 meth0 c0 ls X hr hnm S hl
  have X : cxC G p0 l _ c0 cX10_left 3 m0 meth0 s0 _ RX10 wsX10_left := X
  have hl : lv_has ls 3 [(0, .ref y)] := hl
  have in_RX10 : ∀ w ∈ u_ws RX10 TX10 14, w ∈ wsX10_left := by decide +kernel
  obtain ⟨hi0, hi1, hi2, hi3, hi4, hi5, hi6, hi7⟩ := id hI
  obtain ⟨hy, ⟨hA1, hA2, hA3, hA5, hA7, hA9, hA10, hA11⟩, hv1, hvk, hv9, hvL⟩ := id hM
  have mm0 : md tM f f := md_rf _ _
  refine lv_iconst (v := 0) X.1 X.2.1 dX10_left_0 (by decide) ?_
  refine lv_istore_n (lv' := [(1, .int 0), (0, .ref y)]) X.1 X.2.1 dX10_left_1 rfl hl (by decide) rfl (fun ls hl => ?_)
  refine lv_iconst (v := 0) X.1 X.2.1 dX10_left_2 (by decide) ?_
  refine lv_istore_n (lv' := [(2, .int 0), (1, .int 0), (0, .ref y)]) X.1 X.2.1 dX10_left_3 rfl hl (by decide) rfl (fun ls hl => ?_)
  refine W_genQ (fun Q9 hQ9 => ?_)
  have loop : ∀ (N : Nat) (k : Nat) (H : Heap) (locs : List Loc) (ls : Array Slot), k ≤ st 0 0 → st 0 0 < k + N → cxS G s0 f H locs → lv_has ls 3 [(0, .ref y), (1, .int (nI (cn (liveP st) k))), (2, .int (nI k))] → W p0 l e0 ({ frames := 0, cells := 0, slots := 0, locals := 0 } : Room) s0 m0 ([.ref y] : List Value).toArray b0 meth0 c0 H locs 0 0 Q9 (F0 m0 4 ls []) := by
    intro N
    induction N with
    | zero =>
      intro k  H locs ls hk hN S hl
      exfalso
      omega
    | succ N ih =>
      intro k  H locs ls hk hN S hl
      refine lv_iload_n X.1 X.2.1 dX10_left_4 rfl (lv_at hl 2 rfl) ?_
      refine lv_aload_n X.1 X.2.1 dX10_left_5 rfl (lv_at hl 0 rfl) ?_
      refine r_get (C := RX10) (T := TX10) (N := 14) (ref := "CraterclockModel") X S in_RX10 hy rfl 1 (by decide) (by decide +kernel) (fun _ h => h) rfl dX10_left_6 ?_
      refine lv_icmp_ge (tgt := 35) X.1 X.2.1 dX10_left_9 (by decide) (fun c_9 => ?_) (fun c_9 => ?_)
      · have hkn : k = st 0 0 := by
          have := (nI_leI (by omega) (by omega)).mp c_9
          omega
        subst hQ9
        refine lv_iload_n X.1 X.2.1 dX10_left_35 rfl (lv_at hl 1 rfl) ?_
        refine e_ip X hr S dX10_left_36 ?_
        rw [hkn]
      · have hlt_k : k < st 0 0 := Nat.lt_of_not_le (fun z => c_9 (nI_le z (by omega)))
        have hck := hi2 k hlt_k
        have hr7 := hck.2.2.2.2.2.1
        have hd7 := hck.2.2.2.2.2.2
        refine lv_iload_n X.1 X.2.1 dX10_left_12 rfl (lv_at hl 1 rfl) ?_
        refine lv_aload_n X.1 X.2.1 dX10_left_13 rfl (lv_at hl 0 rfl) ?_
        refine r_get (C := RX10) (T := TX10) (N := 14) (ref := "CraterclockModel") X S in_RX10 hy rfl 5 (by decide) (by decide +kernel) (fun _ h => h) rfl dX10_left_14 ?_
        refine lv_iload_n X.1 X.2.1 dX10_left_17 rfl (lv_at hl 2 rfl) ?_
        refine r_iald (v := (nI (st 7 k))) X S hA7 (vp_in_nI (show k < 200 by omega) (by omega)) (by rw [nI_clamp (by omega)]; exact (hvk _ hlt_k).2.2.2) dX10_left_18 ?_
        refine lv_if_le (tgt := 26) X.1 X.2.1 dX10_left_19 (by decide) (fun c_19 => ?_) (fun c_19 => ?_)
        · refine lv_iconst (v := 0) X.1 X.2.1 dX10_left_26 (by decide) ?_
          refine lv_iadd X.1 X.2.1 dX10_left_27 ?_
          refine lv_istore_n (lv' := [(1, .int ((nI (cn (liveP st) k)) + 0)), (0, .ref y), (2, .int (nI k))]) X.1 X.2.1 dX10_left_28 rfl hl (by decide) rfl (fun ls hl => ?_)
          refine lv_iinc (v := (nI (k + 1))) (lv' := [(2, .int (nI (k + 1))), (1, .int ((nI (cn (liveP st) k)) + 0)), (0, .ref y)]) X.1 X.2.1 dX10_left_29 hl (k := 2) rfl (nI_1 _) (by decide) rfl (fun ls hl => ?_)
          refine lv_goto (tgt := 4) X.1 X.2.1 dX10_left_32 (by decide) ?_
          have hcn : nI (cn (liveP st) (k + 1)) = nI (cn (liveP st) k) + 0 := by rw [cn_f (decide_eq_false (fun z => by have := nI_le0 (by omega) c_19; omega))]; exact (Int32.add_zero _).symm
          exact ih (k + 1) H locs ls (by omega) (by omega) S (by rw [hcn]; exact lv_sub hl [2, 1, 0] rfl)
        · refine lv_iconst (v := 1) X.1 X.2.1 dX10_left_22 (by decide) ?_
          refine lv_goto (tgt := 27) X.1 X.2.1 dX10_left_23 (by decide) ?_
          refine lv_iadd X.1 X.2.1 dX10_left_27 ?_
          refine lv_istore_n (lv' := [(1, .int ((nI (cn (liveP st) k)) + 1)), (0, .ref y), (2, .int (nI k))]) X.1 X.2.1 dX10_left_28 rfl hl (by decide) rfl (fun ls hl => ?_)
          refine lv_iinc (v := (nI (k + 1))) (lv' := [(2, .int (nI (k + 1))), (1, .int ((nI (cn (liveP st) k)) + 1)), (0, .ref y)]) X.1 X.2.1 dX10_left_29 hl (k := 2) rfl (nI_1 _) (by decide) rfl (fun ls hl => ?_)
          refine lv_goto (tgt := 4) X.1 X.2.1 dX10_left_32 (by decide) ?_
          have hcn : nI (cn (liveP st) (k + 1)) = nI (cn (liveP st) k) + 1 := by rw [cn_t (decide_eq_true (nI_gt0 c_19))]; exact nI_succ _
          exact ih (k + 1) H locs ls (by omega) (by omega) S (by rw [hcn]; exact lv_sub hl [2, 1, 0] rfl)
  exact loop (st 0 0 + 1) 0 _ _ _ (by omega) (by omega) S (lv_sub hl [2, 1, 0] rfl)

set_option maxRecDepth 100000 in
set_option maxHeartbeats 4000000 in
/-- counts -/
theorem n_counts (l : Launch) (G : cx_G) (f : Wd) (st : St) (y : Nat) (A : Nat → Nat) (V : Nat → Nat → Int32) (VL : Nat → Nat → Int64) (thr : Int32) (hI : sInv st) (hM : RMx G f st y A V VL thr) (c a b p q k2 : Nat) (hlt_c : c < st 0 2) (ha : a < 16) (hb : b < 16) (hp : p < 16) (hq : q < 16) (hk2 : k2 < 100) : PI l G yX10_counts wsX10_counts 2 47 [.ref y, .int (nI c), .int (nI a), .int (nI b), .int (nI p), .int (nI q), .int (nI k2)] f (fun r => r = nI (cn (seenP st k2 c a b p q) (st 0 0))) := by
  refine cx_body (cc := cX10_counts) (n := 10) (ret := (some .int)) (by decide +kernel) rfl (Nat.le_of_ble_eq_true rfl) ?_
  intro p0 e0 s0 m0 b0 meth0 c0 ls X hr hnm S hl
  have X : cxC G p0 l _ c0 cX10_counts 10 m0 meth0 s0 _ RX10 wsX10_counts := X
  have hl : lv_has ls 10 [(0, .ref y), (1, .int (nI c)), (2, .int (nI a)), (3, .int (nI b)), (4, .int (nI p)), (5, .int (nI q)), (6, .int (nI k2))] := hl
  have in_RX10 : ∀ w ∈ u_ws RX10 TX10 14, w ∈ wsX10_counts := by decide +kernel
  obtain ⟨hi0, hi1, hi2, hi3, hi4, hi5, hi6, hi7⟩ := id hI
  obtain ⟨hy, ⟨hA1, hA2, hA3, hA5, hA7, hA9, hA10, hA11⟩, hv1, hvk, hv9, hvL⟩ := id hM
  have mm0 : md tM f f := md_rf _ _
  have hey := hi4 c hlt_c
  refine lv_iconst (v := 0) X.1 X.2.1 dX10_counts_0 (by decide) ?_
  refine lv_istore (lv' := [(7, .int 0), (0, .ref y), (1, .int (nI c)), (2, .int (nI a)), (3, .int (nI b)), (4, .int (nI p)), (5, .int (nI q)), (6, .int (nI k2))]) X.1 X.2.1 dX10_counts_1 hl (by decide) rfl (fun ls hl => ?_)
  refine lv_iconst (v := 0) X.1 X.2.1 dX10_counts_3 (by decide) ?_
  refine lv_istore (lv' := [(8, .int 0), (7, .int 0), (0, .ref y), (1, .int (nI c)), (2, .int (nI a)), (3, .int (nI b)), (4, .int (nI p)), (5, .int (nI q)), (6, .int (nI k2))]) X.1 X.2.1 dX10_counts_4 hl (by decide) rfl (fun ls hl => ?_)
  refine W_genQ (fun Q9 hQ9 => ?_)
  have loop : ∀ (N : Nat) (k : Nat) (H : Heap) (locs : List Loc) (ls : Array Slot), k ≤ st 0 0 → st 0 0 < k + N → cxS G s0 f H locs → lv_has ls 10 [(0, .ref y), (1, .int (nI c)), (2, .int (nI a)), (3, .int (nI b)), (4, .int (nI p)), (5, .int (nI q)), (6, .int (nI k2)), (7, .int (nI (cn (seenP st k2 c a b p q) k))), (8, .int (nI k))] → W p0 l e0 ({ frames := 2, cells := 0, slots := 0, locals := 47 } : Room) s0 m0 ([.ref y, .int (nI c), .int (nI a), .int (nI b), .int (nI p), .int (nI q), .int (nI k2)] : List Value).toArray b0 meth0 c0 H locs 0 0 Q9 (F0 m0 6 ls []) := by
    intro N
    induction N with
    | zero =>
      intro k  H locs ls hk hN S hl
      exfalso
      omega
    | succ N ih =>
      intro k  H locs ls hk hN S hl
      refine lv_iload X.1 X.2.1 dX10_counts_6 (lv_at hl 8 rfl) ?_
      refine lv_aload_n X.1 X.2.1 dX10_counts_8 rfl (lv_at hl 0 rfl) ?_
      refine r_get (C := RX10) (T := TX10) (N := 14) (ref := "CraterclockModel") X S in_RX10 hy rfl 1 (by decide) (by decide +kernel) (fun _ h => h) rfl dX10_counts_9 ?_
      refine lv_icmp_ge (tgt := 99) X.1 X.2.1 dX10_counts_12 (by decide) (fun c_12 => ?_) (fun c_12 => ?_)
      · have hkn : k = st 0 0 := by
          have := (nI_leI (by omega) (by omega)).mp c_12
          omega
        subst hQ9
        refine lv_iload X.1 X.2.1 dX10_counts_99 (lv_at hl 7 rfl) ?_
        refine e_ip X hr S dX10_counts_101 ?_
        rw [hkn]
      · have hlt_k : k < st 0 0 := Nat.lt_of_not_le (fun z => c_12 (nI_le z (by omega)))
        have hck := hi2 k hlt_k
        have hr7 := hck.2.2.2.2.2.1
        have hd7 := hck.2.2.2.2.2.2
        refine lv_aload_n X.1 X.2.1 dX10_counts_15 rfl (lv_at hl 0 rfl) ?_
        refine r_get (C := RX10) (T := TX10) (N := 14) (ref := "CraterclockModel") X S in_RX10 hy rfl 5 (by decide) (by decide +kernel) (fun _ h => h) rfl dX10_counts_16 ?_
        refine lv_iload X.1 X.2.1 dX10_counts_19 (lv_at hl 8 rfl) ?_
        refine r_iald (v := (nI (st 7 k))) X S hA7 (vp_in_nI (show k < 200 by omega) (by omega)) (by rw [nI_clamp (by omega)]; exact (hvk _ hlt_k).2.2.2) dX10_counts_21 ?_
        refine lv_if_le (tgt := 48) X.1 X.2.1 dX10_counts_22 (by decide) (fun c_22 => ?_) (fun c_22 => ?_)
        · refine lv_iconst (v := 0) X.1 X.2.1 dX10_counts_48 (by decide) ?_
          refine lv_istore (lv' := [(9, .int 0), (0, .ref y), (1, .int (nI c)), (2, .int (nI a)), (3, .int (nI b)), (4, .int (nI p)), (5, .int (nI q)), (6, .int (nI k2)), (7, .int (nI (cn (seenP st k2 c a b p q) k))), (8, .int (nI k))]) X.1 X.2.1 dX10_counts_49 hl (by decide) rfl (fun ls hl => ?_)
          refine lv_iload X.1 X.2.1 dX10_counts_51 (lv_at hl 8 rfl) ?_
          refine lv_iload X.1 X.2.1 dX10_counts_53 (lv_at hl 0 rfl) ?_
          refine lv_if_eq (x := 0) (tgt := 89) X.1 X.2.1 dX10_counts_55 (by decide) (fun c_55 => ?_) (fun c_55 => absurd (by decide) c_55)
          refine lv_iconst (v := 0) X.1 X.2.1 dX10_counts_89 (by decide) ?_
          refine lv_iadd X.1 X.2.1 dX10_counts_90 ?_
          refine lv_istore (lv' := [(7, .int ((nI (cn (seenP st k2 c a b p q) k)) + 0)), (9, .int 0), (0, .ref y), (1, .int (nI c)), (2, .int (nI a)), (3, .int (nI b)), (4, .int (nI p)), (5, .int (nI q)), (6, .int (nI k2)), (8, .int (nI k))]) X.1 X.2.1 dX10_counts_91 hl (by decide) rfl (fun ls hl => ?_)
          refine lv_iinc (v := (nI (k + 1))) (lv' := [(8, .int (nI (k + 1))), (7, .int ((nI (cn (seenP st k2 c a b p q) k)) + 0)), (9, .int 0), (0, .ref y), (1, .int (nI c)), (2, .int (nI a)), (3, .int (nI b)), (4, .int (nI p)), (5, .int (nI q)), (6, .int (nI k2))]) X.1 X.2.1 dX10_counts_93 hl (k := 9) rfl (nI_1 _) (by decide) rfl (fun ls hl => ?_)
          refine lv_goto (tgt := 6) X.1 X.2.1 dX10_counts_96 (by decide) ?_
          have hcn : nI (cn (seenP st k2 c a b p q) (k + 1)) = nI (cn (seenP st k2 c a b p q) k) + 0 := by rw [cn_f (decide_eq_false (fun z => by have := nI_le0 (by omega) c_22; omega))]; exact (Int32.add_zero _).symm
          exact ih (k + 1) H locs ls (by omega) (by omega) S (by rw [hcn]; exact lv_sub hl [3, 4, 5, 6, 7, 8, 9, 1, 0] rfl)
        · refine lv_aload_n X.1 X.2.1 dX10_counts_25 rfl (lv_at hl 0 rfl) ?_
          refine r_get (C := RX10) (T := TX10) (N := 14) (ref := "CraterclockModel") X S in_RX10 hy rfl 5 (by decide) (by decide +kernel) (fun _ h => h) rfl dX10_counts_26 ?_
          refine lv_iload X.1 X.2.1 dX10_counts_29 (lv_at hl 8 rfl) ?_
          refine r_iald (v := (nI (st 7 k))) X S hA7 (vp_in_nI (show k < 200 by omega) (by omega)) (by rw [nI_clamp (by omega)]; exact (hvk _ hlt_k).2.2.2) dX10_counts_31 ?_
          refine lv_bipush (v := 10) X.1 X.2.1 dX10_counts_32 (by decide) ?_
          refine lv_aload_n X.1 X.2.1 dX10_counts_34 rfl (lv_at hl 0 rfl) ?_
          refine r_get (C := RX10) (T := TX10) (N := 14) (ref := "CraterclockModel") X S in_RX10 hy rfl 9 (by decide) (by decide +kernel) (fun _ h => h) rfl dX10_counts_35 ?_
          refine lv_iload_n X.1 X.2.1 dX10_counts_38 rfl (lv_at hl 1 rfl) ?_
          refine r_iald (v := (nI (st 9 c))) X S hA9 (vp_in_nI (show c < 6 by omega) (by omega)) (by rw [nI_clamp (by omega)]; exact hv9 _ hlt_c) dX10_counts_39 ?_
          refine lv_isub X.1 X.2.1 dX10_counts_40 ?_
          refine r_toi (y := nI (10 - st 9 c)) (pk_sub (a := 10) (by omega)) ?_
          refine lv_icmp_lt (tgt := 48) X.1 X.2.1 dX10_counts_41 (by decide) (fun c_41 => ?_) (fun c_41 => ?_)
          · refine lv_iconst (v := 0) X.1 X.2.1 dX10_counts_48 (by decide) ?_
            refine lv_istore (lv' := [(9, .int 0), (0, .ref y), (1, .int (nI c)), (2, .int (nI a)), (3, .int (nI b)), (4, .int (nI p)), (5, .int (nI q)), (6, .int (nI k2)), (7, .int (nI (cn (seenP st k2 c a b p q) k))), (8, .int (nI k))]) X.1 X.2.1 dX10_counts_49 hl (by decide) rfl (fun ls hl => ?_)
            refine lv_iload X.1 X.2.1 dX10_counts_51 (lv_at hl 8 rfl) ?_
            refine lv_iload X.1 X.2.1 dX10_counts_53 (lv_at hl 0 rfl) ?_
            refine lv_if_eq (x := 0) (tgt := 89) X.1 X.2.1 dX10_counts_55 (by decide) (fun c_55 => ?_) (fun c_55 => absurd (by decide) c_55)
            refine lv_iconst (v := 0) X.1 X.2.1 dX10_counts_89 (by decide) ?_
            refine lv_iadd X.1 X.2.1 dX10_counts_90 ?_
            refine lv_istore (lv' := [(7, .int ((nI (cn (seenP st k2 c a b p q) k)) + 0)), (9, .int 0), (0, .ref y), (1, .int (nI c)), (2, .int (nI a)), (3, .int (nI b)), (4, .int (nI p)), (5, .int (nI q)), (6, .int (nI k2)), (8, .int (nI k))]) X.1 X.2.1 dX10_counts_91 hl (by decide) rfl (fun ls hl => ?_)
            refine lv_iinc (v := (nI (k + 1))) (lv' := [(8, .int (nI (k + 1))), (7, .int ((nI (cn (seenP st k2 c a b p q) k)) + 0)), (9, .int 0), (0, .ref y), (1, .int (nI c)), (2, .int (nI a)), (3, .int (nI b)), (4, .int (nI p)), (5, .int (nI q)), (6, .int (nI k2))]) X.1 X.2.1 dX10_counts_93 hl (k := 9) rfl (nI_1 _) (by decide) rfl (fun ls hl => ?_)
            refine lv_goto (tgt := 6) X.1 X.2.1 dX10_counts_96 (by decide) ?_
            have hcn : nI (cn (seenP st k2 c a b p q) (k + 1)) = nI (cn (seenP st k2 c a b p q) k) + 0 := by rw [cn_f (decide_eq_false (fun z => nI_nlt z.2.2.2 (by omega) c_41))]; exact (Int32.add_zero _).symm
            exact ih (k + 1) H locs ls (by omega) (by omega) S (by rw [hcn]; exact lv_sub hl [3, 4, 5, 6, 7, 8, 9, 1, 0] rfl)
          · refine lv_iconst (v := 1) X.1 X.2.1 dX10_counts_44 (by decide) ?_
            refine lv_goto (tgt := 49) X.1 X.2.1 dX10_counts_45 (by decide) ?_
            refine lv_istore (lv' := [(9, .int 1), (0, .ref y), (1, .int (nI c)), (2, .int (nI a)), (3, .int (nI b)), (4, .int (nI p)), (5, .int (nI q)), (6, .int (nI k2)), (7, .int (nI (cn (seenP st k2 c a b p q) k))), (8, .int (nI k))]) X.1 X.2.1 dX10_counts_49 hl (by decide) rfl (fun ls hl => ?_)
            refine lv_iload X.1 X.2.1 dX10_counts_51 (lv_at hl 8 rfl) ?_
            refine lv_iload X.1 X.2.1 dX10_counts_53 (lv_at hl 0 rfl) ?_
            refine lv_if_eq (x := 1) (tgt := 89) X.1 X.2.1 dX10_counts_55 (by decide) (fun c_55 => absurd c_55 (by decide)) (fun c_55 => ?_)
            refine lv_aload_n X.1 X.2.1 dX10_counts_58 rfl (lv_at hl 1 rfl) ?_
            refine r_get (C := RX10) (T := TX10) (N := 14) (ref := "CraterclockModel") X S in_RX10 hy rfl 4 (by decide) (by decide +kernel) (fun _ h => h) rfl dX10_counts_59 ?_
            refine lv_iload X.1 X.2.1 dX10_counts_62 (lv_at hl 9 rfl) ?_
            refine r_iald (v := (nI (st 5 k))) X S hA5 (vp_in_nI (show k < 200 by omega) (by omega)) (by rw [nI_clamp (by omega)]; exact (hvk _ hlt_k).2.2.1) dX10_counts_64 ?_
            refine lv_iload X.1 X.2.1 dX10_counts_65 (lv_at hl 7 rfl) ?_
            refine lv_icmp_lt (tgt := 89) X.1 X.2.1 dX10_counts_67 (by decide) (fun c_67 => ?_) (fun c_67 => ?_)
            · refine lv_iconst (v := 0) X.1 X.2.1 dX10_counts_89 (by decide) ?_
              refine lv_iadd X.1 X.2.1 dX10_counts_90 ?_
              refine lv_istore (lv' := [(7, .int ((nI (cn (seenP st k2 c a b p q) k)) + 0)), (9, .int 1), (0, .ref y), (1, .int (nI c)), (2, .int (nI a)), (3, .int (nI b)), (4, .int (nI p)), (5, .int (nI q)), (6, .int (nI k2)), (8, .int (nI k))]) X.1 X.2.1 dX10_counts_91 hl (by decide) rfl (fun ls hl => ?_)
              refine lv_iinc (v := (nI (k + 1))) (lv' := [(8, .int (nI (k + 1))), (7, .int ((nI (cn (seenP st k2 c a b p q) k)) + 0)), (9, .int 1), (0, .ref y), (1, .int (nI c)), (2, .int (nI a)), (3, .int (nI b)), (4, .int (nI p)), (5, .int (nI q)), (6, .int (nI k2))]) X.1 X.2.1 dX10_counts_93 hl (k := 9) rfl (nI_1 _) (by decide) rfl (fun ls hl => ?_)
              refine lv_goto (tgt := 6) X.1 X.2.1 dX10_counts_96 (by decide) ?_
              have hcn : nI (cn (seenP st k2 c a b p q) (k + 1)) = nI (cn (seenP st k2 c a b p q) k) + 0 := by rw [cn_f (decide_eq_false (fun z => nI_nlt z.1 (by omega) c_67))]; exact (Int32.add_zero _).symm
              exact ih (k + 1) H locs ls (by omega) (by omega) S (by rw [hcn]; exact lv_sub hl [3, 4, 5, 6, 7, 8, 9, 1, 0] rfl)
            · refine lv_aload_n X.1 X.2.1 dX10_counts_70 rfl (lv_at hl 1 rfl) ?_
              refine lv_iload X.1 X.2.1 dX10_counts_71 (lv_at hl 9 rfl) ?_
              refine lv_iload_n X.1 X.2.1 dX10_counts_73 rfl (lv_at hl 3 rfl) ?_
              refine lv_iload_n X.1 X.2.1 dX10_counts_74 rfl (lv_at hl 4 rfl) ?_
              refine lv_iload X.1 X.2.1 dX10_counts_75 (lv_at hl 5 rfl) ?_
              refine lv_iload X.1 X.2.1 dX10_counts_77 (lv_at hl 6 rfl) ?_
              refine call_ip (run_V X S (n_isWithin l G f y A (nI (st 0 0)) (nI (st 0 4)) (nI (st 0 1)) (nI (st 0 2)) (nI (st 0 3)) thr hy (V 2) (V 3) hA2 hA3 k (st 2 k) (st 3 k) a b p q (by omega) hck.1 hck.2.1 ha hb hp hq (hvk k hlt_k).1 (hvk k hlt_k).2.1) 5 gX10_counts_X10_isWithin rfl rfl rfl (by decide +kernel) ⟨(by exact Nat.le_of_ble_eq_true rfl), (by exact Nat.le_of_ble_eq_true rfl)⟩ ⟨_, _, hy⟩ rfl rfl rfl hl.1 rfl (by exact Nat.le_of_ble_eq_true rfl) dX10_counts_79 ⟨(Nat.zero_le _), (Nat.zero_le _)⟩) S (fun r_79 H locs hr_79 S => ?_)
              subst hr_79
              refine r_eqB (tgt := 89) X dX10_counts_82 (by decide) (fun c_82 => ?_) (fun c_82 => ?_)
              · refine lv_iconst (v := 0) X.1 X.2.1 dX10_counts_89 (by decide) ?_
                refine lv_iadd X.1 X.2.1 dX10_counts_90 ?_
                refine lv_istore (lv' := [(7, .int ((nI (cn (seenP st k2 c a b p q) k)) + 0)), (9, .int 1), (0, .ref y), (1, .int (nI c)), (2, .int (nI a)), (3, .int (nI b)), (4, .int (nI p)), (5, .int (nI q)), (6, .int (nI k2)), (8, .int (nI k))]) X.1 X.2.1 dX10_counts_91 hl (by decide) rfl (fun ls hl => ?_)
                refine lv_iinc (v := (nI (k + 1))) (lv' := [(8, .int (nI (k + 1))), (7, .int ((nI (cn (seenP st k2 c a b p q) k)) + 0)), (9, .int 1), (0, .ref y), (1, .int (nI c)), (2, .int (nI a)), (3, .int (nI b)), (4, .int (nI p)), (5, .int (nI q)), (6, .int (nI k2))]) X.1 X.2.1 dX10_counts_93 hl (k := 9) rfl (nI_1 _) (by decide) rfl (fun ls hl => ?_)
                refine lv_goto (tgt := 6) X.1 X.2.1 dX10_counts_96 (by decide) ?_
                have hcn : nI (cn (seenP st k2 c a b p q) (k + 1)) = nI (cn (seenP st k2 c a b p q) k) + 0 := by rw [cn_f (decide_eq_false (fun z => of_decide_eq_false c_82 z.2.1))]; exact (Int32.add_zero _).symm
                exact ih (k + 1) H locs ls (by omega) (by omega) S (by rw [hcn]; exact lv_sub hl [3, 4, 5, 6, 7, 8, 9, 1, 0] rfl)
              · refine lv_iconst (v := 1) X.1 X.2.1 dX10_counts_85 (by decide) ?_
                refine lv_goto (tgt := 90) X.1 X.2.1 dX10_counts_86 (by decide) ?_
                refine lv_iadd X.1 X.2.1 dX10_counts_90 ?_
                refine lv_istore (lv' := [(7, .int ((nI (cn (seenP st k2 c a b p q) k)) + 1)), (9, .int 1), (0, .ref y), (1, .int (nI c)), (2, .int (nI a)), (3, .int (nI b)), (4, .int (nI p)), (5, .int (nI q)), (6, .int (nI k2)), (8, .int (nI k))]) X.1 X.2.1 dX10_counts_91 hl (by decide) rfl (fun ls hl => ?_)
                refine lv_iinc (v := (nI (k + 1))) (lv' := [(8, .int (nI (k + 1))), (7, .int ((nI (cn (seenP st k2 c a b p q) k)) + 1)), (9, .int 1), (0, .ref y), (1, .int (nI c)), (2, .int (nI a)), (3, .int (nI b)), (4, .int (nI p)), (5, .int (nI q)), (6, .int (nI k2))]) X.1 X.2.1 dX10_counts_93 hl (k := 9) rfl (nI_1 _) (by decide) rfl (fun ls hl => ?_)
                refine lv_goto (tgt := 6) X.1 X.2.1 dX10_counts_96 (by decide) ?_
                have hcn : nI (cn (seenP st k2 c a b p q) (k + 1)) = nI (cn (seenP st k2 c a b p q) k) + 1 := by rw [cn_t (decide_eq_true ⟨Nat.le_of_not_lt (fun z => c_67 (nI_lt z (by omega))), of_decide_eq_true c_82, nI_gt0 c_22, Nat.le_of_not_lt (fun z => c_41 (nI_lt z (by omega)))⟩)]; exact nI_succ _
                exact ih (k + 1) H locs ls (by omega) (by omega) S (by rw [hcn]; exact lv_sub hl [3, 4, 5, 6, 7, 8, 9, 1, 0] rfl)
  exact loop (st 0 0 + 1) 0 _ _ _ (by omega) (by omega) S (lv_sub hl [2, 3, 4, 5, 6, 7, 8, 1, 0] rfl)

set_option maxRecDepth 100000 in
set_option maxHeartbeats 4000000 in
/-- densityOf -/
theorem n_densityOf (l : Launch) (G : cx_G) (f : Wd) (st : St) (y : Nat) (A : Nat → Nat) (V : Nat → Nat → Int32) (VL : Nat → Nat → Int64) (thr : Int32) (hI : sInv st) (hM : RMx G f st y A V VL thr) (c a b p q : Nat) (hlt_c : c < st 0 2) (ha : a < 16) (hb : b < 16) (hp : p < 16) (hq : q < 16) (h1 : a ≤ p) (h2 : b ≤ q) : PL l G yX10_densityOf wsX10_densityOf 3 76 [.ref y, .int (nI c), .int (nI a), .int (nI b), .int (nI p), .int (nI q)] f (fun r => r = lN (densN st c a b p q)) := by
  refine cx_body (cc := cX10_densityOf) (n := 6) (ret := (some .long)) (by decide +kernel) rfl (Nat.le_of_ble_eq_true rfl) ?_
  intro p0 e0 s0 m0 b0 meth0 c0 ls X hr hnm S hl
  have X : cxC G p0 l _ c0 cX10_densityOf 6 m0 meth0 s0 _ RX10 wsX10_densityOf := X
  have hl : lv_has ls 6 [(0, .ref y), (1, .int (nI c)), (2, .int (nI a)), (3, .int (nI b)), (4, .int (nI p)), (5, .int (nI q))] := hl
  obtain ⟨hi0, hi1, hi2, hi3, hi4, hi5, hi6, hi7⟩ := id hI
  obtain ⟨hy, ⟨hA1, hA2, hA3, hA5, hA7, hA9, hA10, hA11⟩, hv1, hvk, hv9, hvL⟩ := id hM
  have mm0 : md tM f f := md_rf _ _
  have hcn := cn_le (seenP st 1 c a b p q) (st 0 0)
  have hm1 : ((p - a + 1) * (q - b + 1)) ≤ 16 * 16 := Nat.mul_le_mul (by omega) (by omega)
  have hm0 : 0 < ((p - a + 1) * (q - b + 1)) := Nat.mul_pos (by omega) (by omega)
  refine lv_aload_n X.1 X.2.1 dX10_densityOf_0 rfl (lv_at hl 0 rfl) ?_
  refine lv_iload_n X.1 X.2.1 dX10_densityOf_1 rfl (lv_at hl 1 rfl) ?_
  refine lv_iload_n X.1 X.2.1 dX10_densityOf_2 rfl (lv_at hl 2 rfl) ?_
  refine lv_iload_n X.1 X.2.1 dX10_densityOf_3 rfl (lv_at hl 3 rfl) ?_
  refine lv_iload X.1 X.2.1 dX10_densityOf_4 (lv_at hl 4 rfl) ?_
  refine lv_iload X.1 X.2.1 dX10_densityOf_6 (lv_at hl 5 rfl) ?_
  refine lv_iconst (v := 1) X.1 X.2.1 dX10_densityOf_8 (by decide) ?_
  refine call_ip (run_V X S (n_counts l G f st y A V VL thr hI hM c a b p q 1 hlt_c ha hb hp hq (by omega)) 6 gX10_densityOf_X10_counts rfl rfl rfl (by decide +kernel) ⟨(by exact Nat.le_of_ble_eq_true rfl), (by exact Nat.le_of_ble_eq_true rfl)⟩ ⟨_, _, hy⟩ rfl rfl rfl hl.1 rfl (by exact Nat.le_of_ble_eq_true rfl) dX10_densityOf_9 ⟨(Nat.zero_le _), (Nat.zero_le _)⟩) S (fun r_9 H locs hr_9 S => ?_)
  subst hr_9
  refine lv_i2l (v := (nI (cn (seenP st 1 c a b p q) (st 0 0))).toInt64) X.1 X.2.1 dX10_densityOf_12 rfl ?_
  refine r_tol (y := lN (cn (seenP st 1 c a b p q) (st 0 0))) (nI_l (by omega)) ?_
  refine r_ldc2 (v := 256000) X (by decide +kernel) dX10_densityOf_13 ?_
  refine lv_lmul X.1 X.2.1 dX10_densityOf_16 ?_
  refine r_tol (y := lN ((cn (seenP st 1 c a b p q) (st 0 0)) * 256000)) (lN_mul _ _) ?_
  refine lv_iload X.1 X.2.1 dX10_densityOf_17 (lv_at hl 4 rfl) ?_
  refine lv_iload_n X.1 X.2.1 dX10_densityOf_19 rfl (lv_at hl 2 rfl) ?_
  refine lv_isub X.1 X.2.1 dX10_densityOf_20 ?_
  refine r_toi (y := nI (p - a)) (pk_sub h1) ?_
  refine lv_iconst (v := 1) X.1 X.2.1 dX10_densityOf_21 (by decide) ?_
  refine lv_iadd X.1 X.2.1 dX10_densityOf_22 ?_
  refine r_toi (y := nI (p - a + 1)) (nI_1 _) ?_
  refine lv_iload X.1 X.2.1 dX10_densityOf_23 (lv_at hl 5 rfl) ?_
  refine lv_iload_n X.1 X.2.1 dX10_densityOf_25 rfl (lv_at hl 3 rfl) ?_
  refine lv_isub X.1 X.2.1 dX10_densityOf_26 ?_
  refine r_toi (y := nI (q - b)) (pk_sub h2) ?_
  refine lv_iconst (v := 1) X.1 X.2.1 dX10_densityOf_27 (by decide) ?_
  refine lv_iadd X.1 X.2.1 dX10_densityOf_28 ?_
  refine r_toi (y := nI (q - b + 1)) (nI_1 _) ?_
  refine lv_imul X.1 X.2.1 dX10_densityOf_29 ?_
  refine r_toi (y := nI ((p - a + 1) * (q - b + 1))) (pk_mul _ _) ?_
  refine lv_i2l (v := (nI ((p - a + 1) * (q - b + 1))).toInt64) X.1 X.2.1 dX10_densityOf_30 rfl ?_
  refine r_tol (y := lN ((p - a + 1) * (q - b + 1))) (nI_l (by omega)) ?_
  refine lv_ldiv X.1 X.2.1 dX10_densityOf_31 (fun z => by have := (pk_lEQ (b := 0) (by omega) (by omega)).mp z; omega) ?_
  refine e_lp X hr S dX10_densityOf_32 ?_
  exact pk_lDiv (by omega) hm0 (by omega)

set_option maxRecDepth 100000 in
set_option maxHeartbeats 4000000 in
/-- reason -/
theorem n_reason (l : Launch) (G : cx_G) (f : Wd) (st : St) (y : Nat) (A : Nat → Nat) (V : Nat → Nat → Int32) (VL : Nat → Nat → Int64) (thr : Int32) (hI : sInv st) (hM : RMx G f st y A V VL thr) (c a b p q : Nat) (hlt_c : c < st 0 2) (ha : a < 16) (hb : b < 16) (hp : p < 16) (hq : q < 16) (h1 : a ≤ p) (h2 : b ≤ q) : PI l G yX10_reason wsX10_reason 4 101 [.ref y, .int (nI c), .int (nI a), .int (nI b), .int (nI p), .int (nI q)] f (fun r => r = nI (lackN st (densN st c a b p q))) := by
  refine cx_body (cc := cX10_reason) (n := 6) (ret := (some .int)) (by decide +kernel) rfl (Nat.le_of_ble_eq_true rfl) ?_
  intro p0 e0 s0 m0 b0 meth0 c0 ls X hr hnm S hl
  have X : cxC G p0 l _ c0 cX10_reason 6 m0 meth0 s0 _ RX10 wsX10_reason := X
  have hl : lv_has ls 6 [(0, .ref y), (1, .int (nI c)), (2, .int (nI a)), (3, .int (nI b)), (4, .int (nI p)), (5, .int (nI q))] := hl
  have in_RX10 : ∀ w ∈ u_ws RX10 TX10 14, w ∈ wsX10_reason := by decide +kernel
  obtain ⟨hi0, hi1, hi2, hi3, hi4, hi5, hi6, hi7⟩ := id hI
  obtain ⟨hy, ⟨hA1, hA2, hA3, hA5, hA7, hA9, hA10, hA11⟩, hv1, hvk, hv9, hvL⟩ := id hM
  have mm0 : md tM f f := md_rf _ _
  refine lv_aload_n X.1 X.2.1 dX10_reason_0 rfl (lv_at hl 0 rfl) ?_
  refine r_get (C := RX10) (T := TX10) (N := 14) (ref := "CraterclockModel") X S in_RX10 hy rfl 10 (by decide) (by decide +kernel) (fun _ h => h) rfl dX10_reason_1 ?_
  refine lv_iconst (v := 2) X.1 X.2.1 dX10_reason_4 (by decide) ?_
  refine lv_icmp_ge (tgt := 12) X.1 X.2.1 dX10_reason_5 (by decide) (fun c_5 => ?_) (fun c_5 => ?_)
  · have hn2 : 2 ≤ st 0 3 := nI_le_lit (a := 2) (by omega) (by omega) c_5
    have hlt_st031 : st 0 3 - 1 < st 0 3 := by omega
    have hab := hi5 (st 0 3 - 1) hlt_st031
    have hdl := dens_lt hI c a b p q
    refine lv_aload_n X.1 X.2.1 dX10_reason_12 rfl (lv_at hl 0 rfl) ?_
    refine lv_iload_n X.1 X.2.1 dX10_reason_13 rfl (lv_at hl 1 rfl) ?_
    refine lv_iload_n X.1 X.2.1 dX10_reason_14 rfl (lv_at hl 2 rfl) ?_
    refine lv_iload_n X.1 X.2.1 dX10_reason_15 rfl (lv_at hl 3 rfl) ?_
    refine lv_iload X.1 X.2.1 dX10_reason_16 (lv_at hl 4 rfl) ?_
    refine lv_iload X.1 X.2.1 dX10_reason_18 (lv_at hl 5 rfl) ?_
    refine call_lp (run_V X S (n_densityOf l G f st y A V VL thr hI hM c a b p q hlt_c ha hb hp hq h1 h2) 5 gX10_reason_X10_densityOf rfl rfl rfl (by decide +kernel) ⟨(by exact Nat.le_of_ble_eq_true rfl), (by exact Nat.le_of_ble_eq_true rfl)⟩ ⟨_, _, hy⟩ rfl rfl rfl hl.1 rfl (by exact Nat.le_of_ble_eq_true rfl) dX10_reason_20 ⟨(Nat.zero_le _), (Nat.zero_le _)⟩) S (fun r_20 H locs hr_20 S => ?_)
    subst hr_20
    refine lv_aload_n X.1 X.2.1 dX10_reason_23 rfl (lv_at hl 0 rfl) ?_
    refine r_get (C := RX10) (T := TX10) (N := 14) (ref := "CraterclockModel") X S in_RX10 hy rfl 12 (by decide) (by decide +kernel) (fun _ h => h) rfl dX10_reason_24 ?_
    refine lv_aload_n X.1 X.2.1 dX10_reason_27 rfl (lv_at hl 0 rfl) ?_
    refine r_get (C := RX10) (T := TX10) (N := 14) (ref := "CraterclockModel") X S in_RX10 hy rfl 10 (by decide) (by decide +kernel) (fun _ h => h) rfl dX10_reason_28 ?_
    refine lv_iconst (v := 1) X.1 X.2.1 dX10_reason_31 (by decide) ?_
    refine lv_isub X.1 X.2.1 dX10_reason_32 ?_
    refine r_toi (y := nI (st 0 3 - 1)) (nI_m1 (by omega)) ?_
    refine r_lald (v := (lN (st 11 (st 0 3 - 1)))) X S hA11 (vp_in_nI (show (st 0 3 - 1) < 8 by omega) (by omega)) (by rw [nI_clamp (by omega)]; exact (hvL _ hlt_st031).2) dX10_reason_33 ?_
    refine W.lcmp X.1 X.2.1 dX10_reason_34 ?_
    refine lv_if_le (tgt := 42) X.1 X.2.1 dX10_reason_35 (by decide) (fun c_35 => ?_) (fun c_35 => ?_)
    · refine lv_iconst (v := 0) X.1 X.2.1 dX10_reason_42 (by decide) ?_
      refine e_ip X hr S dX10_reason_43 ?_
      unfold lackN
      rw [if_neg (by omega), if_neg (fun z => absurd (lN_len (by omega) (by omega) ((lg_cmp_le _ _).mp c_35)) (by omega))]
      exact rfl
    · refine lv_iconst (v := 2) X.1 X.2.1 dX10_reason_38 (by decide) ?_
      refine lv_goto (tgt := 43) X.1 X.2.1 dX10_reason_39 (by decide) ?_
      refine e_ip X hr S dX10_reason_43 ?_
      unfold lackN
      rw [if_neg (by omega), if_pos (lN_ltn (by omega) (by omega) (by have z := c_35; rw [lg_cmp_le] at z; exact Int64.not_le.mp z))]
      exact rfl
  · refine lv_iconst (v := 1) X.1 X.2.1 dX10_reason_8 (by decide) ?_
    refine lv_goto (tgt := 43) X.1 X.2.1 dX10_reason_9 (by decide) ?_
    refine e_ip X hr S dX10_reason_43 ?_
    unfold lackN
    rw [if_pos (Nat.lt_of_not_le (fun z => c_5 (nI_le (a := 2) z (by omega))))]
    exact rfl

set_option maxRecDepth 100000 in
set_option maxHeartbeats 4000000 in
/-- ageBy -/
theorem n_ageBy (l : Launch) (G : cx_G) (f : Wd) (st : St) (y : Nat) (A : Nat → Nat) (V : Nat → Nat → Int32) (VL : Nat → Nat → Int64) (thr : Int32) (hI : sInv st) (hM : RMx G f st y A V VL thr) (d : Nat) (hn2 : 2 ≤ st 0 3) (hd : d ≤ st 11 (st 0 3 - 1)) : PL l G yX10_ageBy wsX10_ageBy 0 0 [.ref y, .long (lN d)] f (fun r => ageR st d r) := by
  refine cx_body (cc := cX10_ageBy) (n := 4) (ret := (some .long)) (by decide +kernel) rfl (Nat.le_of_ble_eq_true rfl) ?_
  intro p0 e0 s0 m0 b0 meth0 c0 ls X hr hnm S hl
  have X : cxC G p0 l _ c0 cX10_ageBy 4 m0 meth0 s0 _ RX10 wsX10_ageBy := X
  have hl : lv_has ls 4 [(0, .ref y), (1, .long (lN d))] := hl
  have in_RX10 : ∀ w ∈ u_ws RX10 TX10 14, w ∈ wsX10_ageBy := by decide +kernel
  obtain ⟨hi0, hi1, hi2, hi3, hi4, hi5, hi6, hi7⟩ := id hI
  obtain ⟨hy, ⟨hA1, hA2, hA3, hA5, hA7, hA9, hA10, hA11⟩, hv1, hvk, hv9, hvL⟩ := id hM
  have mm0 : md tM f f := md_rf _ _
  have hdb := (hi5 (st 0 3 - 1) (by omega)).2.2.2
  have hlt_0 : 0 < st 0 3 := by omega
  have ha0 := hi5 0 hlt_0
  refine lv_lload_n X.1 X.2.1 dX10_ageBy_0 rfl (lv_at hl 1 rfl) ?_
  refine lv_aload_n X.1 X.2.1 dX10_ageBy_1 rfl (lv_at hl 0 rfl) ?_
  refine r_get (C := RX10) (T := TX10) (N := 14) (ref := "CraterclockModel") X S in_RX10 hy rfl 12 (by decide) (by decide +kernel) (fun _ h => h) rfl dX10_ageBy_2 ?_
  refine lv_iconst (v := 0) X.1 X.2.1 dX10_ageBy_5 (by decide) ?_
  refine r_lald (v := (lN (st 11 0))) X S hA11 (vp_in_nI (show 0 < 8 by omega) (by omega)) (by rw [show (0 : Int32).toNatClampNeg = 0 from rfl]; exact (hvL 0 hlt_0).2) dX10_ageBy_6 ?_
  refine W.lcmp X.1 X.2.1 dX10_ageBy_7 ?_
  refine lv_if_gt (tgt := 27) X.1 X.2.1 dX10_ageBy_8 (by decide) (fun c_8 => ?_) (fun c_8 => ?_)
  · have hd0 : st 11 0 < d := lN_ltn (by omega) (by omega) ((lg_cmp_gt _ _).mp c_8)
    refine lv_iconst (v := 1) X.1 X.2.1 dX10_ageBy_27 (by decide) ?_
    refine lv_istore_n (lv' := [(3, .int 1), (0, .ref y), (1, .long (lN d))]) X.1 X.2.1 dX10_ageBy_28 rfl hl (by decide) rfl (fun ls hl => ?_)
    refine W_genQ (fun Q9 hQ9 => ?_)
    have loop : ∀ (N : Nat) (k : Nat) (H : Heap) (locs : List Loc) (ls : Array Slot), 1 ≤ k → k < st 0 3 → st 0 3 < k + N → (∀ j, j < k → st 11 j < d) → cxS G s0 f H locs → lv_has ls 4 [(0, .ref y), (1, .long (lN d)), (3, .int (nI k))] → W p0 l e0 ({ frames := 0, cells := 0, slots := 0, locals := 0 } : Room) s0 m0 ([.ref y, .long (lN d)] : List Value).toArray b0 meth0 c0 H locs 0 0 Q9 (F0 m0 29 ls []) := by
      intro N
      induction N with
      | zero =>
        intro k  H locs ls hk1 hlt_k hN hlo S hl
        exfalso
        omega
      | succ N ih =>
        intro k  H locs ls hk1 hlt_k hN hlo S hl
        have hak := hi5 k hlt_k
        have hlt_k1 : k - 1 < st 0 3 := by omega
        have hak1 := hi5 (k - 1) hlt_k1
        have hlt := anch_lt st hI (show k - 1 < k by omega) hlt_k
        have hlo1 := hlo (k - 1) (by omega)
        refine lv_lload_n X.1 X.2.1 dX10_ageBy_29 rfl (lv_at hl 1 rfl) ?_
        refine lv_aload_n X.1 X.2.1 dX10_ageBy_30 rfl (lv_at hl 0 rfl) ?_
        refine r_get (C := RX10) (T := TX10) (N := 14) (ref := "CraterclockModel") X S in_RX10 hy rfl 12 (by decide) (by decide +kernel) (fun _ h => h) rfl dX10_ageBy_31 ?_
        refine lv_iload_n X.1 X.2.1 dX10_ageBy_34 rfl (lv_at hl 2 rfl) ?_
        refine r_lald (v := (lN (st 11 k))) X S hA11 (vp_in_nI (show k < 8 by omega) (by omega)) (by rw [nI_clamp (by omega)]; exact (hvL _ hlt_k).2) dX10_ageBy_35 ?_
        refine W.lcmp X.1 X.2.1 dX10_ageBy_36 ?_
        refine lv_if_le (tgt := 46) X.1 X.2.1 dX10_ageBy_37 (by decide) (fun c_37 => ?_) (fun c_37 => ?_)
        · have hdk : d ≤ st 11 k := lN_len (by omega) (by omega) ((lg_cmp_le _ _).mp c_37)
          have hmul : (st 10 k - st 10 (k - 1)) * (d - st 11 (k - 1)) ≤ 5000000000 * 100000000 := Nat.mul_le_mul (by omega) (by omega)
          subst hQ9
          refine lv_aload_n X.1 X.2.1 dX10_ageBy_46 rfl (lv_at hl 0 rfl) ?_
          refine r_get (C := RX10) (T := TX10) (N := 14) (ref := "CraterclockModel") X S in_RX10 hy rfl 11 (by decide) (by decide +kernel) (fun _ h => h) rfl dX10_ageBy_47 ?_
          refine lv_iload_n X.1 X.2.1 dX10_ageBy_50 rfl (lv_at hl 2 rfl) ?_
          refine lv_iconst (v := 1) X.1 X.2.1 dX10_ageBy_51 (by decide) ?_
          refine lv_isub X.1 X.2.1 dX10_ageBy_52 ?_
          refine r_toi (y := nI (k - 1)) (nI_m1 (by omega)) ?_
          refine r_lald (v := (lN (st 10 (k - 1)))) X S hA10 (vp_in_nI (show (k - 1) < 8 by omega) (by omega)) (by rw [nI_clamp (by omega)]; exact (hvL _ hlt_k1).1) dX10_ageBy_53 ?_
          refine lv_aload_n X.1 X.2.1 dX10_ageBy_54 rfl (lv_at hl 0 rfl) ?_
          refine r_get (C := RX10) (T := TX10) (N := 14) (ref := "CraterclockModel") X S in_RX10 hy rfl 11 (by decide) (by decide +kernel) (fun _ h => h) rfl dX10_ageBy_55 ?_
          refine lv_iload_n X.1 X.2.1 dX10_ageBy_58 rfl (lv_at hl 2 rfl) ?_
          refine r_lald (v := (lN (st 10 k))) X S hA10 (vp_in_nI (show k < 8 by omega) (by omega)) (by rw [nI_clamp (by omega)]; exact (hvL _ hlt_k).1) dX10_ageBy_59 ?_
          refine lv_aload_n X.1 X.2.1 dX10_ageBy_60 rfl (lv_at hl 0 rfl) ?_
          refine r_get (C := RX10) (T := TX10) (N := 14) (ref := "CraterclockModel") X S in_RX10 hy rfl 11 (by decide) (by decide +kernel) (fun _ h => h) rfl dX10_ageBy_61 ?_
          refine lv_iload_n X.1 X.2.1 dX10_ageBy_64 rfl (lv_at hl 2 rfl) ?_
          refine lv_iconst (v := 1) X.1 X.2.1 dX10_ageBy_65 (by decide) ?_
          refine lv_isub X.1 X.2.1 dX10_ageBy_66 ?_
          refine r_toi (y := nI (k - 1)) (nI_m1 (by omega)) ?_
          refine r_lald (v := (lN (st 10 (k - 1)))) X S hA10 (vp_in_nI (show (k - 1) < 8 by omega) (by omega)) (by rw [nI_clamp (by omega)]; exact (hvL _ hlt_k1).1) dX10_ageBy_67 ?_
          refine lv_lsub X.1 X.2.1 dX10_ageBy_68 ?_
          refine r_tol (y := lN (st 10 k - st 10 (k - 1))) (lN_subn (by omega)) ?_
          refine lv_lload_n X.1 X.2.1 dX10_ageBy_69 rfl (lv_at hl 1 rfl) ?_
          refine lv_aload_n X.1 X.2.1 dX10_ageBy_70 rfl (lv_at hl 0 rfl) ?_
          refine r_get (C := RX10) (T := TX10) (N := 14) (ref := "CraterclockModel") X S in_RX10 hy rfl 12 (by decide) (by decide +kernel) (fun _ h => h) rfl dX10_ageBy_71 ?_
          refine lv_iload_n X.1 X.2.1 dX10_ageBy_74 rfl (lv_at hl 2 rfl) ?_
          refine lv_iconst (v := 1) X.1 X.2.1 dX10_ageBy_75 (by decide) ?_
          refine lv_isub X.1 X.2.1 dX10_ageBy_76 ?_
          refine r_toi (y := nI (k - 1)) (nI_m1 (by omega)) ?_
          refine r_lald (v := (lN (st 11 (k - 1)))) X S hA11 (vp_in_nI (show (k - 1) < 8 by omega) (by omega)) (by rw [nI_clamp (by omega)]; exact (hvL _ hlt_k1).2) dX10_ageBy_77 ?_
          refine lv_lsub X.1 X.2.1 dX10_ageBy_78 ?_
          refine r_tol (y := lN (d - st 11 (k - 1))) (lN_subn (by omega)) ?_
          refine lv_lmul X.1 X.2.1 dX10_ageBy_79 ?_
          refine r_tol (y := lN ((st 10 k - st 10 (k - 1)) * (d - st 11 (k - 1)))) (lN_mul _ _) ?_
          refine lv_aload_n X.1 X.2.1 dX10_ageBy_80 rfl (lv_at hl 0 rfl) ?_
          refine r_get (C := RX10) (T := TX10) (N := 14) (ref := "CraterclockModel") X S in_RX10 hy rfl 12 (by decide) (by decide +kernel) (fun _ h => h) rfl dX10_ageBy_81 ?_
          refine lv_iload_n X.1 X.2.1 dX10_ageBy_84 rfl (lv_at hl 2 rfl) ?_
          refine r_lald (v := (lN (st 11 k))) X S hA11 (vp_in_nI (show k < 8 by omega) (by omega)) (by rw [nI_clamp (by omega)]; exact (hvL _ hlt_k).2) dX10_ageBy_85 ?_
          refine lv_aload_n X.1 X.2.1 dX10_ageBy_86 rfl (lv_at hl 0 rfl) ?_
          refine r_get (C := RX10) (T := TX10) (N := 14) (ref := "CraterclockModel") X S in_RX10 hy rfl 12 (by decide) (by decide +kernel) (fun _ h => h) rfl dX10_ageBy_87 ?_
          refine lv_iload_n X.1 X.2.1 dX10_ageBy_90 rfl (lv_at hl 2 rfl) ?_
          refine lv_iconst (v := 1) X.1 X.2.1 dX10_ageBy_91 (by decide) ?_
          refine lv_isub X.1 X.2.1 dX10_ageBy_92 ?_
          refine r_toi (y := nI (k - 1)) (nI_m1 (by omega)) ?_
          refine r_lald (v := (lN (st 11 (k - 1)))) X S hA11 (vp_in_nI (show (k - 1) < 8 by omega) (by omega)) (by rw [nI_clamp (by omega)]; exact (hvL _ hlt_k1).2) dX10_ageBy_93 ?_
          refine lv_lsub X.1 X.2.1 dX10_ageBy_94 ?_
          refine r_tol (y := lN (st 11 k - st 11 (k - 1))) (lN_subn (by omega)) ?_
          refine lv_ldiv X.1 X.2.1 dX10_ageBy_95 (fun z => by have := (pk_lEQ (b := 0) (by omega) (by omega)).mp z; omega) ?_
          refine lv_ladd X.1 X.2.1 dX10_ageBy_96 ?_
          refine e_lp X hr S dX10_ageBy_97 ?_
          exact ⟨k, hlt_k, hdk, hlo, by unfold ageAt; rw [if_neg (by omega), pk_lDiv (by omega) (by omega) (by omega), lN_add]⟩
        · have hdk : st 11 k < d := lN_ltn (by omega) (by omega) (by have z := c_37; rw [lg_cmp_le] at z; exact Int64.not_le.mp z)
          refine lv_iinc (v := (nI (k + 1))) (lv' := [(3, .int (nI (k + 1))), (0, .ref y), (1, .long (lN d))]) X.1 X.2.1 dX10_ageBy_40 hl (k := 2) rfl (nI_1 _) (by decide) rfl (fun ls hl => ?_)
          refine lv_goto (tgt := 29) X.1 X.2.1 dX10_ageBy_43 (by decide) ?_
          exact ih (k + 1) H locs ls (by omega) (by rcases (by omega : k + 1 < st 0 3 ∨ k = st 0 3 - 1) with q | q; exact q; rw [q] at hdk; omega) (by omega) (fun j hj => by rcases (by omega : j < k ∨ j = k) with q | q; exact hlo j q; rw [q]; exact hdk) S (lv_sub hl [1, 2, 0] rfl)
    exact loop (st 0 3) 1 _ _ _ (by omega) (by omega) (by omega) (fun j hj => by rw [show j = 0 by omega]; exact hd0) S (lv_sub hl [1, 2, 0] rfl)
  · have hd0 : d ≤ st 11 0 := lN_len (by omega) (by omega) (by have z := c_8; rw [lg_cmp_gt] at z; exact Int64.not_lt.mp z)
    refine lv_aload_n X.1 X.2.1 dX10_ageBy_11 rfl (lv_at hl 0 rfl) ?_
    refine r_get (C := RX10) (T := TX10) (N := 14) (ref := "CraterclockModel") X S in_RX10 hy rfl 11 (by decide) (by decide +kernel) (fun _ h => h) rfl dX10_ageBy_12 ?_
    refine lv_iconst (v := 0) X.1 X.2.1 dX10_ageBy_15 (by decide) ?_
    refine r_lald (v := (lN (st 10 0))) X S hA10 (vp_in_nI (show 0 < 8 by omega) (by omega)) (by rw [show (0 : Int32).toNatClampNeg = 0 from rfl]; exact (hvL 0 hlt_0).1) dX10_ageBy_16 ?_
    refine lv_lload_n X.1 X.2.1 dX10_ageBy_17 rfl (lv_at hl 1 rfl) ?_
    refine lv_lmul X.1 X.2.1 dX10_ageBy_18 ?_
    refine r_tol (y := lN (st 10 0 * d)) (lN_mul _ _) ?_
    refine lv_aload_n X.1 X.2.1 dX10_ageBy_19 rfl (lv_at hl 0 rfl) ?_
    refine r_get (C := RX10) (T := TX10) (N := 14) (ref := "CraterclockModel") X S in_RX10 hy rfl 12 (by decide) (by decide +kernel) (fun _ h => h) rfl dX10_ageBy_20 ?_
    refine lv_iconst (v := 0) X.1 X.2.1 dX10_ageBy_23 (by decide) ?_
    refine r_lald (v := (lN (st 11 0))) X S hA11 (vp_in_nI (show 0 < 8 by omega) (by omega)) (by rw [show (0 : Int32).toNatClampNeg = 0 from rfl]; exact (hvL 0 hlt_0).2) dX10_ageBy_24 ?_
    refine lv_ldiv X.1 X.2.1 dX10_ageBy_25 (fun z => by have := (pk_lEQ (b := 0) (by omega) (by omega)).mp z; omega) ?_
    refine e_lp X hr S dX10_ageBy_26 ?_
    have hmul : st 10 0 * d ≤ 5000000000 * 100000000 := Nat.mul_le_mul (by omega) (by omega)
    exact ⟨0, hlt_0, hd0, fun j hj => absurd hj (Nat.not_lt_zero j), by unfold ageAt; rw [if_pos rfl]; exact pk_lDiv (by omega) (by omega) (by omega)⟩

set_option maxRecDepth 100000 in
set_option maxHeartbeats 4000000 in
/-- topOf -/
theorem n_topOf (l : Launch) (G : cx_G) (f : Wd) (st : St) (y : Nat) (A : Nat → Nat) (V : Nat → Nat → Int32) (VL : Nat → Nat → Int64) (thr : Int32) (hI : sInv st) (hM : RMx G f st y A V VL thr) (a b : Nat) (ha : a < 16) (hb : b < 16) : PI l G yX10_topOf wsX10_topOf 1 23 [.ref y, .int (nI a), .int (nI b)] f (fun r => r = tpI (topP st a b) (st 0 0)) := by
  refine cx_body (cc := cX10_topOf) (n := 5) (ret := (some .int)) (by decide +kernel) rfl (Nat.le_of_ble_eq_true rfl) ?_
  intro p0 e0 s0 m0 b0 meth0 c0 ls X hr hnm S hl
  have X : cxC G p0 l _ c0 cX10_topOf 5 m0 meth0 s0 _ RX10 wsX10_topOf := X
  have hl : lv_has ls 5 [(0, .ref y), (1, .int (nI a)), (2, .int (nI b))] := hl
  have in_RX10 : ∀ w ∈ u_ws RX10 TX10 14, w ∈ wsX10_topOf := by decide +kernel
  obtain ⟨hi0, hi1, hi2, hi3, hi4, hi5, hi6, hi7⟩ := id hI
  obtain ⟨hy, ⟨hA1, hA2, hA3, hA5, hA7, hA9, hA10, hA11⟩, hv1, hvk, hv9, hvL⟩ := id hM
  have mm0 : md tM f f := md_rf _ _
  refine lv_iconst (v := (-1)) X.1 X.2.1 dX10_topOf_0 (by decide) ?_
  refine lv_istore_n (lv' := [(3, .int (-1)), (0, .ref y), (1, .int (nI a)), (2, .int (nI b))]) X.1 X.2.1 dX10_topOf_1 rfl hl (by decide) rfl (fun ls hl => ?_)
  refine lv_iconst (v := 0) X.1 X.2.1 dX10_topOf_2 (by decide) ?_
  refine lv_istore (lv' := [(4, .int 0), (3, .int (-1)), (0, .ref y), (1, .int (nI a)), (2, .int (nI b))]) X.1 X.2.1 dX10_topOf_3 hl (by decide) rfl (fun ls hl => ?_)
  refine W_genQ (fun Q9 hQ9 => ?_)
  have loop : ∀ (N : Nat) (k : Nat) (H : Heap) (locs : List Loc) (ls : Array Slot), k ≤ st 0 0 → st 0 0 < k + N → cxS G s0 f H locs → lv_has ls 5 [(0, .ref y), (1, .int (nI a)), (2, .int (nI b)), (3, .int (tpI (topP st a b) k)), (4, .int (nI k))] → W p0 l e0 ({ frames := 1, cells := 0, slots := 0, locals := 23 } : Room) s0 m0 ([.ref y, .int (nI a), .int (nI b)] : List Value).toArray b0 meth0 c0 H locs 0 0 Q9 (F0 m0 5 ls []) := by
    intro N
    induction N with
    | zero =>
      intro k  H locs ls hk hN S hl
      exfalso
      omega
    | succ N ih =>
      intro k  H locs ls hk hN S hl
      refine lv_iload X.1 X.2.1 dX10_topOf_5 (lv_at hl 4 rfl) ?_
      refine lv_aload_n X.1 X.2.1 dX10_topOf_7 rfl (lv_at hl 0 rfl) ?_
      refine r_get (C := RX10) (T := TX10) (N := 14) (ref := "CraterclockModel") X S in_RX10 hy rfl 1 (by decide) (by decide +kernel) (fun _ h => h) rfl dX10_topOf_8 ?_
      refine lv_icmp_ge (tgt := 63) X.1 X.2.1 dX10_topOf_11 (by decide) (fun c_11 => ?_) (fun c_11 => ?_)
      · have hkn : k = st 0 0 := by
          have := (nI_leI (by omega) (by omega)).mp c_11
          omega
        subst hQ9
        refine lv_iload_n X.1 X.2.1 dX10_topOf_63 rfl (lv_at hl 3 rfl) ?_
        refine e_ip X hr S dX10_topOf_64 ?_
        rw [hkn]
      · have hlt_k : k < st 0 0 := Nat.lt_of_not_le (fun z => c_11 (nI_le z (by omega)))
        have hck := hi2 k hlt_k
        have hr7 := hck.2.2.2.2.2.1
        have hd7 := hck.2.2.2.2.2.2
        have hs5 := sq16 ha hck.1 hb hck.2.1
        have hm7 := mulb hr7
        refine lv_aload_n X.1 X.2.1 dX10_topOf_14 rfl (lv_at hl 0 rfl) ?_
        refine r_get (C := RX10) (T := TX10) (N := 14) (ref := "CraterclockModel") X S in_RX10 hy rfl 5 (by decide) (by decide +kernel) (fun _ h => h) rfl dX10_topOf_15 ?_
        refine lv_iload X.1 X.2.1 dX10_topOf_18 (lv_at hl 4 rfl) ?_
        refine r_iald (v := (nI (st 7 k))) X S hA7 (vp_in_nI (show k < 200 by omega) (by omega)) (by rw [nI_clamp (by omega)]; exact (hvk _ hlt_k).2.2.2) dX10_topOf_20 ?_
        refine lv_if_le (tgt := 55) X.1 X.2.1 dX10_topOf_21 (by decide) (fun c_21 => ?_) (fun c_21 => ?_)
        · refine lv_iload_n X.1 X.2.1 dX10_topOf_55 rfl (lv_at hl 3 rfl) ?_
          refine lv_istore_n (lv' := [(3, .int (tpI (topP st a b) k)), (0, .ref y), (1, .int (nI a)), (2, .int (nI b)), (4, .int (nI k))]) X.1 X.2.1 dX10_topOf_56 rfl hl (by decide) rfl (fun ls hl => ?_)
          refine lv_iinc (v := (nI (k + 1))) (lv' := [(4, .int (nI (k + 1))), (3, .int (tpI (topP st a b) k)), (0, .ref y), (1, .int (nI a)), (2, .int (nI b))]) X.1 X.2.1 dX10_topOf_57 hl (k := 4) rfl (nI_1 _) (by decide) rfl (fun ls hl => ?_)
          refine lv_goto (tgt := 5) X.1 X.2.1 dX10_topOf_60 (by decide) ?_
          have hcn : tpI (topP st a b) (k + 1) = tpI (topP st a b) k := tpI_f (decide_eq_false (fun z => by have := nI_le0 (by omega) c_21; omega))
          exact ih (k + 1) H locs ls (by omega) (by omega) S (by rw [hcn]; exact lv_sub hl [2, 3, 4, 1, 0] rfl)
        · refine lv_aload_n X.1 X.2.1 dX10_topOf_24 rfl (lv_at hl 0 rfl) ?_
          refine lv_iload X.1 X.2.1 dX10_topOf_25 (lv_at hl 4 rfl) ?_
          refine lv_iload_n X.1 X.2.1 dX10_topOf_27 rfl (lv_at hl 1 rfl) ?_
          refine lv_iload_n X.1 X.2.1 dX10_topOf_28 rfl (lv_at hl 2 rfl) ?_
          refine call_ip (run_V X S (n_square l G f y A (nI (st 0 0)) (nI (st 0 4)) (nI (st 0 1)) (nI (st 0 2)) (nI (st 0 3)) thr hy (V 2) (V 3) hA2 hA3 k (st 2 k) (st 3 k) a b (by omega) (hvk k hlt_k).1 (hvk k hlt_k).2.1) 3 gX10_topOf_X10_square rfl rfl rfl (by decide +kernel) ⟨(by exact Nat.le_of_ble_eq_true rfl), (by exact Nat.le_of_ble_eq_true rfl)⟩ ⟨_, _, hy⟩ rfl rfl rfl hl.1 rfl (by exact Nat.le_of_ble_eq_true rfl) dX10_topOf_29 ⟨(Nat.zero_le _), (Nat.zero_le _)⟩) S (fun r_29 H locs hr_29 S => ?_)
          subst hr_29
          refine lv_aload_n X.1 X.2.1 dX10_topOf_32 rfl (lv_at hl 0 rfl) ?_
          refine r_get (C := RX10) (T := TX10) (N := 14) (ref := "CraterclockModel") X S in_RX10 hy rfl 4 (by decide) (by decide +kernel) (fun _ h => h) rfl dX10_topOf_33 ?_
          refine lv_iload X.1 X.2.1 dX10_topOf_36 (lv_at hl 4 rfl) ?_
          refine r_iald (v := (nI (st 5 k))) X S hA5 (vp_in_nI (show k < 200 by omega) (by omega)) (by rw [nI_clamp (by omega)]; exact (hvk _ hlt_k).2.2.1) dX10_topOf_38 ?_
          refine lv_aload_n X.1 X.2.1 dX10_topOf_39 rfl (lv_at hl 0 rfl) ?_
          refine r_get (C := RX10) (T := TX10) (N := 14) (ref := "CraterclockModel") X S in_RX10 hy rfl 4 (by decide) (by decide +kernel) (fun _ h => h) rfl dX10_topOf_40 ?_
          refine lv_iload X.1 X.2.1 dX10_topOf_43 (lv_at hl 4 rfl) ?_
          refine r_iald (v := (nI (st 5 k))) X S hA5 (vp_in_nI (show k < 200 by omega) (by omega)) (by rw [nI_clamp (by omega)]; exact (hvk _ hlt_k).2.2.1) dX10_topOf_45 ?_
          refine lv_imul X.1 X.2.1 dX10_topOf_46 ?_
          refine r_toi (y := nI (st 5 k * st 5 k)) (pk_mul _ _) ?_
          refine lv_icmp_gt (tgt := 55) X.1 X.2.1 dX10_topOf_47 (by decide) (fun c_47 => ?_) (fun c_47 => ?_)
          · refine lv_iload_n X.1 X.2.1 dX10_topOf_55 rfl (lv_at hl 3 rfl) ?_
            refine lv_istore_n (lv' := [(3, .int (tpI (topP st a b) k)), (0, .ref y), (1, .int (nI a)), (2, .int (nI b)), (4, .int (nI k))]) X.1 X.2.1 dX10_topOf_56 rfl hl (by decide) rfl (fun ls hl => ?_)
            refine lv_iinc (v := (nI (k + 1))) (lv' := [(4, .int (nI (k + 1))), (3, .int (tpI (topP st a b) k)), (0, .ref y), (1, .int (nI a)), (2, .int (nI b))]) X.1 X.2.1 dX10_topOf_57 hl (k := 4) rfl (nI_1 _) (by decide) rfl (fun ls hl => ?_)
            refine lv_goto (tgt := 5) X.1 X.2.1 dX10_topOf_60 (by decide) ?_
            have hcn : tpI (topP st a b) (k + 1) = tpI (topP st a b) k := tpI_f (decide_eq_false (fun z => absurd c_47 (Int32.not_lt.mpr (nI_le z.2 (by omega)))))
            exact ih (k + 1) H locs ls (by omega) (by omega) S (by rw [hcn]; exact lv_sub hl [2, 3, 4, 1, 0] rfl)
          · refine lv_iload X.1 X.2.1 dX10_topOf_50 (lv_at hl 4 rfl) ?_
            refine lv_goto (tgt := 56) X.1 X.2.1 dX10_topOf_52 (by decide) ?_
            refine lv_istore_n (lv' := [(3, .int (nI k)), (0, .ref y), (1, .int (nI a)), (2, .int (nI b)), (4, .int (nI k))]) X.1 X.2.1 dX10_topOf_56 rfl hl (by decide) rfl (fun ls hl => ?_)
            refine lv_iinc (v := (nI (k + 1))) (lv' := [(4, .int (nI (k + 1))), (3, .int (nI k)), (0, .ref y), (1, .int (nI a)), (2, .int (nI b))]) X.1 X.2.1 dX10_topOf_57 hl (k := 4) rfl (nI_1 _) (by decide) rfl (fun ls hl => ?_)
            refine lv_goto (tgt := 5) X.1 X.2.1 dX10_topOf_60 (by decide) ?_
            have hcn : tpI (topP st a b) (k + 1) = nI k := tpI_t (decide_eq_true ⟨nI_gt0 c_21, (nI_leI (by omega) (by omega)).mp (Int32.not_lt.mp c_47)⟩)
            exact ih (k + 1) H locs ls (by omega) (by omega) S (by rw [hcn]; exact lv_sub hl [2, 3, 4, 1, 0] rfl)
  exact loop (st 0 0 + 1) 0 _ _ _ (by omega) (by omega) S (lv_sub hl [2, 3, 4, 1, 0] rfl)
