/-! the reference: a stone falls, a draw -/
def vfall (V : Nat → Nat → Int32) (W2 W3 W5 W7 : Nat → Int32) : Nat → Nat → Int32 := fun b => if b = 2 then W2 else if b = 3 then W3 else if b = 5 then W5 else if b = 7 then W7 else V b
theorem RMx_draw {G : cx_G} {f : Wd} {st : St} {y : Nat} {A : Nat → Nat} {V : Nat → Nat → Int32} {VL : Nat → Nat → Int64} {thr : Int32} {d : Nat} (h : RMx G f st y A V VL thr) : RMx G (wu f y 1000 (eMo A (nI (st 0 0)) (nI d) (nI (st 0 1)) (nI (st 0 2)) (nI (st 0 3)) thr)) (s_up st 0 4 d) y A V VL thr := by
  obtain ⟨h0, ⟨h1, h2, h3, h4, h5, h6, h7, h8⟩, a1, a2, a3, a4⟩ := h
  have k : ∀ (b t : Nat) (e : va_E), f b = some (t, e) → t ≠ 1000 → wu f y 1000 (eMo A (nI (st 0 0)) (nI d) (nI (st 0 1)) (nI (st 0 2)) (nI (st 0 3)) thr) b = some (t, e) := fun b t e hb ht => md_put h0 b t e hb ht
  have z : ∀ i, i ≠ 4 → s_up st 0 4 d 0 i = st 0 i := fun i hi => s_up_ne _ (by omega)
  have e : ∀ B, B ≠ 0 → s_up st 0 4 d B = st B := fun B hB => funext fun i => s_up_ne _ (by omega)
  refine ⟨?_, ⟨k _ _ _ h1 (by omega), k _ _ _ h2 (by omega), k _ _ _ h3 (by omega), k _ _ _ h4 (by omega), k _ _ _ h5 (by omega), k _ _ _ h6 (by omega), k _ _ _ h7 (by omega), k _ _ _ h8 (by omega)⟩, ?_, ?_, ?_, ?_⟩
  · rw [z 0 (by omega), z 1 (by omega), z 2 (by omega), z 3 (by omega), s_up_self]; exact wu_self _ _ _ _
  · rw [e 1 (by omega)]; exact a1
  · rw [z 0 (by omega), e 2 (by omega), e 3 (by omega), e 5 (by omega), e 7 (by omega)]; exact a2
  · rw [z 2 (by omega), e 9 (by omega)]; exact a3
  · rw [z 3 (by omega), e 10 (by omega), e 11 (by omega)]; exact a4
set_option maxRecDepth 100000 in
set_option maxHeartbeats 4000000 in
/-- draws -/
theorem n_draws (l : Launch) (G : cx_G) (f : Wd) (st : St) (y : Nat) (A : Nat → Nat) (V : Nat → Nat → Int32) (VL : Nat → Nat → Int64) (thr : Int32) (hI : sInv st) (hM : RMx G f st y A V VL thr) (d2 : Nat) (hd0 : 0 < d2) (hd64 : d2 ≤ 64) : MI l G yX10_draws wsX10_draws 0 0 0 0 [.ref y, .int (nI d2)] f (fun r f' => r = nI (nxt (st 0 4) % d2) ∧ RMx G f' (s_up st 0 4 (nxt (st 0 4))) y A V VL thr ∧ md tM f f') := by
  refine cx_body (cc := cX10_draws) (n := 2) (ret := (some .int)) (by decide +kernel) rfl (Nat.le_of_ble_eq_true rfl) ?_
  intro p0 e0 s0 m0 b0 meth0 c0 ls X hr hnm S hl
  have X : cxC G p0 l _ c0 cX10_draws 2 m0 meth0 s0 _ RX10 wsX10_draws := X
  have hl : lv_has ls 2 [(0, .ref y), (1, .int (nI d2))] := hl
  have in_RX10 : ∀ w ∈ u_ws RX10 TX10 14, w ∈ wsX10_draws := by decide +kernel
  obtain ⟨hi0, hi1, hi2, hi3, hi4, hi5, hi6, hi7⟩ := id hI
  obtain ⟨hy, ⟨hA1, hA2, hA3, hA5, hA7, hA9, hA10, hA11⟩, hv1, hvk, hv9, hvL⟩ := id hM
  have mm0 : md tM f f := md_rf _ _
  refine lv_aload_n X.1 X.2.1 dX10_draws_0 rfl (lv_at hl 0 rfl) ?_
  refine lv_bipush (v := 75) X.1 X.2.1 dX10_draws_1 (by decide) ?_
  refine lv_aload_n X.1 X.2.1 dX10_draws_3 rfl (lv_at hl 0 rfl) ?_
  refine r_get (C := RX10) (T := TX10) (N := 14) (ref := "CraterclockModel") X S in_RX10 hy rfl 6 (by decide) (by decide +kernel) (fun _ h => h) rfl dX10_draws_4 ?_
  refine lv_imul X.1 X.2.1 dX10_draws_7 ?_
  refine lv_bipush (v := 74) X.1 X.2.1 dX10_draws_8 (by decide) ?_
  refine lv_iadd X.1 X.2.1 dX10_draws_10 ?_
  refine r_ldc (v := 65537) X (by decide +kernel) dX10_draws_11 ?_
  refine lv_irem X.1 X.2.1 dX10_draws_13 (by decide) ?_
  refine r_toi (y := nI (nxt (st 0 4))) (by rw [show (75 : Int32) * nI (st 0 4) + 74 = nI (75 * st 0 4 + 74) from by rw [show (75 : Int32) = nI 75 from rfl, pk_mul, show (74 : Int32) = nI 74 from rfl, nI_add]]; exact pk_rem (d := 65537) (by omega) (by omega) (by omega)) ?_
  refine r_put (C := RX10) (T := TX10) (N := 14) (ref := "CraterclockModel") (fs' := [.ref (A 1), .int (nI (st 0 0)), .ref (A 2), .ref (A 3), .ref (A 5), .ref (A 7), .int (nI (nxt (st 0 4))), .int (nI (st 0 1)), .int (nI (st 0 2)), .ref (A 9), .int (nI (st 0 3)), .ref (A 10), .ref (A 11), .int thr]) (ty := .int) X S in_RX10 tyX10 tyX10_ok nmX10 hy (by decide) rfl 6 (by decide) (by decide +kernel) (fun _ h => h) rfl (by decide +kernel) rfl rfl (Nat.le_of_ble_eq_true rfl) rfl dX10_draws_14 (fun H locs S => ?_)
  obtain ⟨f_14, ef_14⟩ : ∃ z9 : Wd, z9 = wu f y 1000 (.inr (10, [.ref (A 1), .int (nI (st 0 0)), .ref (A 2), .ref (A 3), .ref (A 5), .ref (A 7), .int (nI (nxt (st 0 4))), .int (nI (st 0 1)), .int (nI (st 0 2)), .ref (A 9), .int (nI (st 0 3)), .ref (A 10), .ref (A 11), .int thr])) := ⟨_, rfl⟩
  rw [← ef_14] at S
  have hy_14 : f_14 y = some (1000, .inr (10, [.ref (A 1), .int (nI (st 0 0)), .ref (A 2), .ref (A 3), .ref (A 5), .ref (A 7), .int (nI (nxt (st 0 4))), .int (nI (st 0 1)), .int (nI (st 0 2)), .ref (A 9), .int (nI (st 0 3)), .ref (A 10), .ref (A 11), .int thr])) := by rw [ef_14]; exact wu_self _ _ _ _
  have mm_14 : md tM f f_14 := by rw [ef_14]; exact md_tr mm0 (md_put hy) (fun _ q => q) (fun t q => by subst q; unfold tM; omega)
  refine lv_aload_n X.1 X.2.1 dX10_draws_17 rfl (lv_at hl 0 rfl) ?_
  refine r_get (C := RX10) (T := TX10) (N := 14) (ref := "CraterclockModel") X S in_RX10 hy_14 rfl 6 (by decide) (by decide +kernel) (fun _ h => h) rfl dX10_draws_18 ?_
  refine lv_iload_n X.1 X.2.1 dX10_draws_21 rfl (lv_at hl 1 rfl) ?_
  refine lv_irem X.1 X.2.1 dX10_draws_22 (nI_ne0 (by omega) (by omega)) ?_
  refine r_toi (y := nI (nxt (st 0 4) % d2)) (pk_rem (by have := nxt_lt (st 0 4); omega) (by omega) (by omega)) ?_
  refine e_i X hr S (Nat.le_of_ble_eq_true rfl) (Nat.le_of_ble_eq_true rfl) dX10_draws_23 ?_
  exact ⟨rfl, by rw [ef_14]; exact RMx_draw hM, mm_14⟩

set_option maxRecDepth 100000 in
set_option maxHeartbeats 4000000 in
/-- falls -/
theorem n_falls (l : Launch) (G : cx_G) (f : Wd) (st : St) (y : Nat) (A : Nat → Nat) (V : Nat → Nat → Int32) (VL : Nat → Nat → Int64) (thr : Int32) (hI : sInv st) (hM : RMx G f st y A V VL thr) (sx sy z : Nat) (hn200 : st 0 0 < 200) (hsx : sx < 16) (hsy : sy < 16) (hz1 : 1 ≤ z) (hz : z ≤ 6) : MI l G yX10_falls wsX10_falls 1 23 0 0 [.ref y, .int (nI sx), .int (nI sy), .int (nI z)] f (fun r f' => r = nI (cn (goneB st sx sy z) (st 0 0)) ∧ RM G f' (fallSt st sx sy z) y thr ∧ md tM f f') := by
  refine cx_body (cc := cX10_falls) (n := 11) (ret := (some .int)) (by decide +kernel) rfl (Nat.le_of_ble_eq_true rfl) ?_
  intro p0 e0 s0 m0 b0 meth0 c0 ls X hr hnm S hl
  have X : cxC G p0 l _ c0 cX10_falls 11 m0 meth0 s0 _ RX10 wsX10_falls := X
  have hl : lv_has ls 11 [(0, .ref y), (1, .int (nI sx)), (2, .int (nI sy)), (3, .int (nI z))] := hl
  have in_RX10 : ∀ w ∈ u_ws RX10 TX10 14, w ∈ wsX10_falls := by decide +kernel
  obtain ⟨hi0, hi1, hi2, hi3, hi4, hi5, hi6, hi7⟩ := id hI
  obtain ⟨hy, ⟨hA1, hA2, hA3, hA5, hA7, hA9, hA10, hA11⟩, hv1, hvk, hv9, hvL⟩ := id hM
  have mm0 : md tM f f := md_rf _ _
  have hgk := hi1 (16 * sy + sx) (cell_in hsx hsy)
  have hrn := radOn_in (g := (st 1 (16 * sy + sx))) hz1 hz
  refine lv_aload_n X.1 X.2.1 dX10_falls_0 rfl (lv_at hl 0 rfl) ?_
  refine r_get (C := RX10) (T := TX10) (N := 14) (ref := "CraterclockModel") X S in_RX10 hy rfl 0 (by decide) (by decide +kernel) (fun _ h => h) rfl dX10_falls_1 ?_
  refine lv_bipush (v := 16) X.1 X.2.1 dX10_falls_4 (by decide) ?_
  refine lv_iload_n X.1 X.2.1 dX10_falls_6 rfl (lv_at hl 2 rfl) ?_
  refine lv_imul X.1 X.2.1 dX10_falls_7 ?_
  refine lv_iload_n X.1 X.2.1 dX10_falls_8 rfl (lv_at hl 1 rfl) ?_
  refine lv_iadd X.1 X.2.1 dX10_falls_9 ?_
  refine r_toi (y := nI (16 * sy + sx)) (by rw [show (16 : Int32) = nI 16 from rfl, pk_mul, nI_add]) ?_
  refine r_iald (v := (nI (st 1 (16 * sy + sx)))) X S hA1 (vp_in_nI (by omega) (by omega)) (by rw [nI_clamp (by omega)]; exact hv1 _ (by omega)) dX10_falls_10 ?_
  refine lv_istore (lv' := [(4, .int (nI (st 1 (16 * sy + sx)))), (0, .ref y), (1, .int (nI sx)), (2, .int (nI sy)), (3, .int (nI z))]) X.1 X.2.1 dX10_falls_11 hl (by decide) rfl (fun ls hl => ?_)
  refine W_genQ (fun Q9 hQ9 => ?_)
  have J53 : ∀  (H : Heap) (locs : List Loc) (ls : Array Slot), True → cxS G s0 f H locs → lv_has ls 11 [(0, .ref y), (1, .int (nI sx)), (2, .int (nI sy)), (3, .int (nI z)), (4, .int (nI (st 1 (16 * sy + sx)))), (5, .int (nI (radOn (st 1 (16 * sy + sx)) z)))] → W p0 l e0 ({ frames := 1, cells := 0, slots := 0, locals := 23 } : Room) s0 m0 ([.ref y, .int (nI sx), .int (nI sy), .int (nI z)] : List Value).toArray b0 meth0 c0 H locs 0 0 Q9 (F0 m0 53 ls []) := by
    intro  H locs ls _ S hl
    refine lv_iconst (v := 0) X.1 X.2.1 dX10_falls_53 (by decide) ?_
    refine lv_istore (lv' := [(6, .int 0), (0, .ref y), (1, .int (nI sx)), (2, .int (nI sy)), (3, .int (nI z)), (4, .int (nI (st 1 (16 * sy + sx)))), (5, .int (nI (radOn (st 1 (16 * sy + sx)) z)))]) X.1 X.2.1 dX10_falls_54 hl (by decide) rfl (fun ls hl => ?_)
    refine lv_iconst (v := 0) X.1 X.2.1 dX10_falls_56 (by decide) ?_
    refine lv_istore (lv' := [(7, .int 0), (6, .int 0), (0, .ref y), (1, .int (nI sx)), (2, .int (nI sy)), (3, .int (nI z)), (4, .int (nI (st 1 (16 * sy + sx)))), (5, .int (nI (radOn (st 1 (16 * sy + sx)) z)))]) X.1 X.2.1 dX10_falls_57 hl (by decide) rfl (fun ls hl => ?_)
    have loop : ∀ (N : Nat) (k : Nat) (fk : Wd) (w7 : Nat → Int32) (H : Heap) (locs : List Loc) (ls : Array Slot), k ≤ st 0 0 → st 0 0 < k + N → md (fun t => t = 1007) f fk → fk (A 7) = some (1007, eI G 200 w7) → (∀ j, j < k → w7 j = nI (st 7 j - lossB st j sx sy z)) → (∀ j, k ≤ j → j < st 0 0 → w7 j = nI (st 7 j)) → cxS G s0 fk H locs → lv_has ls 11 [(0, .ref y), (1, .int (nI sx)), (2, .int (nI sy)), (3, .int (nI z)), (4, .int (nI (st 1 (16 * sy + sx)))), (5, .int (nI (radOn (st 1 (16 * sy + sx)) z))), (6, .int (nI (cn (goneB st sx sy z) k))), (7, .int (nI k))] → W p0 l e0 ({ frames := 1, cells := 0, slots := 0, locals := 23 } : Room) s0 m0 ([.ref y, .int (nI sx), .int (nI sy), .int (nI z)] : List Value).toArray b0 meth0 c0 H locs 0 0 Q9 (F0 m0 59 ls []) := by
      intro N
      induction N with
      | zero =>
        intro k fk w7  H locs ls hk hN hmk h7 hdn htd S hl
        exfalso
        omega
      | succ N ih =>
        intro k fk w7  H locs ls hk hN hmk h7 hdn htd S hl
        have hy_k := hmk _ _ _ hy (by omega)
        have hA2_k := hmk _ _ _ hA2 (by omega)
        have hA3_k := hmk _ _ _ hA3 (by omega)
        have hA5_k := hmk _ _ _ hA5 (by omega)
        refine lv_iload X.1 X.2.1 dX10_falls_59 (lv_at hl 7 rfl) ?_
        refine lv_aload_n X.1 X.2.1 dX10_falls_61 rfl (lv_at hl 0 rfl) ?_
        refine r_get (C := RX10) (T := TX10) (N := 14) (ref := "CraterclockModel") X S in_RX10 hy_k rfl 1 (by decide) (by decide +kernel) (fun _ h => h) rfl dX10_falls_62 ?_
        refine lv_icmp_ge (tgt := 191) X.1 X.2.1 dX10_falls_65 (by decide) (fun c_65 => ?_) (fun c_65 => ?_)
        · have hkn : k = st 0 0 := by
            have := (nI_leI (by omega) (by omega)).mp c_65
            omega
          subst hQ9
          have mm_k : md tM f fk := md_mono hmk (fun t q => by unfold tM; omega)
          have hA1_k := hmk _ _ _ hA1 (by omega)
          have hA9_k := hmk _ _ _ hA9 (by omega)
          have hA10_k := hmk _ _ _ hA10 (by omega)
          have hA11_k := hmk _ _ _ hA11 (by omega)
          refine lv_aload_n X.1 X.2.1 dX10_falls_191 rfl (lv_at hl 0 rfl) ?_
          refine r_get (C := RX10) (T := TX10) (N := 14) (ref := "CraterclockModel") X S in_RX10 hy_k rfl 2 (by decide) (by decide +kernel) (fun _ h => h) rfl dX10_falls_192 ?_
          refine lv_aload_n X.1 X.2.1 dX10_falls_195 rfl (lv_at hl 0 rfl) ?_
          refine r_get (C := RX10) (T := TX10) (N := 14) (ref := "CraterclockModel") X S in_RX10 hy_k rfl 1 (by decide) (by decide +kernel) (fun _ h => h) rfl dX10_falls_196 ?_
          refine lv_iload_n X.1 X.2.1 dX10_falls_199 rfl (lv_at hl 1 rfl) ?_
          refine r_iast X S hA2_k (by decide) (vp_in_nI (show (st 0 0) < 200 by omega) (by omega)) dX10_falls_200 (fun H locs S => ?_)
          rw [nI_clamp (by omega)] at S
          obtain ⟨f_200, ef_200⟩ : ∃ z9 : Wd, z9 = wu fk (A 2) 1002 (eI G 200 (upd (V 2) (st 0 0) (nI sx))) := ⟨_, rfl⟩
          rw [← ef_200] at S
          have hy_k_200 : f_200 y = some (1000, .inr (10, [.ref (A 1), .int (nI (st 0 0)), .ref (A 2), .ref (A 3), .ref (A 5), .ref (A 7), .int (nI (st 0 4)), .int (nI (st 0 1)), .int (nI (st 0 2)), .ref (A 9), .int (nI (st 0 3)), .ref (A 10), .ref (A 11), .int thr])) := by rw [ef_200]; exact wu_get hA2_k hy_k (by decide)
          have hA2_k_200 : f_200 (A 2) = some (1002, eI G 200 (upd (V 2) (st 0 0) (nI sx))) := by rw [ef_200]; exact wu_self _ _ _ _
          have hA3_k_200 : f_200 (A 3) = some (1003, eI G 200 (V 3)) := by rw [ef_200]; exact wu_get hA2_k hA3_k (by decide)
          have hA5_k_200 : f_200 (A 5) = some (1005, eI G 200 (V 5)) := by rw [ef_200]; exact wu_get hA2_k hA5_k (by decide)
          have h7_200 : f_200 (A 7) = some (1007, eI G 200 w7) := by rw [ef_200]; exact wu_get hA2_k h7 (by decide)
          have hA1_k_200 : f_200 (A 1) = some (1001, eI G 256 (V 1)) := by rw [ef_200]; exact wu_get hA2_k hA1_k (by decide)
          have hA9_k_200 : f_200 (A 9) = some (1009, eI G 6 (V 9)) := by rw [ef_200]; exact wu_get hA2_k hA9_k (by decide)
          have hA10_k_200 : f_200 (A 10) = some (1010, eJ G 8 (VL 10)) := by rw [ef_200]; exact wu_get hA2_k hA10_k (by decide)
          have hA11_k_200 : f_200 (A 11) = some (1011, eJ G 8 (VL 11)) := by rw [ef_200]; exact wu_get hA2_k hA11_k (by decide)
          have mm_200 : md tM f f_200 := by rw [ef_200]; exact md_tr mm_k (md_put hA2_k) (fun _ q => q) (fun t q => by subst q; unfold tM; omega)
          refine lv_aload_n X.1 X.2.1 dX10_falls_201 rfl (lv_at hl 0 rfl) ?_
          refine r_get (C := RX10) (T := TX10) (N := 14) (ref := "CraterclockModel") X S in_RX10 hy_k_200 rfl 3 (by decide) (by decide +kernel) (fun _ h => h) rfl dX10_falls_202 ?_
          refine lv_aload_n X.1 X.2.1 dX10_falls_205 rfl (lv_at hl 0 rfl) ?_
          refine r_get (C := RX10) (T := TX10) (N := 14) (ref := "CraterclockModel") X S in_RX10 hy_k_200 rfl 1 (by decide) (by decide +kernel) (fun _ h => h) rfl dX10_falls_206 ?_
          refine lv_iload_n X.1 X.2.1 dX10_falls_209 rfl (lv_at hl 2 rfl) ?_
          refine r_iast X S hA3_k_200 (by decide) (vp_in_nI (show (st 0 0) < 200 by omega) (by omega)) dX10_falls_210 (fun H locs S => ?_)
          rw [nI_clamp (by omega)] at S
          obtain ⟨f_210, ef_210⟩ : ∃ z9 : Wd, z9 = wu f_200 (A 3) 1003 (eI G 200 (upd (V 3) (st 0 0) (nI sy))) := ⟨_, rfl⟩
          rw [← ef_210] at S
          have hy_k_210 : f_210 y = some (1000, .inr (10, [.ref (A 1), .int (nI (st 0 0)), .ref (A 2), .ref (A 3), .ref (A 5), .ref (A 7), .int (nI (st 0 4)), .int (nI (st 0 1)), .int (nI (st 0 2)), .ref (A 9), .int (nI (st 0 3)), .ref (A 10), .ref (A 11), .int thr])) := by rw [ef_210]; exact wu_get hA3_k_200 hy_k_200 (by decide)
          have hA2_k_210 : f_210 (A 2) = some (1002, eI G 200 (upd (V 2) (st 0 0) (nI sx))) := by rw [ef_210]; exact wu_get hA3_k_200 hA2_k_200 (by decide)
          have hA3_k_210 : f_210 (A 3) = some (1003, eI G 200 (upd (V 3) (st 0 0) (nI sy))) := by rw [ef_210]; exact wu_self _ _ _ _
          have hA5_k_210 : f_210 (A 5) = some (1005, eI G 200 (V 5)) := by rw [ef_210]; exact wu_get hA3_k_200 hA5_k_200 (by decide)
          have h7_210 : f_210 (A 7) = some (1007, eI G 200 w7) := by rw [ef_210]; exact wu_get hA3_k_200 h7_200 (by decide)
          have hA1_k_210 : f_210 (A 1) = some (1001, eI G 256 (V 1)) := by rw [ef_210]; exact wu_get hA3_k_200 hA1_k_200 (by decide)
          have hA9_k_210 : f_210 (A 9) = some (1009, eI G 6 (V 9)) := by rw [ef_210]; exact wu_get hA3_k_200 hA9_k_200 (by decide)
          have hA10_k_210 : f_210 (A 10) = some (1010, eJ G 8 (VL 10)) := by rw [ef_210]; exact wu_get hA3_k_200 hA10_k_200 (by decide)
          have hA11_k_210 : f_210 (A 11) = some (1011, eJ G 8 (VL 11)) := by rw [ef_210]; exact wu_get hA3_k_200 hA11_k_200 (by decide)
          have mm_210 : md tM f f_210 := by rw [ef_210]; exact md_tr mm_200 (md_put hA3_k_200) (fun _ q => q) (fun t q => by subst q; unfold tM; omega)
          refine lv_aload_n X.1 X.2.1 dX10_falls_211 rfl (lv_at hl 0 rfl) ?_
          refine r_get (C := RX10) (T := TX10) (N := 14) (ref := "CraterclockModel") X S in_RX10 hy_k_210 rfl 4 (by decide) (by decide +kernel) (fun _ h => h) rfl dX10_falls_212 ?_
          refine lv_aload_n X.1 X.2.1 dX10_falls_215 rfl (lv_at hl 0 rfl) ?_
          refine r_get (C := RX10) (T := TX10) (N := 14) (ref := "CraterclockModel") X S in_RX10 hy_k_210 rfl 1 (by decide) (by decide +kernel) (fun _ h => h) rfl dX10_falls_216 ?_
          refine lv_iload X.1 X.2.1 dX10_falls_219 (lv_at hl 5 rfl) ?_
          refine r_iast X S hA5_k_210 (by decide) (vp_in_nI (show (st 0 0) < 200 by omega) (by omega)) dX10_falls_221 (fun H locs S => ?_)
          rw [nI_clamp (by omega)] at S
          obtain ⟨f_221, ef_221⟩ : ∃ z9 : Wd, z9 = wu f_210 (A 5) 1005 (eI G 200 (upd (V 5) (st 0 0) (nI (radOn (st 1 (16 * sy + sx)) z)))) := ⟨_, rfl⟩
          rw [← ef_221] at S
          have hy_k_221 : f_221 y = some (1000, .inr (10, [.ref (A 1), .int (nI (st 0 0)), .ref (A 2), .ref (A 3), .ref (A 5), .ref (A 7), .int (nI (st 0 4)), .int (nI (st 0 1)), .int (nI (st 0 2)), .ref (A 9), .int (nI (st 0 3)), .ref (A 10), .ref (A 11), .int thr])) := by rw [ef_221]; exact wu_get hA5_k_210 hy_k_210 (by decide)
          have hA2_k_221 : f_221 (A 2) = some (1002, eI G 200 (upd (V 2) (st 0 0) (nI sx))) := by rw [ef_221]; exact wu_get hA5_k_210 hA2_k_210 (by decide)
          have hA3_k_221 : f_221 (A 3) = some (1003, eI G 200 (upd (V 3) (st 0 0) (nI sy))) := by rw [ef_221]; exact wu_get hA5_k_210 hA3_k_210 (by decide)
          have hA5_k_221 : f_221 (A 5) = some (1005, eI G 200 (upd (V 5) (st 0 0) (nI (radOn (st 1 (16 * sy + sx)) z)))) := by rw [ef_221]; exact wu_self _ _ _ _
          have h7_221 : f_221 (A 7) = some (1007, eI G 200 w7) := by rw [ef_221]; exact wu_get hA5_k_210 h7_210 (by decide)
          have hA1_k_221 : f_221 (A 1) = some (1001, eI G 256 (V 1)) := by rw [ef_221]; exact wu_get hA5_k_210 hA1_k_210 (by decide)
          have hA9_k_221 : f_221 (A 9) = some (1009, eI G 6 (V 9)) := by rw [ef_221]; exact wu_get hA5_k_210 hA9_k_210 (by decide)
          have hA10_k_221 : f_221 (A 10) = some (1010, eJ G 8 (VL 10)) := by rw [ef_221]; exact wu_get hA5_k_210 hA10_k_210 (by decide)
          have hA11_k_221 : f_221 (A 11) = some (1011, eJ G 8 (VL 11)) := by rw [ef_221]; exact wu_get hA5_k_210 hA11_k_210 (by decide)
          have mm_221 : md tM f f_221 := by rw [ef_221]; exact md_tr mm_210 (md_put hA5_k_210) (fun _ q => q) (fun t q => by subst q; unfold tM; omega)
          refine lv_aload_n X.1 X.2.1 dX10_falls_222 rfl (lv_at hl 0 rfl) ?_
          refine r_get (C := RX10) (T := TX10) (N := 14) (ref := "CraterclockModel") X S in_RX10 hy_k_221 rfl 5 (by decide) (by decide +kernel) (fun _ h => h) rfl dX10_falls_223 ?_
          refine lv_aload_n X.1 X.2.1 dX10_falls_226 rfl (lv_at hl 0 rfl) ?_
          refine r_get (C := RX10) (T := TX10) (N := 14) (ref := "CraterclockModel") X S in_RX10 hy_k_221 rfl 1 (by decide) (by decide +kernel) (fun _ h => h) rfl dX10_falls_227 ?_
          refine lv_iload_n X.1 X.2.1 dX10_falls_230 rfl (lv_at hl 3 rfl) ?_
          refine lv_iload X.1 X.2.1 dX10_falls_231 (lv_at hl 4 rfl) ?_
          refine lv_if_ne (tgt := 240) X.1 X.2.1 dX10_falls_233 (by decide) (fun c_233 => ?_) (fun c_233 => ?_)
          · have hh0 : (st 1 (16 * sy + sx)) ≠ 0 := fun q => c_233 (by rw [q]; rfl)
            refine lv_iload X.1 X.2.1 dX10_falls_240 (lv_at hl 4 rfl) ?_
            refine lv_iconst (v := 1) X.1 X.2.1 dX10_falls_242 (by decide) ?_
            refine lv_icmp_ne (tgt := 250) X.1 X.2.1 dX10_falls_243 (by decide) (fun c_243 => ?_) (fun c_243 => ?_)
            · have hh1 : (st 1 (16 * sy + sx)) ≠ 1 := fun q => c_243 (by rw [q]; rfl)
              refine lv_iconst (v := 5) X.1 X.2.1 dX10_falls_250 (by decide) ?_
              refine lv_imul X.1 X.2.1 dX10_falls_251 ?_
              refine r_toi (y := nI (depOn (st 1 (16 * sy + sx)) z)) (by unfold depOn; rw [if_neg hh1, if_pos (by omega), show (5 : Int32) = nI 5 from rfl, pk_mul, Nat.mul_comm z 5]) ?_
              refine r_iast X S h7_221 (by decide) (vp_in_nI (show (st 0 0) < 200 by omega) (by omega)) dX10_falls_252 (fun H locs S => ?_)
              rw [nI_clamp (by omega)] at S
              obtain ⟨f_252, ef_252⟩ : ∃ z9 : Wd, z9 = wu f_221 (A 7) 1007 (eI G 200 (upd w7 (st 0 0) (nI (depOn (st 1 (16 * sy + sx)) z)))) := ⟨_, rfl⟩
              rw [← ef_252] at S
              have hy_k_252 : f_252 y = some (1000, .inr (10, [.ref (A 1), .int (nI (st 0 0)), .ref (A 2), .ref (A 3), .ref (A 5), .ref (A 7), .int (nI (st 0 4)), .int (nI (st 0 1)), .int (nI (st 0 2)), .ref (A 9), .int (nI (st 0 3)), .ref (A 10), .ref (A 11), .int thr])) := by rw [ef_252]; exact wu_get h7_221 hy_k_221 (by decide)
              have hA2_k_252 : f_252 (A 2) = some (1002, eI G 200 (upd (V 2) (st 0 0) (nI sx))) := by rw [ef_252]; exact wu_get h7_221 hA2_k_221 (by decide)
              have hA3_k_252 : f_252 (A 3) = some (1003, eI G 200 (upd (V 3) (st 0 0) (nI sy))) := by rw [ef_252]; exact wu_get h7_221 hA3_k_221 (by decide)
              have hA5_k_252 : f_252 (A 5) = some (1005, eI G 200 (upd (V 5) (st 0 0) (nI (radOn (st 1 (16 * sy + sx)) z)))) := by rw [ef_252]; exact wu_get h7_221 hA5_k_221 (by decide)
              have h7_252 : f_252 (A 7) = some (1007, eI G 200 (upd w7 (st 0 0) (nI (depOn (st 1 (16 * sy + sx)) z)))) := by rw [ef_252]; exact wu_self _ _ _ _
              have hA1_k_252 : f_252 (A 1) = some (1001, eI G 256 (V 1)) := by rw [ef_252]; exact wu_get h7_221 hA1_k_221 (by decide)
              have hA9_k_252 : f_252 (A 9) = some (1009, eI G 6 (V 9)) := by rw [ef_252]; exact wu_get h7_221 hA9_k_221 (by decide)
              have hA10_k_252 : f_252 (A 10) = some (1010, eJ G 8 (VL 10)) := by rw [ef_252]; exact wu_get h7_221 hA10_k_221 (by decide)
              have hA11_k_252 : f_252 (A 11) = some (1011, eJ G 8 (VL 11)) := by rw [ef_252]; exact wu_get h7_221 hA11_k_221 (by decide)
              have mm_252 : md tM f f_252 := by rw [ef_252]; exact md_tr mm_221 (md_put h7_221) (fun _ q => q) (fun t q => by subst q; unfold tM; omega)
              refine lv_aload_n X.1 X.2.1 dX10_falls_253 rfl (lv_at hl 0 rfl) ?_
              refine lv_dup X.1 X.2.1 dX10_falls_254 rfl ?_
              refine r_get (C := RX10) (T := TX10) (N := 14) (ref := "CraterclockModel") X S in_RX10 hy_k_252 rfl 1 (by decide) (by decide +kernel) (fun _ h => h) rfl dX10_falls_255 ?_
              refine lv_iconst (v := 1) X.1 X.2.1 dX10_falls_258 (by decide) ?_
              refine lv_iadd X.1 X.2.1 dX10_falls_259 ?_
              refine r_toi (y := nI (st 0 0 + 1)) (nI_1 _) ?_
              refine r_put (C := RX10) (T := TX10) (N := 14) (ref := "CraterclockModel") (fs' := [.ref (A 1), .int (nI (st 0 0 + 1)), .ref (A 2), .ref (A 3), .ref (A 5), .ref (A 7), .int (nI (st 0 4)), .int (nI (st 0 1)), .int (nI (st 0 2)), .ref (A 9), .int (nI (st 0 3)), .ref (A 10), .ref (A 11), .int thr]) (ty := .int) X S in_RX10 tyX10 tyX10_ok nmX10 hy_k_252 (by decide) rfl 1 (by decide) (by decide +kernel) (fun _ h => h) rfl (by decide +kernel) rfl rfl (Nat.le_of_ble_eq_true rfl) rfl dX10_falls_260 (fun H locs S => ?_)
              obtain ⟨f_260, ef_260⟩ : ∃ z9 : Wd, z9 = wu f_252 y 1000 (.inr (10, [.ref (A 1), .int (nI (st 0 0 + 1)), .ref (A 2), .ref (A 3), .ref (A 5), .ref (A 7), .int (nI (st 0 4)), .int (nI (st 0 1)), .int (nI (st 0 2)), .ref (A 9), .int (nI (st 0 3)), .ref (A 10), .ref (A 11), .int thr])) := ⟨_, rfl⟩
              rw [← ef_260] at S
              have hy_k_260 : f_260 y = some (1000, .inr (10, [.ref (A 1), .int (nI (st 0 0 + 1)), .ref (A 2), .ref (A 3), .ref (A 5), .ref (A 7), .int (nI (st 0 4)), .int (nI (st 0 1)), .int (nI (st 0 2)), .ref (A 9), .int (nI (st 0 3)), .ref (A 10), .ref (A 11), .int thr])) := by rw [ef_260]; exact wu_self _ _ _ _
              have hA2_k_260 : f_260 (A 2) = some (1002, eI G 200 (upd (V 2) (st 0 0) (nI sx))) := by rw [ef_260]; exact wu_get hy_k_252 hA2_k_252 (by decide)
              have hA3_k_260 : f_260 (A 3) = some (1003, eI G 200 (upd (V 3) (st 0 0) (nI sy))) := by rw [ef_260]; exact wu_get hy_k_252 hA3_k_252 (by decide)
              have hA5_k_260 : f_260 (A 5) = some (1005, eI G 200 (upd (V 5) (st 0 0) (nI (radOn (st 1 (16 * sy + sx)) z)))) := by rw [ef_260]; exact wu_get hy_k_252 hA5_k_252 (by decide)
              have h7_260 : f_260 (A 7) = some (1007, eI G 200 (upd w7 (st 0 0) (nI (depOn (st 1 (16 * sy + sx)) z)))) := by rw [ef_260]; exact wu_get hy_k_252 h7_252 (by decide)
              have hA1_k_260 : f_260 (A 1) = some (1001, eI G 256 (V 1)) := by rw [ef_260]; exact wu_get hy_k_252 hA1_k_252 (by decide)
              have hA9_k_260 : f_260 (A 9) = some (1009, eI G 6 (V 9)) := by rw [ef_260]; exact wu_get hy_k_252 hA9_k_252 (by decide)
              have hA10_k_260 : f_260 (A 10) = some (1010, eJ G 8 (VL 10)) := by rw [ef_260]; exact wu_get hy_k_252 hA10_k_252 (by decide)
              have hA11_k_260 : f_260 (A 11) = some (1011, eJ G 8 (VL 11)) := by rw [ef_260]; exact wu_get hy_k_252 hA11_k_252 (by decide)
              have mm_260 : md tM f f_260 := by rw [ef_260]; exact md_tr mm_252 (md_put hy_k_252) (fun _ q => q) (fun t q => by subst q; unfold tM; omega)
              refine lv_iload X.1 X.2.1 dX10_falls_263 (lv_at hl 6 rfl) ?_
              refine e_i X hr S (Nat.le_of_ble_eq_true rfl) (Nat.le_of_ble_eq_true rfl) dX10_falls_265 ?_
              refine ⟨by rw [hkn], ⟨A, vfall V (upd (V 2) (st 0 0) (nI sx)) (upd (V 3) (st 0 0) (nI sy)) (upd (V 5) (st 0 0) (nI (radOn (st 1 (16 * sy + sx)) z))) (upd w7 (st 0 0) (nI (depOn (st 1 (16 * sy + sx)) z))), VL, ?_⟩, mm_260⟩
              have e0 : ∀ i, i ≠ 0 → fallSt st sx sy z 0 i = st 0 i := fun i hi => fall_e _ _ _ _ (by omega)
              have e8 : ∀ B, 8 ≤ B → fallSt st sx sy z B = st B := fun B hB => funext fun i => fall_e _ _ _ _ (by omega)
              have e1 : fallSt st sx sy z 1 = st 1 := funext fun i => fall_e _ _ _ _ (by omega)
              refine ⟨?_, ⟨hA1_k_260, hA2_k_260, hA3_k_260, hA5_k_260, h7_260, hA9_k_260, hA10_k_260, hA11_k_260⟩, ?_, fun j hj => ?_, ?_, ?_⟩
              · rw [fall_n, e0 4 (by omega), e0 1 (by omega), e0 2 (by omega), e0 3 (by omega)]; exact hy_k_260
              · rw [e1]; exact hv1
              · rw [fall_n] at hj
                by_cases q : j = st 0 0
                · subst q
                  rw [fall_2, fall_3, fall_5, fall_7]
                  exact ⟨pk_us, pk_us, pk_us, pk_us⟩
                · have q2 : j < st 0 0 := by omega
                  have hz9 := hvk j q2
                  rw [fall_e (A := 2) _ _ _ _ (by omega), fall_e (A := 3) _ _ _ _ (by omega), fall_e (A := 5) _ _ _ _ (by omega), fall_d _ _ _ _ q2]
                  exact ⟨(pk_un q).trans hz9.1, (pk_un q).trans hz9.2.1, (pk_un q).trans hz9.2.2.1, (pk_un q).trans (hdn j (by omega))⟩
              · rw [e0 2 (by omega), e8 9 (by omega)]; exact hv9
              · rw [e0 3 (by omega), e8 10 (by omega), e8 11 (by omega)]; exact hvL
            · have hh1 : (st 1 (16 * sy + sx)) = 1 := (nI_eq (b := 1) (by omega) (by omega)).mp c_243
              refine lv_iconst (v := 3) X.1 X.2.1 dX10_falls_246 (by decide) ?_
              refine lv_goto (tgt := 251) X.1 X.2.1 dX10_falls_247 (by decide) ?_
              refine lv_imul X.1 X.2.1 dX10_falls_251 ?_
              refine r_toi (y := nI (depOn (st 1 (16 * sy + sx)) z)) (by unfold depOn; rw [if_pos hh1, show (3 : Int32) = nI 3 from rfl, pk_mul, Nat.mul_comm z 3]) ?_
              refine r_iast X S h7_221 (by decide) (vp_in_nI (show (st 0 0) < 200 by omega) (by omega)) dX10_falls_252 (fun H locs S => ?_)
              rw [nI_clamp (by omega)] at S
              obtain ⟨f_252, ef_252⟩ : ∃ z9 : Wd, z9 = wu f_221 (A 7) 1007 (eI G 200 (upd w7 (st 0 0) (nI (depOn (st 1 (16 * sy + sx)) z)))) := ⟨_, rfl⟩
              rw [← ef_252] at S
              have hy_k_252 : f_252 y = some (1000, .inr (10, [.ref (A 1), .int (nI (st 0 0)), .ref (A 2), .ref (A 3), .ref (A 5), .ref (A 7), .int (nI (st 0 4)), .int (nI (st 0 1)), .int (nI (st 0 2)), .ref (A 9), .int (nI (st 0 3)), .ref (A 10), .ref (A 11), .int thr])) := by rw [ef_252]; exact wu_get h7_221 hy_k_221 (by decide)
              have hA2_k_252 : f_252 (A 2) = some (1002, eI G 200 (upd (V 2) (st 0 0) (nI sx))) := by rw [ef_252]; exact wu_get h7_221 hA2_k_221 (by decide)
              have hA3_k_252 : f_252 (A 3) = some (1003, eI G 200 (upd (V 3) (st 0 0) (nI sy))) := by rw [ef_252]; exact wu_get h7_221 hA3_k_221 (by decide)
              have hA5_k_252 : f_252 (A 5) = some (1005, eI G 200 (upd (V 5) (st 0 0) (nI (radOn (st 1 (16 * sy + sx)) z)))) := by rw [ef_252]; exact wu_get h7_221 hA5_k_221 (by decide)
              have h7_252 : f_252 (A 7) = some (1007, eI G 200 (upd w7 (st 0 0) (nI (depOn (st 1 (16 * sy + sx)) z)))) := by rw [ef_252]; exact wu_self _ _ _ _
              have hA1_k_252 : f_252 (A 1) = some (1001, eI G 256 (V 1)) := by rw [ef_252]; exact wu_get h7_221 hA1_k_221 (by decide)
              have hA9_k_252 : f_252 (A 9) = some (1009, eI G 6 (V 9)) := by rw [ef_252]; exact wu_get h7_221 hA9_k_221 (by decide)
              have hA10_k_252 : f_252 (A 10) = some (1010, eJ G 8 (VL 10)) := by rw [ef_252]; exact wu_get h7_221 hA10_k_221 (by decide)
              have hA11_k_252 : f_252 (A 11) = some (1011, eJ G 8 (VL 11)) := by rw [ef_252]; exact wu_get h7_221 hA11_k_221 (by decide)
              have mm_252 : md tM f f_252 := by rw [ef_252]; exact md_tr mm_221 (md_put h7_221) (fun _ q => q) (fun t q => by subst q; unfold tM; omega)
              refine lv_aload_n X.1 X.2.1 dX10_falls_253 rfl (lv_at hl 0 rfl) ?_
              refine lv_dup X.1 X.2.1 dX10_falls_254 rfl ?_
              refine r_get (C := RX10) (T := TX10) (N := 14) (ref := "CraterclockModel") X S in_RX10 hy_k_252 rfl 1 (by decide) (by decide +kernel) (fun _ h => h) rfl dX10_falls_255 ?_
              refine lv_iconst (v := 1) X.1 X.2.1 dX10_falls_258 (by decide) ?_
              refine lv_iadd X.1 X.2.1 dX10_falls_259 ?_
              refine r_toi (y := nI (st 0 0 + 1)) (nI_1 _) ?_
              refine r_put (C := RX10) (T := TX10) (N := 14) (ref := "CraterclockModel") (fs' := [.ref (A 1), .int (nI (st 0 0 + 1)), .ref (A 2), .ref (A 3), .ref (A 5), .ref (A 7), .int (nI (st 0 4)), .int (nI (st 0 1)), .int (nI (st 0 2)), .ref (A 9), .int (nI (st 0 3)), .ref (A 10), .ref (A 11), .int thr]) (ty := .int) X S in_RX10 tyX10 tyX10_ok nmX10 hy_k_252 (by decide) rfl 1 (by decide) (by decide +kernel) (fun _ h => h) rfl (by decide +kernel) rfl rfl (Nat.le_of_ble_eq_true rfl) rfl dX10_falls_260 (fun H locs S => ?_)
              obtain ⟨f_260, ef_260⟩ : ∃ z9 : Wd, z9 = wu f_252 y 1000 (.inr (10, [.ref (A 1), .int (nI (st 0 0 + 1)), .ref (A 2), .ref (A 3), .ref (A 5), .ref (A 7), .int (nI (st 0 4)), .int (nI (st 0 1)), .int (nI (st 0 2)), .ref (A 9), .int (nI (st 0 3)), .ref (A 10), .ref (A 11), .int thr])) := ⟨_, rfl⟩
              rw [← ef_260] at S
              have hy_k_260 : f_260 y = some (1000, .inr (10, [.ref (A 1), .int (nI (st 0 0 + 1)), .ref (A 2), .ref (A 3), .ref (A 5), .ref (A 7), .int (nI (st 0 4)), .int (nI (st 0 1)), .int (nI (st 0 2)), .ref (A 9), .int (nI (st 0 3)), .ref (A 10), .ref (A 11), .int thr])) := by rw [ef_260]; exact wu_self _ _ _ _
              have hA2_k_260 : f_260 (A 2) = some (1002, eI G 200 (upd (V 2) (st 0 0) (nI sx))) := by rw [ef_260]; exact wu_get hy_k_252 hA2_k_252 (by decide)
              have hA3_k_260 : f_260 (A 3) = some (1003, eI G 200 (upd (V 3) (st 0 0) (nI sy))) := by rw [ef_260]; exact wu_get hy_k_252 hA3_k_252 (by decide)
              have hA5_k_260 : f_260 (A 5) = some (1005, eI G 200 (upd (V 5) (st 0 0) (nI (radOn (st 1 (16 * sy + sx)) z)))) := by rw [ef_260]; exact wu_get hy_k_252 hA5_k_252 (by decide)
              have h7_260 : f_260 (A 7) = some (1007, eI G 200 (upd w7 (st 0 0) (nI (depOn (st 1 (16 * sy + sx)) z)))) := by rw [ef_260]; exact wu_get hy_k_252 h7_252 (by decide)
              have hA1_k_260 : f_260 (A 1) = some (1001, eI G 256 (V 1)) := by rw [ef_260]; exact wu_get hy_k_252 hA1_k_252 (by decide)
              have hA9_k_260 : f_260 (A 9) = some (1009, eI G 6 (V 9)) := by rw [ef_260]; exact wu_get hy_k_252 hA9_k_252 (by decide)
              have hA10_k_260 : f_260 (A 10) = some (1010, eJ G 8 (VL 10)) := by rw [ef_260]; exact wu_get hy_k_252 hA10_k_252 (by decide)
              have hA11_k_260 : f_260 (A 11) = some (1011, eJ G 8 (VL 11)) := by rw [ef_260]; exact wu_get hy_k_252 hA11_k_252 (by decide)
              have mm_260 : md tM f f_260 := by rw [ef_260]; exact md_tr mm_252 (md_put hy_k_252) (fun _ q => q) (fun t q => by subst q; unfold tM; omega)
              refine lv_iload X.1 X.2.1 dX10_falls_263 (lv_at hl 6 rfl) ?_
              refine e_i X hr S (Nat.le_of_ble_eq_true rfl) (Nat.le_of_ble_eq_true rfl) dX10_falls_265 ?_
              refine ⟨by rw [hkn], ⟨A, vfall V (upd (V 2) (st 0 0) (nI sx)) (upd (V 3) (st 0 0) (nI sy)) (upd (V 5) (st 0 0) (nI (radOn (st 1 (16 * sy + sx)) z))) (upd w7 (st 0 0) (nI (depOn (st 1 (16 * sy + sx)) z))), VL, ?_⟩, mm_260⟩
              have e0 : ∀ i, i ≠ 0 → fallSt st sx sy z 0 i = st 0 i := fun i hi => fall_e _ _ _ _ (by omega)
              have e8 : ∀ B, 8 ≤ B → fallSt st sx sy z B = st B := fun B hB => funext fun i => fall_e _ _ _ _ (by omega)
              have e1 : fallSt st sx sy z 1 = st 1 := funext fun i => fall_e _ _ _ _ (by omega)
              refine ⟨?_, ⟨hA1_k_260, hA2_k_260, hA3_k_260, hA5_k_260, h7_260, hA9_k_260, hA10_k_260, hA11_k_260⟩, ?_, fun j hj => ?_, ?_, ?_⟩
              · rw [fall_n, e0 4 (by omega), e0 1 (by omega), e0 2 (by omega), e0 3 (by omega)]; exact hy_k_260
              · rw [e1]; exact hv1
              · rw [fall_n] at hj
                by_cases q : j = st 0 0
                · subst q
                  rw [fall_2, fall_3, fall_5, fall_7]
                  exact ⟨pk_us, pk_us, pk_us, pk_us⟩
                · have q2 : j < st 0 0 := by omega
                  have hz9 := hvk j q2
                  rw [fall_e (A := 2) _ _ _ _ (by omega), fall_e (A := 3) _ _ _ _ (by omega), fall_e (A := 5) _ _ _ _ (by omega), fall_d _ _ _ _ q2]
                  exact ⟨(pk_un q).trans hz9.1, (pk_un q).trans hz9.2.1, (pk_un q).trans hz9.2.2.1, (pk_un q).trans (hdn j (by omega))⟩
              · rw [e0 2 (by omega), e8 9 (by omega)]; exact hv9
              · rw [e0 3 (by omega), e8 10 (by omega), e8 11 (by omega)]; exact hvL
          · have hh0 : (st 1 (16 * sy + sx)) = 0 := (nI_eq (b := 0) (by omega) (by omega)).mp c_233
            refine lv_iconst (v := 4) X.1 X.2.1 dX10_falls_236 (by decide) ?_
            refine lv_goto (tgt := 251) X.1 X.2.1 dX10_falls_237 (by decide) ?_
            refine lv_imul X.1 X.2.1 dX10_falls_251 ?_
            refine r_toi (y := nI (depOn (st 1 (16 * sy + sx)) z)) (by unfold depOn; rw [if_neg (by omega), if_neg (by omega), show (4 : Int32) = nI 4 from rfl, pk_mul, Nat.mul_comm z 4]) ?_
            refine r_iast X S h7_221 (by decide) (vp_in_nI (show (st 0 0) < 200 by omega) (by omega)) dX10_falls_252 (fun H locs S => ?_)
            rw [nI_clamp (by omega)] at S
            obtain ⟨f_252, ef_252⟩ : ∃ z9 : Wd, z9 = wu f_221 (A 7) 1007 (eI G 200 (upd w7 (st 0 0) (nI (depOn (st 1 (16 * sy + sx)) z)))) := ⟨_, rfl⟩
            rw [← ef_252] at S
            have hy_k_252 : f_252 y = some (1000, .inr (10, [.ref (A 1), .int (nI (st 0 0)), .ref (A 2), .ref (A 3), .ref (A 5), .ref (A 7), .int (nI (st 0 4)), .int (nI (st 0 1)), .int (nI (st 0 2)), .ref (A 9), .int (nI (st 0 3)), .ref (A 10), .ref (A 11), .int thr])) := by rw [ef_252]; exact wu_get h7_221 hy_k_221 (by decide)
            have hA2_k_252 : f_252 (A 2) = some (1002, eI G 200 (upd (V 2) (st 0 0) (nI sx))) := by rw [ef_252]; exact wu_get h7_221 hA2_k_221 (by decide)
            have hA3_k_252 : f_252 (A 3) = some (1003, eI G 200 (upd (V 3) (st 0 0) (nI sy))) := by rw [ef_252]; exact wu_get h7_221 hA3_k_221 (by decide)
            have hA5_k_252 : f_252 (A 5) = some (1005, eI G 200 (upd (V 5) (st 0 0) (nI (radOn (st 1 (16 * sy + sx)) z)))) := by rw [ef_252]; exact wu_get h7_221 hA5_k_221 (by decide)
            have h7_252 : f_252 (A 7) = some (1007, eI G 200 (upd w7 (st 0 0) (nI (depOn (st 1 (16 * sy + sx)) z)))) := by rw [ef_252]; exact wu_self _ _ _ _
            have hA1_k_252 : f_252 (A 1) = some (1001, eI G 256 (V 1)) := by rw [ef_252]; exact wu_get h7_221 hA1_k_221 (by decide)
            have hA9_k_252 : f_252 (A 9) = some (1009, eI G 6 (V 9)) := by rw [ef_252]; exact wu_get h7_221 hA9_k_221 (by decide)
            have hA10_k_252 : f_252 (A 10) = some (1010, eJ G 8 (VL 10)) := by rw [ef_252]; exact wu_get h7_221 hA10_k_221 (by decide)
            have hA11_k_252 : f_252 (A 11) = some (1011, eJ G 8 (VL 11)) := by rw [ef_252]; exact wu_get h7_221 hA11_k_221 (by decide)
            have mm_252 : md tM f f_252 := by rw [ef_252]; exact md_tr mm_221 (md_put h7_221) (fun _ q => q) (fun t q => by subst q; unfold tM; omega)
            refine lv_aload_n X.1 X.2.1 dX10_falls_253 rfl (lv_at hl 0 rfl) ?_
            refine lv_dup X.1 X.2.1 dX10_falls_254 rfl ?_
            refine r_get (C := RX10) (T := TX10) (N := 14) (ref := "CraterclockModel") X S in_RX10 hy_k_252 rfl 1 (by decide) (by decide +kernel) (fun _ h => h) rfl dX10_falls_255 ?_
            refine lv_iconst (v := 1) X.1 X.2.1 dX10_falls_258 (by decide) ?_
            refine lv_iadd X.1 X.2.1 dX10_falls_259 ?_
            refine r_toi (y := nI (st 0 0 + 1)) (nI_1 _) ?_
            refine r_put (C := RX10) (T := TX10) (N := 14) (ref := "CraterclockModel") (fs' := [.ref (A 1), .int (nI (st 0 0 + 1)), .ref (A 2), .ref (A 3), .ref (A 5), .ref (A 7), .int (nI (st 0 4)), .int (nI (st 0 1)), .int (nI (st 0 2)), .ref (A 9), .int (nI (st 0 3)), .ref (A 10), .ref (A 11), .int thr]) (ty := .int) X S in_RX10 tyX10 tyX10_ok nmX10 hy_k_252 (by decide) rfl 1 (by decide) (by decide +kernel) (fun _ h => h) rfl (by decide +kernel) rfl rfl (Nat.le_of_ble_eq_true rfl) rfl dX10_falls_260 (fun H locs S => ?_)
            obtain ⟨f_260, ef_260⟩ : ∃ z9 : Wd, z9 = wu f_252 y 1000 (.inr (10, [.ref (A 1), .int (nI (st 0 0 + 1)), .ref (A 2), .ref (A 3), .ref (A 5), .ref (A 7), .int (nI (st 0 4)), .int (nI (st 0 1)), .int (nI (st 0 2)), .ref (A 9), .int (nI (st 0 3)), .ref (A 10), .ref (A 11), .int thr])) := ⟨_, rfl⟩
            rw [← ef_260] at S
            have hy_k_260 : f_260 y = some (1000, .inr (10, [.ref (A 1), .int (nI (st 0 0 + 1)), .ref (A 2), .ref (A 3), .ref (A 5), .ref (A 7), .int (nI (st 0 4)), .int (nI (st 0 1)), .int (nI (st 0 2)), .ref (A 9), .int (nI (st 0 3)), .ref (A 10), .ref (A 11), .int thr])) := by rw [ef_260]; exact wu_self _ _ _ _
            have hA2_k_260 : f_260 (A 2) = some (1002, eI G 200 (upd (V 2) (st 0 0) (nI sx))) := by rw [ef_260]; exact wu_get hy_k_252 hA2_k_252 (by decide)
            have hA3_k_260 : f_260 (A 3) = some (1003, eI G 200 (upd (V 3) (st 0 0) (nI sy))) := by rw [ef_260]; exact wu_get hy_k_252 hA3_k_252 (by decide)
            have hA5_k_260 : f_260 (A 5) = some (1005, eI G 200 (upd (V 5) (st 0 0) (nI (radOn (st 1 (16 * sy + sx)) z)))) := by rw [ef_260]; exact wu_get hy_k_252 hA5_k_252 (by decide)
            have h7_260 : f_260 (A 7) = some (1007, eI G 200 (upd w7 (st 0 0) (nI (depOn (st 1 (16 * sy + sx)) z)))) := by rw [ef_260]; exact wu_get hy_k_252 h7_252 (by decide)
            have hA1_k_260 : f_260 (A 1) = some (1001, eI G 256 (V 1)) := by rw [ef_260]; exact wu_get hy_k_252 hA1_k_252 (by decide)
            have hA9_k_260 : f_260 (A 9) = some (1009, eI G 6 (V 9)) := by rw [ef_260]; exact wu_get hy_k_252 hA9_k_252 (by decide)
            have hA10_k_260 : f_260 (A 10) = some (1010, eJ G 8 (VL 10)) := by rw [ef_260]; exact wu_get hy_k_252 hA10_k_252 (by decide)
            have hA11_k_260 : f_260 (A 11) = some (1011, eJ G 8 (VL 11)) := by rw [ef_260]; exact wu_get hy_k_252 hA11_k_252 (by decide)
            have mm_260 : md tM f f_260 := by rw [ef_260]; exact md_tr mm_252 (md_put hy_k_252) (fun _ q => q) (fun t q => by subst q; unfold tM; omega)
            refine lv_iload X.1 X.2.1 dX10_falls_263 (lv_at hl 6 rfl) ?_
            refine e_i X hr S (Nat.le_of_ble_eq_true rfl) (Nat.le_of_ble_eq_true rfl) dX10_falls_265 ?_
            refine ⟨by rw [hkn], ⟨A, vfall V (upd (V 2) (st 0 0) (nI sx)) (upd (V 3) (st 0 0) (nI sy)) (upd (V 5) (st 0 0) (nI (radOn (st 1 (16 * sy + sx)) z))) (upd w7 (st 0 0) (nI (depOn (st 1 (16 * sy + sx)) z))), VL, ?_⟩, mm_260⟩
            have e0 : ∀ i, i ≠ 0 → fallSt st sx sy z 0 i = st 0 i := fun i hi => fall_e _ _ _ _ (by omega)
            have e8 : ∀ B, 8 ≤ B → fallSt st sx sy z B = st B := fun B hB => funext fun i => fall_e _ _ _ _ (by omega)
            have e1 : fallSt st sx sy z 1 = st 1 := funext fun i => fall_e _ _ _ _ (by omega)
            refine ⟨?_, ⟨hA1_k_260, hA2_k_260, hA3_k_260, hA5_k_260, h7_260, hA9_k_260, hA10_k_260, hA11_k_260⟩, ?_, fun j hj => ?_, ?_, ?_⟩
            · rw [fall_n, e0 4 (by omega), e0 1 (by omega), e0 2 (by omega), e0 3 (by omega)]; exact hy_k_260
            · rw [e1]; exact hv1
            · rw [fall_n] at hj
              by_cases q : j = st 0 0
              · subst q
                rw [fall_2, fall_3, fall_5, fall_7]
                exact ⟨pk_us, pk_us, pk_us, pk_us⟩
              · have q2 : j < st 0 0 := by omega
                have hz9 := hvk j q2
                rw [fall_e (A := 2) _ _ _ _ (by omega), fall_e (A := 3) _ _ _ _ (by omega), fall_e (A := 5) _ _ _ _ (by omega), fall_d _ _ _ _ q2]
                exact ⟨(pk_un q).trans hz9.1, (pk_un q).trans hz9.2.1, (pk_un q).trans hz9.2.2.1, (pk_un q).trans (hdn j (by omega))⟩
            · rw [e0 2 (by omega), e8 9 (by omega)]; exact hv9
            · rw [e0 3 (by omega), e8 10 (by omega), e8 11 (by omega)]; exact hvL
        · have hlt_k : k < st 0 0 := Nat.lt_of_not_le (fun z => c_65 (nI_le z (by omega)))
          have hck := hi2 k hlt_k
          have hr7 := hck.2.2.2.2.2.1
          have hd7 := hck.2.2.2.2.2.2
          have hs5 := sq16 hsx hck.1 hsy hck.2.1
          have hmw := mulb hrn.2
          have hm2 : (st 5 k + (radOn (st 1 (16 * sy + sx)) z)) * (st 5 k + (radOn (st 1 (16 * sy + sx)) z)) ≤ 14 * 14 := mulb (by omega)
          refine lv_aload_n X.1 X.2.1 dX10_falls_68 rfl (lv_at hl 0 rfl) ?_
          refine lv_iload X.1 X.2.1 dX10_falls_69 (lv_at hl 7 rfl) ?_
          refine lv_iload_n X.1 X.2.1 dX10_falls_71 rfl (lv_at hl 1 rfl) ?_
          refine lv_iload_n X.1 X.2.1 dX10_falls_72 rfl (lv_at hl 2 rfl) ?_
          refine call_ip (run_V X S (n_square l G fk y A (nI (st 0 0)) (nI (st 0 4)) (nI (st 0 1)) (nI (st 0 2)) (nI (st 0 3)) thr hy_k (V 2) (V 3) hA2_k hA3_k k (st 2 k) (st 3 k) sx sy (by omega) (hvk k hlt_k).1 (hvk k hlt_k).2.1) 3 gX10_falls_X10_square rfl rfl rfl (by decide +kernel) ⟨(by exact Nat.le_of_ble_eq_true rfl), (by exact Nat.le_of_ble_eq_true rfl)⟩ ⟨_, _, hy_k⟩ rfl rfl rfl hl.1 rfl (by exact Nat.le_of_ble_eq_true rfl) dX10_falls_73 ⟨(Nat.zero_le _), (Nat.zero_le _)⟩) S (fun r_73 H locs hr_73 S => ?_)
          subst hr_73
          refine lv_istore (lv' := [(8, .int (nI (sq sx (st 2 k) + sq sy (st 3 k)))), (0, .ref y), (1, .int (nI sx)), (2, .int (nI sy)), (3, .int (nI z)), (4, .int (nI (st 1 (16 * sy + sx)))), (5, .int (nI (radOn (st 1 (16 * sy + sx)) z))), (6, .int (nI (cn (goneB st sx sy z) k))), (7, .int (nI k))]) X.1 X.2.1 dX10_falls_76 hl (by decide) rfl (fun ls hl => ?_)
          refine lv_aload_n X.1 X.2.1 dX10_falls_78 rfl (lv_at hl 1 rfl) ?_
          refine r_get (C := RX10) (T := TX10) (N := 14) (ref := "CraterclockModel") X S in_RX10 hy_k rfl 4 (by decide) (by decide +kernel) (fun _ h => h) rfl dX10_falls_79 ?_
          refine lv_iload X.1 X.2.1 dX10_falls_82 (lv_at hl 8 rfl) ?_
          refine r_iald (v := (nI (st 5 k))) X S hA5_k (vp_in_nI (show k < 200 by omega) (by omega)) (by rw [nI_clamp (by omega)]; exact (hvk _ hlt_k).2.2.1) dX10_falls_84 ?_
          refine lv_iload X.1 X.2.1 dX10_falls_85 (lv_at hl 6 rfl) ?_
          refine lv_icmp_gt (tgt := 104) X.1 X.2.1 dX10_falls_87 (by decide) (fun c_87 => ?_) (fun c_87 => ?_)
          · have hW : ¬ (st 5 k ≤ (radOn (st 1 (16 * sy + sx)) z) ∧ (sq sx (st 2 k) + sq sy (st 3 k)) ≤ (radOn (st 1 (16 * sy + sx)) z) * (radOn (st 1 (16 * sy + sx)) z)) := fun q => nI_nlt q.1 (by omega) c_87
            refine lv_iconst (v := 0) X.1 X.2.1 dX10_falls_104 (by decide) ?_
            refine lv_istore (lv' := [(9, .int 0), (8, .int (nI (sq sx (st 2 k) + sq sy (st 3 k)))), (0, .ref y), (1, .int (nI sx)), (2, .int (nI sy)), (3, .int (nI z)), (4, .int (nI (st 1 (16 * sy + sx)))), (5, .int (nI (radOn (st 1 (16 * sy + sx)) z))), (6, .int (nI (cn (goneB st sx sy z) k))), (7, .int (nI k))]) X.1 X.2.1 dX10_falls_105 hl (by decide) rfl (fun ls hl => ?_)
            refine lv_iload X.1 X.2.1 dX10_falls_107 (lv_at hl 1 rfl) ?_
            refine lv_aload_n X.1 X.2.1 dX10_falls_109 rfl (lv_at hl 2 rfl) ?_
            refine r_get (C := RX10) (T := TX10) (N := 14) (ref := "CraterclockModel") X S in_RX10 hy_k rfl 4 (by decide) (by decide +kernel) (fun _ h => h) rfl dX10_falls_110 ?_
            refine lv_iload X.1 X.2.1 dX10_falls_113 (lv_at hl 9 rfl) ?_
            refine r_iald (v := (nI (st 5 k))) X S hA5_k (vp_in_nI (show k < 200 by omega) (by omega)) (by rw [nI_clamp (by omega)]; exact (hvk _ hlt_k).2.2.1) dX10_falls_115 ?_
            refine lv_iload X.1 X.2.1 dX10_falls_116 (lv_at hl 7 rfl) ?_
            refine lv_iadd X.1 X.2.1 dX10_falls_118 ?_
            refine r_toi (y := nI (st 5 k + (radOn (st 1 (16 * sy + sx)) z))) (nI_add _ _) ?_
            refine lv_aload_n X.1 X.2.1 dX10_falls_119 rfl (lv_at hl 2 rfl) ?_
            refine r_get (C := RX10) (T := TX10) (N := 14) (ref := "CraterclockModel") X S in_RX10 hy_k rfl 4 (by decide) (by decide +kernel) (fun _ h => h) rfl dX10_falls_120 ?_
            refine lv_iload X.1 X.2.1 dX10_falls_123 (lv_at hl 9 rfl) ?_
            refine r_iald (v := (nI (st 5 k))) X S hA5_k (vp_in_nI (show k < 200 by omega) (by omega)) (by rw [nI_clamp (by omega)]; exact (hvk _ hlt_k).2.2.1) dX10_falls_125 ?_
            refine lv_iload X.1 X.2.1 dX10_falls_126 (lv_at hl 7 rfl) ?_
            refine lv_iadd X.1 X.2.1 dX10_falls_128 ?_
            refine r_toi (y := nI (st 5 k + (radOn (st 1 (16 * sy + sx)) z))) (nI_add _ _) ?_
            refine lv_imul X.1 X.2.1 dX10_falls_129 ?_
            refine r_toi (y := nI ((st 5 k + (radOn (st 1 (16 * sy + sx)) z)) * (st 5 k + (radOn (st 1 (16 * sy + sx)) z)))) (pk_mul _ _) ?_
            refine lv_icmp_gt (tgt := 137) X.1 X.2.1 dX10_falls_130 (by decide) (fun c_130 => ?_) (fun c_130 => ?_)
            · have hNr : ¬ ((sq sx (st 2 k) + sq sy (st 3 k)) ≤ (st 5 k + (radOn (st 1 (16 * sy + sx)) z)) * (st 5 k + (radOn (st 1 (16 * sy + sx)) z))) := fun q => nI_nlt q (by omega) c_130
              refine lv_iconst (v := 0) X.1 X.2.1 dX10_falls_137 (by decide) ?_
              refine lv_istore (lv' := [(10, .int 0), (9, .int 0), (8, .int (nI (sq sx (st 2 k) + sq sy (st 3 k)))), (0, .ref y), (1, .int (nI sx)), (2, .int (nI sy)), (3, .int (nI z)), (4, .int (nI (st 1 (16 * sy + sx)))), (5, .int (nI (radOn (st 1 (16 * sy + sx)) z))), (6, .int (nI (cn (goneB st sx sy z) k))), (7, .int (nI k))]) X.1 X.2.1 dX10_falls_138 hl (by decide) rfl (fun ls hl => ?_)
              refine lv_iload X.1 X.2.1 dX10_falls_140 (lv_at hl 9 rfl) ?_
              refine lv_iload X.1 X.2.1 dX10_falls_142 (lv_at hl 1 rfl) ?_
              refine lv_if_ne (x := 0) (tgt := 152) X.1 X.2.1 dX10_falls_144 (by decide) (fun c_144 => by first | exact absurd c_144 (by decide) | exact absurd (by decide) c_144) (fun c_144 => ?_)
              refine lv_iload X.1 X.2.1 dX10_falls_147 (lv_at hl 0 rfl) ?_
              refine lv_if_eq (x := 0) (tgt := 181) X.1 X.2.1 dX10_falls_149 (by decide) (fun c_149 => ?_) (fun c_149 => by first | exact absurd c_149 (by decide) | exact absurd (by decide) c_149)
              refine lv_iconst (v := 0) X.1 X.2.1 dX10_falls_181 (by decide) ?_
              refine lv_iadd X.1 X.2.1 dX10_falls_182 ?_
              refine lv_istore (lv' := [(6, .int ((nI (cn (goneB st sx sy z) k)) + 0)), (10, .int 0), (9, .int 0), (8, .int (nI (sq sx (st 2 k) + sq sy (st 3 k)))), (0, .ref y), (1, .int (nI sx)), (2, .int (nI sy)), (3, .int (nI z)), (4, .int (nI (st 1 (16 * sy + sx)))), (5, .int (nI (radOn (st 1 (16 * sy + sx)) z))), (7, .int (nI k))]) X.1 X.2.1 dX10_falls_183 hl (by decide) rfl (fun ls hl => ?_)
              refine lv_iinc (v := (nI (k + 1))) (lv' := [(7, .int (nI (k + 1))), (6, .int ((nI (cn (goneB st sx sy z) k)) + 0)), (10, .int 0), (9, .int 0), (8, .int (nI (sq sx (st 2 k) + sq sy (st 3 k)))), (0, .ref y), (1, .int (nI sx)), (2, .int (nI sy)), (3, .int (nI z)), (4, .int (nI (st 1 (16 * sy + sx)))), (5, .int (nI (radOn (st 1 (16 * sy + sx)) z)))]) X.1 X.2.1 dX10_falls_185 hl (k := 10) rfl (nI_1 _) (by decide) rfl (fun ls hl => ?_)
              refine lv_goto (tgt := 59) X.1 X.2.1 dX10_falls_188 (by decide) ?_
              have hB := loss_no hW hNr
              have hg : goneB st sx sy z k = false := decide_eq_false (fun q => by rw [hB] at q; omega)
              have hcn : nI (cn (goneB st sx sy z) (k + 1)) = nI (cn (goneB st sx sy z) k) + 0 := by rw [cn_f hg]; exact (Int32.add_zero _).symm
              exact ih (k + 1) fk w7 H locs ls (by omega) (by omega) hmk h7 (fun j hj => by rcases (by omega : j < k ∨ j = k) with q | q; exact hdn j q; rw [q, hB, Nat.sub_zero]; exact htd k (Nat.le_refl _) hlt_k) (fun j h1 h2 => htd j (by omega) h2) S (by rw [hcn]; exact lv_sub hl [5, 6, 7, 8, 9, 10, 1, 0] rfl)
            · have hNr : ((sq sx (st 2 k) + sq sy (st 3 k)) ≤ (st 5 k + (radOn (st 1 (16 * sy + sx)) z)) * (st 5 k + (radOn (st 1 (16 * sy + sx)) z))) := (nI_leI (by omega) (by omega)).mp (Int32.not_lt.mp c_130)
              refine lv_iconst (v := 1) X.1 X.2.1 dX10_falls_133 (by decide) ?_
              refine lv_goto (tgt := 138) X.1 X.2.1 dX10_falls_134 (by decide) ?_
              refine lv_istore (lv' := [(10, .int 1), (9, .int 0), (8, .int (nI (sq sx (st 2 k) + sq sy (st 3 k)))), (0, .ref y), (1, .int (nI sx)), (2, .int (nI sy)), (3, .int (nI z)), (4, .int (nI (st 1 (16 * sy + sx)))), (5, .int (nI (radOn (st 1 (16 * sy + sx)) z))), (6, .int (nI (cn (goneB st sx sy z) k))), (7, .int (nI k))]) X.1 X.2.1 dX10_falls_138 hl (by decide) rfl (fun ls hl => ?_)
              refine lv_iload X.1 X.2.1 dX10_falls_140 (lv_at hl 9 rfl) ?_
              refine lv_iload X.1 X.2.1 dX10_falls_142 (lv_at hl 1 rfl) ?_
              refine lv_if_ne (x := 0) (tgt := 152) X.1 X.2.1 dX10_falls_144 (by decide) (fun c_144 => by first | exact absurd c_144 (by decide) | exact absurd (by decide) c_144) (fun c_144 => ?_)
              refine lv_iload X.1 X.2.1 dX10_falls_147 (lv_at hl 0 rfl) ?_
              refine lv_if_eq (x := 1) (tgt := 181) X.1 X.2.1 dX10_falls_149 (by decide) (fun c_149 => by first | exact absurd c_149 (by decide) | exact absurd (by decide) c_149) (fun c_149 => ?_)
              refine lv_aload_n X.1 X.2.1 dX10_falls_152 rfl (lv_at hl 3 rfl) ?_
              refine lv_iload X.1 X.2.1 dX10_falls_153 (lv_at hl 10 rfl) ?_
              refine lv_iload X.1 X.2.1 dX10_falls_155 (lv_at hl 1 rfl) ?_
              refine lv_if_eq (x := 0) (tgt := 170) X.1 X.2.1 dX10_falls_157 (by decide) (fun c_157 => ?_) (fun c_157 => by first | exact absurd c_157 (by decide) | exact absurd (by decide) c_157)
              refine lv_iload_n X.1 X.2.1 dX10_falls_170 rfl (lv_at hl 6 rfl) ?_
              refine call_i (run_V X S (n_lessens l G fk y A (nI (st 0 0)) (nI (st 0 4)) (nI (st 0 1)) (nI (st 0 2)) (nI (st 0 3)) thr hy_k w7 h7 k (st 7 k) z (by omega) (by omega) (by omega) (htd k (Nat.le_refl _) hlt_k)) 2 gX10_falls_X10_lessens rfl rfl rfl (by decide +kernel) ⟨(by exact Nat.le_of_ble_eq_true rfl), (by exact Nat.le_of_ble_eq_true rfl)⟩ ⟨_, _, hy_k⟩ rfl rfl rfl hl.1 rfl (by exact Nat.le_of_ble_eq_true rfl) dX10_falls_171 ⟨(by exact Nat.le_of_ble_eq_true rfl), (by exact Nat.le_of_ble_eq_true rfl)⟩) S (fun r_171 f_171 H locs hr_171 S => ?_)
              obtain ⟨rfl, e171⟩ := hr_171
              refine r_eqB (tgt := 181) X dX10_falls_174 (by decide) (fun c_174 => ?_) (fun c_174 => ?_)
              · refine lv_iconst (v := 0) X.1 X.2.1 dX10_falls_181 (by decide) ?_
                refine lv_iadd X.1 X.2.1 dX10_falls_182 ?_
                refine lv_istore (lv' := [(6, .int ((nI (cn (goneB st sx sy z) k)) + 0)), (10, .int 1), (9, .int 0), (8, .int (nI (sq sx (st 2 k) + sq sy (st 3 k)))), (0, .ref y), (1, .int (nI sx)), (2, .int (nI sy)), (3, .int (nI z)), (4, .int (nI (st 1 (16 * sy + sx)))), (5, .int (nI (radOn (st 1 (16 * sy + sx)) z))), (7, .int (nI k))]) X.1 X.2.1 dX10_falls_183 hl (by decide) rfl (fun ls hl => ?_)
                refine lv_iinc (v := (nI (k + 1))) (lv' := [(7, .int (nI (k + 1))), (6, .int ((nI (cn (goneB st sx sy z) k)) + 0)), (10, .int 1), (9, .int 0), (8, .int (nI (sq sx (st 2 k) + sq sy (st 3 k)))), (0, .ref y), (1, .int (nI sx)), (2, .int (nI sy)), (3, .int (nI z)), (4, .int (nI (st 1 (16 * sy + sx)))), (5, .int (nI (radOn (st 1 (16 * sy + sx)) z)))]) X.1 X.2.1 dX10_falls_185 hl (k := 10) rfl (nI_1 _) (by decide) rfl (fun ls hl => ?_)
                refine lv_goto (tgt := 59) X.1 X.2.1 dX10_falls_188 (by decide) ?_
                have hB := loss_nr hW hNr
                have hE : st 7 k - z = st 7 k - lossB st k sx sy z := by rw [hB]
                have hg : goneB st sx sy z k = false := decide_eq_false (fun q => by rw [hB] at q; exact of_decide_eq_false c_174 (by omega))
                have hcn : nI (cn (goneB st sx sy z) (k + 1)) = nI (cn (goneB st sx sy z) k) + 0 := by rw [cn_f hg]; exact (Int32.add_zero _).symm
                rw [hE] at e171
                exact ih (k + 1) f_171 (upd w7 k (nI (st 7 k - lossB st k sx sy z))) H locs ls (by omega) (by omega) (by rw [e171]; exact md_tr hmk (md_put h7) (fun _ q => q) (fun _ q => q)) (by rw [e171]; exact wu_self _ _ _ _) (fun j hj => by rcases (by omega : j < k ∨ j = k) with q | q; rw [pk_un (by omega)]; exact hdn j q; rw [q]; exact pk_us) (fun j h1 h2 => by rw [pk_un (by omega)]; exact htd j (by omega) h2) S (by rw [hcn]; exact lv_sub hl [5, 6, 7, 8, 9, 10, 1, 0] rfl)
              · refine lv_iconst (v := 1) X.1 X.2.1 dX10_falls_177 (by decide) ?_
                refine lv_goto (tgt := 182) X.1 X.2.1 dX10_falls_178 (by decide) ?_
                refine lv_iadd X.1 X.2.1 dX10_falls_182 ?_
                refine lv_istore (lv' := [(6, .int ((nI (cn (goneB st sx sy z) k)) + 1)), (10, .int 1), (9, .int 0), (8, .int (nI (sq sx (st 2 k) + sq sy (st 3 k)))), (0, .ref y), (1, .int (nI sx)), (2, .int (nI sy)), (3, .int (nI z)), (4, .int (nI (st 1 (16 * sy + sx)))), (5, .int (nI (radOn (st 1 (16 * sy + sx)) z))), (7, .int (nI k))]) X.1 X.2.1 dX10_falls_183 hl (by decide) rfl (fun ls hl => ?_)
                refine lv_iinc (v := (nI (k + 1))) (lv' := [(7, .int (nI (k + 1))), (6, .int ((nI (cn (goneB st sx sy z) k)) + 1)), (10, .int 1), (9, .int 0), (8, .int (nI (sq sx (st 2 k) + sq sy (st 3 k)))), (0, .ref y), (1, .int (nI sx)), (2, .int (nI sy)), (3, .int (nI z)), (4, .int (nI (st 1 (16 * sy + sx)))), (5, .int (nI (radOn (st 1 (16 * sy + sx)) z)))]) X.1 X.2.1 dX10_falls_185 hl (k := 10) rfl (nI_1 _) (by decide) rfl (fun ls hl => ?_)
                refine lv_goto (tgt := 59) X.1 X.2.1 dX10_falls_188 (by decide) ?_
                have hB := loss_nr hW hNr
                have hE : st 7 k - z = st 7 k - lossB st k sx sy z := by rw [hB]
                have hg : goneB st sx sy z k = true := decide_eq_true (by have := of_decide_eq_true c_174; rw [hB]; omega)
                have hcn : nI (cn (goneB st sx sy z) (k + 1)) = nI (cn (goneB st sx sy z) k) + 1 := by rw [cn_t hg]; exact nI_succ _
                rw [hE] at e171
                exact ih (k + 1) f_171 (upd w7 k (nI (st 7 k - lossB st k sx sy z))) H locs ls (by omega) (by omega) (by rw [e171]; exact md_tr hmk (md_put h7) (fun _ q => q) (fun _ q => q)) (by rw [e171]; exact wu_self _ _ _ _) (fun j hj => by rcases (by omega : j < k ∨ j = k) with q | q; rw [pk_un (by omega)]; exact hdn j q; rw [q]; exact pk_us) (fun j h1 h2 => by rw [pk_un (by omega)]; exact htd j (by omega) h2) S (by rw [hcn]; exact lv_sub hl [5, 6, 7, 8, 9, 10, 1, 0] rfl)
          · refine lv_iload X.1 X.2.1 dX10_falls_90 (lv_at hl 0 rfl) ?_
            refine lv_iload X.1 X.2.1 dX10_falls_92 (lv_at hl 6 rfl) ?_
            refine lv_iload X.1 X.2.1 dX10_falls_94 (lv_at hl 6 rfl) ?_
            refine lv_imul X.1 X.2.1 dX10_falls_96 ?_
            refine r_toi (y := nI ((radOn (st 1 (16 * sy + sx)) z) * (radOn (st 1 (16 * sy + sx)) z))) (pk_mul _ _) ?_
            refine lv_icmp_gt (tgt := 104) X.1 X.2.1 dX10_falls_97 (by decide) (fun c_97 => ?_) (fun c_97 => ?_)
            · have hW : ¬ (st 5 k ≤ (radOn (st 1 (16 * sy + sx)) z) ∧ (sq sx (st 2 k) + sq sy (st 3 k)) ≤ (radOn (st 1 (16 * sy + sx)) z) * (radOn (st 1 (16 * sy + sx)) z)) := fun q => nI_nlt q.2 (by omega) c_97
              refine lv_iconst (v := 0) X.1 X.2.1 dX10_falls_104 (by decide) ?_
              refine lv_istore (lv' := [(9, .int 0), (8, .int (nI (sq sx (st 2 k) + sq sy (st 3 k)))), (0, .ref y), (1, .int (nI sx)), (2, .int (nI sy)), (3, .int (nI z)), (4, .int (nI (st 1 (16 * sy + sx)))), (5, .int (nI (radOn (st 1 (16 * sy + sx)) z))), (6, .int (nI (cn (goneB st sx sy z) k))), (7, .int (nI k))]) X.1 X.2.1 dX10_falls_105 hl (by decide) rfl (fun ls hl => ?_)
              refine lv_iload X.1 X.2.1 dX10_falls_107 (lv_at hl 1 rfl) ?_
              refine lv_aload_n X.1 X.2.1 dX10_falls_109 rfl (lv_at hl 2 rfl) ?_
              refine r_get (C := RX10) (T := TX10) (N := 14) (ref := "CraterclockModel") X S in_RX10 hy_k rfl 4 (by decide) (by decide +kernel) (fun _ h => h) rfl dX10_falls_110 ?_
              refine lv_iload X.1 X.2.1 dX10_falls_113 (lv_at hl 9 rfl) ?_
              refine r_iald (v := (nI (st 5 k))) X S hA5_k (vp_in_nI (show k < 200 by omega) (by omega)) (by rw [nI_clamp (by omega)]; exact (hvk _ hlt_k).2.2.1) dX10_falls_115 ?_
              refine lv_iload X.1 X.2.1 dX10_falls_116 (lv_at hl 7 rfl) ?_
              refine lv_iadd X.1 X.2.1 dX10_falls_118 ?_
              refine r_toi (y := nI (st 5 k + (radOn (st 1 (16 * sy + sx)) z))) (nI_add _ _) ?_
              refine lv_aload_n X.1 X.2.1 dX10_falls_119 rfl (lv_at hl 2 rfl) ?_
              refine r_get (C := RX10) (T := TX10) (N := 14) (ref := "CraterclockModel") X S in_RX10 hy_k rfl 4 (by decide) (by decide +kernel) (fun _ h => h) rfl dX10_falls_120 ?_
              refine lv_iload X.1 X.2.1 dX10_falls_123 (lv_at hl 9 rfl) ?_
              refine r_iald (v := (nI (st 5 k))) X S hA5_k (vp_in_nI (show k < 200 by omega) (by omega)) (by rw [nI_clamp (by omega)]; exact (hvk _ hlt_k).2.2.1) dX10_falls_125 ?_
              refine lv_iload X.1 X.2.1 dX10_falls_126 (lv_at hl 7 rfl) ?_
              refine lv_iadd X.1 X.2.1 dX10_falls_128 ?_
              refine r_toi (y := nI (st 5 k + (radOn (st 1 (16 * sy + sx)) z))) (nI_add _ _) ?_
              refine lv_imul X.1 X.2.1 dX10_falls_129 ?_
              refine r_toi (y := nI ((st 5 k + (radOn (st 1 (16 * sy + sx)) z)) * (st 5 k + (radOn (st 1 (16 * sy + sx)) z)))) (pk_mul _ _) ?_
              refine lv_icmp_gt (tgt := 137) X.1 X.2.1 dX10_falls_130 (by decide) (fun c_130 => ?_) (fun c_130 => ?_)
              · have hNr : ¬ ((sq sx (st 2 k) + sq sy (st 3 k)) ≤ (st 5 k + (radOn (st 1 (16 * sy + sx)) z)) * (st 5 k + (radOn (st 1 (16 * sy + sx)) z))) := fun q => nI_nlt q (by omega) c_130
                refine lv_iconst (v := 0) X.1 X.2.1 dX10_falls_137 (by decide) ?_
                refine lv_istore (lv' := [(10, .int 0), (9, .int 0), (8, .int (nI (sq sx (st 2 k) + sq sy (st 3 k)))), (0, .ref y), (1, .int (nI sx)), (2, .int (nI sy)), (3, .int (nI z)), (4, .int (nI (st 1 (16 * sy + sx)))), (5, .int (nI (radOn (st 1 (16 * sy + sx)) z))), (6, .int (nI (cn (goneB st sx sy z) k))), (7, .int (nI k))]) X.1 X.2.1 dX10_falls_138 hl (by decide) rfl (fun ls hl => ?_)
                refine lv_iload X.1 X.2.1 dX10_falls_140 (lv_at hl 9 rfl) ?_
                refine lv_iload X.1 X.2.1 dX10_falls_142 (lv_at hl 1 rfl) ?_
                refine lv_if_ne (x := 0) (tgt := 152) X.1 X.2.1 dX10_falls_144 (by decide) (fun c_144 => by first | exact absurd c_144 (by decide) | exact absurd (by decide) c_144) (fun c_144 => ?_)
                refine lv_iload X.1 X.2.1 dX10_falls_147 (lv_at hl 0 rfl) ?_
                refine lv_if_eq (x := 0) (tgt := 181) X.1 X.2.1 dX10_falls_149 (by decide) (fun c_149 => ?_) (fun c_149 => by first | exact absurd c_149 (by decide) | exact absurd (by decide) c_149)
                refine lv_iconst (v := 0) X.1 X.2.1 dX10_falls_181 (by decide) ?_
                refine lv_iadd X.1 X.2.1 dX10_falls_182 ?_
                refine lv_istore (lv' := [(6, .int ((nI (cn (goneB st sx sy z) k)) + 0)), (10, .int 0), (9, .int 0), (8, .int (nI (sq sx (st 2 k) + sq sy (st 3 k)))), (0, .ref y), (1, .int (nI sx)), (2, .int (nI sy)), (3, .int (nI z)), (4, .int (nI (st 1 (16 * sy + sx)))), (5, .int (nI (radOn (st 1 (16 * sy + sx)) z))), (7, .int (nI k))]) X.1 X.2.1 dX10_falls_183 hl (by decide) rfl (fun ls hl => ?_)
                refine lv_iinc (v := (nI (k + 1))) (lv' := [(7, .int (nI (k + 1))), (6, .int ((nI (cn (goneB st sx sy z) k)) + 0)), (10, .int 0), (9, .int 0), (8, .int (nI (sq sx (st 2 k) + sq sy (st 3 k)))), (0, .ref y), (1, .int (nI sx)), (2, .int (nI sy)), (3, .int (nI z)), (4, .int (nI (st 1 (16 * sy + sx)))), (5, .int (nI (radOn (st 1 (16 * sy + sx)) z)))]) X.1 X.2.1 dX10_falls_185 hl (k := 10) rfl (nI_1 _) (by decide) rfl (fun ls hl => ?_)
                refine lv_goto (tgt := 59) X.1 X.2.1 dX10_falls_188 (by decide) ?_
                have hB := loss_no hW hNr
                have hg : goneB st sx sy z k = false := decide_eq_false (fun q => by rw [hB] at q; omega)
                have hcn : nI (cn (goneB st sx sy z) (k + 1)) = nI (cn (goneB st sx sy z) k) + 0 := by rw [cn_f hg]; exact (Int32.add_zero _).symm
                exact ih (k + 1) fk w7 H locs ls (by omega) (by omega) hmk h7 (fun j hj => by rcases (by omega : j < k ∨ j = k) with q | q; exact hdn j q; rw [q, hB, Nat.sub_zero]; exact htd k (Nat.le_refl _) hlt_k) (fun j h1 h2 => htd j (by omega) h2) S (by rw [hcn]; exact lv_sub hl [5, 6, 7, 8, 9, 10, 1, 0] rfl)
              · have hNr : ((sq sx (st 2 k) + sq sy (st 3 k)) ≤ (st 5 k + (radOn (st 1 (16 * sy + sx)) z)) * (st 5 k + (radOn (st 1 (16 * sy + sx)) z))) := (nI_leI (by omega) (by omega)).mp (Int32.not_lt.mp c_130)
                refine lv_iconst (v := 1) X.1 X.2.1 dX10_falls_133 (by decide) ?_
                refine lv_goto (tgt := 138) X.1 X.2.1 dX10_falls_134 (by decide) ?_
                refine lv_istore (lv' := [(10, .int 1), (9, .int 0), (8, .int (nI (sq sx (st 2 k) + sq sy (st 3 k)))), (0, .ref y), (1, .int (nI sx)), (2, .int (nI sy)), (3, .int (nI z)), (4, .int (nI (st 1 (16 * sy + sx)))), (5, .int (nI (radOn (st 1 (16 * sy + sx)) z))), (6, .int (nI (cn (goneB st sx sy z) k))), (7, .int (nI k))]) X.1 X.2.1 dX10_falls_138 hl (by decide) rfl (fun ls hl => ?_)
                refine lv_iload X.1 X.2.1 dX10_falls_140 (lv_at hl 9 rfl) ?_
                refine lv_iload X.1 X.2.1 dX10_falls_142 (lv_at hl 1 rfl) ?_
                refine lv_if_ne (x := 0) (tgt := 152) X.1 X.2.1 dX10_falls_144 (by decide) (fun c_144 => by first | exact absurd c_144 (by decide) | exact absurd (by decide) c_144) (fun c_144 => ?_)
                refine lv_iload X.1 X.2.1 dX10_falls_147 (lv_at hl 0 rfl) ?_
                refine lv_if_eq (x := 1) (tgt := 181) X.1 X.2.1 dX10_falls_149 (by decide) (fun c_149 => by first | exact absurd c_149 (by decide) | exact absurd (by decide) c_149) (fun c_149 => ?_)
                refine lv_aload_n X.1 X.2.1 dX10_falls_152 rfl (lv_at hl 3 rfl) ?_
                refine lv_iload X.1 X.2.1 dX10_falls_153 (lv_at hl 10 rfl) ?_
                refine lv_iload X.1 X.2.1 dX10_falls_155 (lv_at hl 1 rfl) ?_
                refine lv_if_eq (x := 0) (tgt := 170) X.1 X.2.1 dX10_falls_157 (by decide) (fun c_157 => ?_) (fun c_157 => by first | exact absurd c_157 (by decide) | exact absurd (by decide) c_157)
                refine lv_iload_n X.1 X.2.1 dX10_falls_170 rfl (lv_at hl 6 rfl) ?_
                refine call_i (run_V X S (n_lessens l G fk y A (nI (st 0 0)) (nI (st 0 4)) (nI (st 0 1)) (nI (st 0 2)) (nI (st 0 3)) thr hy_k w7 h7 k (st 7 k) z (by omega) (by omega) (by omega) (htd k (Nat.le_refl _) hlt_k)) 2 gX10_falls_X10_lessens rfl rfl rfl (by decide +kernel) ⟨(by exact Nat.le_of_ble_eq_true rfl), (by exact Nat.le_of_ble_eq_true rfl)⟩ ⟨_, _, hy_k⟩ rfl rfl rfl hl.1 rfl (by exact Nat.le_of_ble_eq_true rfl) dX10_falls_171 ⟨(by exact Nat.le_of_ble_eq_true rfl), (by exact Nat.le_of_ble_eq_true rfl)⟩) S (fun r_171 f_171 H locs hr_171 S => ?_)
                obtain ⟨rfl, e171⟩ := hr_171
                refine r_eqB (tgt := 181) X dX10_falls_174 (by decide) (fun c_174 => ?_) (fun c_174 => ?_)
                · refine lv_iconst (v := 0) X.1 X.2.1 dX10_falls_181 (by decide) ?_
                  refine lv_iadd X.1 X.2.1 dX10_falls_182 ?_
                  refine lv_istore (lv' := [(6, .int ((nI (cn (goneB st sx sy z) k)) + 0)), (10, .int 1), (9, .int 0), (8, .int (nI (sq sx (st 2 k) + sq sy (st 3 k)))), (0, .ref y), (1, .int (nI sx)), (2, .int (nI sy)), (3, .int (nI z)), (4, .int (nI (st 1 (16 * sy + sx)))), (5, .int (nI (radOn (st 1 (16 * sy + sx)) z))), (7, .int (nI k))]) X.1 X.2.1 dX10_falls_183 hl (by decide) rfl (fun ls hl => ?_)
                  refine lv_iinc (v := (nI (k + 1))) (lv' := [(7, .int (nI (k + 1))), (6, .int ((nI (cn (goneB st sx sy z) k)) + 0)), (10, .int 1), (9, .int 0), (8, .int (nI (sq sx (st 2 k) + sq sy (st 3 k)))), (0, .ref y), (1, .int (nI sx)), (2, .int (nI sy)), (3, .int (nI z)), (4, .int (nI (st 1 (16 * sy + sx)))), (5, .int (nI (radOn (st 1 (16 * sy + sx)) z)))]) X.1 X.2.1 dX10_falls_185 hl (k := 10) rfl (nI_1 _) (by decide) rfl (fun ls hl => ?_)
                  refine lv_goto (tgt := 59) X.1 X.2.1 dX10_falls_188 (by decide) ?_
                  have hB := loss_nr hW hNr
                  have hE : st 7 k - z = st 7 k - lossB st k sx sy z := by rw [hB]
                  have hg : goneB st sx sy z k = false := decide_eq_false (fun q => by rw [hB] at q; exact of_decide_eq_false c_174 (by omega))
                  have hcn : nI (cn (goneB st sx sy z) (k + 1)) = nI (cn (goneB st sx sy z) k) + 0 := by rw [cn_f hg]; exact (Int32.add_zero _).symm
                  rw [hE] at e171
                  exact ih (k + 1) f_171 (upd w7 k (nI (st 7 k - lossB st k sx sy z))) H locs ls (by omega) (by omega) (by rw [e171]; exact md_tr hmk (md_put h7) (fun _ q => q) (fun _ q => q)) (by rw [e171]; exact wu_self _ _ _ _) (fun j hj => by rcases (by omega : j < k ∨ j = k) with q | q; rw [pk_un (by omega)]; exact hdn j q; rw [q]; exact pk_us) (fun j h1 h2 => by rw [pk_un (by omega)]; exact htd j (by omega) h2) S (by rw [hcn]; exact lv_sub hl [5, 6, 7, 8, 9, 10, 1, 0] rfl)
                · refine lv_iconst (v := 1) X.1 X.2.1 dX10_falls_177 (by decide) ?_
                  refine lv_goto (tgt := 182) X.1 X.2.1 dX10_falls_178 (by decide) ?_
                  refine lv_iadd X.1 X.2.1 dX10_falls_182 ?_
                  refine lv_istore (lv' := [(6, .int ((nI (cn (goneB st sx sy z) k)) + 1)), (10, .int 1), (9, .int 0), (8, .int (nI (sq sx (st 2 k) + sq sy (st 3 k)))), (0, .ref y), (1, .int (nI sx)), (2, .int (nI sy)), (3, .int (nI z)), (4, .int (nI (st 1 (16 * sy + sx)))), (5, .int (nI (radOn (st 1 (16 * sy + sx)) z))), (7, .int (nI k))]) X.1 X.2.1 dX10_falls_183 hl (by decide) rfl (fun ls hl => ?_)
                  refine lv_iinc (v := (nI (k + 1))) (lv' := [(7, .int (nI (k + 1))), (6, .int ((nI (cn (goneB st sx sy z) k)) + 1)), (10, .int 1), (9, .int 0), (8, .int (nI (sq sx (st 2 k) + sq sy (st 3 k)))), (0, .ref y), (1, .int (nI sx)), (2, .int (nI sy)), (3, .int (nI z)), (4, .int (nI (st 1 (16 * sy + sx)))), (5, .int (nI (radOn (st 1 (16 * sy + sx)) z)))]) X.1 X.2.1 dX10_falls_185 hl (k := 10) rfl (nI_1 _) (by decide) rfl (fun ls hl => ?_)
                  refine lv_goto (tgt := 59) X.1 X.2.1 dX10_falls_188 (by decide) ?_
                  have hB := loss_nr hW hNr
                  have hE : st 7 k - z = st 7 k - lossB st k sx sy z := by rw [hB]
                  have hg : goneB st sx sy z k = true := decide_eq_true (by have := of_decide_eq_true c_174; rw [hB]; omega)
                  have hcn : nI (cn (goneB st sx sy z) (k + 1)) = nI (cn (goneB st sx sy z) k) + 1 := by rw [cn_t hg]; exact nI_succ _
                  rw [hE] at e171
                  exact ih (k + 1) f_171 (upd w7 k (nI (st 7 k - lossB st k sx sy z))) H locs ls (by omega) (by omega) (by rw [e171]; exact md_tr hmk (md_put h7) (fun _ q => q) (fun _ q => q)) (by rw [e171]; exact wu_self _ _ _ _) (fun j hj => by rcases (by omega : j < k ∨ j = k) with q | q; rw [pk_un (by omega)]; exact hdn j q; rw [q]; exact pk_us) (fun j h1 h2 => by rw [pk_un (by omega)]; exact htd j (by omega) h2) S (by rw [hcn]; exact lv_sub hl [5, 6, 7, 8, 9, 10, 1, 0] rfl)
            · have hW : (st 5 k ≤ (radOn (st 1 (16 * sy + sx)) z) ∧ (sq sx (st 2 k) + sq sy (st 3 k)) ≤ (radOn (st 1 (16 * sy + sx)) z) * (radOn (st 1 (16 * sy + sx)) z)) := ⟨(nI_leI (by omega) (by omega)).mp (Int32.not_lt.mp c_87), (nI_leI (by omega) (by omega)).mp (Int32.not_lt.mp c_97)⟩
              refine lv_iconst (v := 1) X.1 X.2.1 dX10_falls_100 (by decide) ?_
              refine lv_goto (tgt := 105) X.1 X.2.1 dX10_falls_101 (by decide) ?_
              refine lv_istore (lv' := [(9, .int 1), (8, .int (nI (sq sx (st 2 k) + sq sy (st 3 k)))), (0, .ref y), (1, .int (nI sx)), (2, .int (nI sy)), (3, .int (nI z)), (4, .int (nI (st 1 (16 * sy + sx)))), (5, .int (nI (radOn (st 1 (16 * sy + sx)) z))), (6, .int (nI (cn (goneB st sx sy z) k))), (7, .int (nI k))]) X.1 X.2.1 dX10_falls_105 hl (by decide) rfl (fun ls hl => ?_)
              refine lv_iload X.1 X.2.1 dX10_falls_107 (lv_at hl 1 rfl) ?_
              refine lv_aload_n X.1 X.2.1 dX10_falls_109 rfl (lv_at hl 2 rfl) ?_
              refine r_get (C := RX10) (T := TX10) (N := 14) (ref := "CraterclockModel") X S in_RX10 hy_k rfl 4 (by decide) (by decide +kernel) (fun _ h => h) rfl dX10_falls_110 ?_
              refine lv_iload X.1 X.2.1 dX10_falls_113 (lv_at hl 9 rfl) ?_
              refine r_iald (v := (nI (st 5 k))) X S hA5_k (vp_in_nI (show k < 200 by omega) (by omega)) (by rw [nI_clamp (by omega)]; exact (hvk _ hlt_k).2.2.1) dX10_falls_115 ?_
              refine lv_iload X.1 X.2.1 dX10_falls_116 (lv_at hl 7 rfl) ?_
              refine lv_iadd X.1 X.2.1 dX10_falls_118 ?_
              refine r_toi (y := nI (st 5 k + (radOn (st 1 (16 * sy + sx)) z))) (nI_add _ _) ?_
              refine lv_aload_n X.1 X.2.1 dX10_falls_119 rfl (lv_at hl 2 rfl) ?_
              refine r_get (C := RX10) (T := TX10) (N := 14) (ref := "CraterclockModel") X S in_RX10 hy_k rfl 4 (by decide) (by decide +kernel) (fun _ h => h) rfl dX10_falls_120 ?_
              refine lv_iload X.1 X.2.1 dX10_falls_123 (lv_at hl 9 rfl) ?_
              refine r_iald (v := (nI (st 5 k))) X S hA5_k (vp_in_nI (show k < 200 by omega) (by omega)) (by rw [nI_clamp (by omega)]; exact (hvk _ hlt_k).2.2.1) dX10_falls_125 ?_
              refine lv_iload X.1 X.2.1 dX10_falls_126 (lv_at hl 7 rfl) ?_
              refine lv_iadd X.1 X.2.1 dX10_falls_128 ?_
              refine r_toi (y := nI (st 5 k + (radOn (st 1 (16 * sy + sx)) z))) (nI_add _ _) ?_
              refine lv_imul X.1 X.2.1 dX10_falls_129 ?_
              refine r_toi (y := nI ((st 5 k + (radOn (st 1 (16 * sy + sx)) z)) * (st 5 k + (radOn (st 1 (16 * sy + sx)) z)))) (pk_mul _ _) ?_
              refine lv_icmp_gt (tgt := 137) X.1 X.2.1 dX10_falls_130 (by decide) (fun c_130 => ?_) (fun c_130 => ?_)
              · have hNr : ¬ ((sq sx (st 2 k) + sq sy (st 3 k)) ≤ (st 5 k + (radOn (st 1 (16 * sy + sx)) z)) * (st 5 k + (radOn (st 1 (16 * sy + sx)) z))) := fun q => nI_nlt q (by omega) c_130
                refine lv_iconst (v := 0) X.1 X.2.1 dX10_falls_137 (by decide) ?_
                refine lv_istore (lv' := [(10, .int 0), (9, .int 1), (8, .int (nI (sq sx (st 2 k) + sq sy (st 3 k)))), (0, .ref y), (1, .int (nI sx)), (2, .int (nI sy)), (3, .int (nI z)), (4, .int (nI (st 1 (16 * sy + sx)))), (5, .int (nI (radOn (st 1 (16 * sy + sx)) z))), (6, .int (nI (cn (goneB st sx sy z) k))), (7, .int (nI k))]) X.1 X.2.1 dX10_falls_138 hl (by decide) rfl (fun ls hl => ?_)
                refine lv_iload X.1 X.2.1 dX10_falls_140 (lv_at hl 9 rfl) ?_
                refine lv_iload X.1 X.2.1 dX10_falls_142 (lv_at hl 1 rfl) ?_
                refine lv_if_ne (x := 1) (tgt := 152) X.1 X.2.1 dX10_falls_144 (by decide) (fun c_144 => ?_) (fun c_144 => by first | exact absurd c_144 (by decide) | exact absurd (by decide) c_144)
                refine lv_aload_n X.1 X.2.1 dX10_falls_152 rfl (lv_at hl 3 rfl) ?_
                refine lv_iload X.1 X.2.1 dX10_falls_153 (lv_at hl 10 rfl) ?_
                refine lv_iload X.1 X.2.1 dX10_falls_155 (lv_at hl 1 rfl) ?_
                refine lv_if_eq (x := 1) (tgt := 170) X.1 X.2.1 dX10_falls_157 (by decide) (fun c_157 => by first | exact absurd c_157 (by decide) | exact absurd (by decide) c_157) (fun c_157 => ?_)
                refine lv_aload_n X.1 X.2.1 dX10_falls_160 rfl (lv_at hl 3 rfl) ?_
                refine r_get (C := RX10) (T := TX10) (N := 14) (ref := "CraterclockModel") X S in_RX10 hy_k rfl 5 (by decide) (by decide +kernel) (fun _ h => h) rfl dX10_falls_161 ?_
                refine lv_iload X.1 X.2.1 dX10_falls_164 (lv_at hl 10 rfl) ?_
                refine r_iald (v := (nI (st 7 k))) X S h7 (vp_in_nI (show k < 200 by omega) (by omega)) (by rw [nI_clamp (by omega)]; exact htd k (Nat.le_refl _) hlt_k) dX10_falls_166 ?_
                refine lv_goto (tgt := 171) X.1 X.2.1 dX10_falls_167 (by decide) ?_
                refine call_i (run_V X S (n_lessens l G fk y A (nI (st 0 0)) (nI (st 0 4)) (nI (st 0 1)) (nI (st 0 2)) (nI (st 0 3)) thr hy_k w7 h7 k (st 7 k) (st 7 k) (by omega) (by omega) (by omega) (htd k (Nat.le_refl _) hlt_k)) 2 gX10_falls_X10_lessens rfl rfl rfl (by decide +kernel) ⟨(by exact Nat.le_of_ble_eq_true rfl), (by exact Nat.le_of_ble_eq_true rfl)⟩ ⟨_, _, hy_k⟩ rfl rfl rfl hl.1 rfl (by exact Nat.le_of_ble_eq_true rfl) dX10_falls_171 ⟨(by exact Nat.le_of_ble_eq_true rfl), (by exact Nat.le_of_ble_eq_true rfl)⟩) S (fun r_171 f_171 H locs hr_171 S => ?_)
                obtain ⟨rfl, e171⟩ := hr_171
                refine r_eqB (tgt := 181) X dX10_falls_174 (by decide) (fun c_174 => ?_) (fun c_174 => ?_)
                · refine lv_iconst (v := 0) X.1 X.2.1 dX10_falls_181 (by decide) ?_
                  refine lv_iadd X.1 X.2.1 dX10_falls_182 ?_
                  refine lv_istore (lv' := [(6, .int ((nI (cn (goneB st sx sy z) k)) + 0)), (10, .int 0), (9, .int 1), (8, .int (nI (sq sx (st 2 k) + sq sy (st 3 k)))), (0, .ref y), (1, .int (nI sx)), (2, .int (nI sy)), (3, .int (nI z)), (4, .int (nI (st 1 (16 * sy + sx)))), (5, .int (nI (radOn (st 1 (16 * sy + sx)) z))), (7, .int (nI k))]) X.1 X.2.1 dX10_falls_183 hl (by decide) rfl (fun ls hl => ?_)
                  refine lv_iinc (v := (nI (k + 1))) (lv' := [(7, .int (nI (k + 1))), (6, .int ((nI (cn (goneB st sx sy z) k)) + 0)), (10, .int 0), (9, .int 1), (8, .int (nI (sq sx (st 2 k) + sq sy (st 3 k)))), (0, .ref y), (1, .int (nI sx)), (2, .int (nI sy)), (3, .int (nI z)), (4, .int (nI (st 1 (16 * sy + sx)))), (5, .int (nI (radOn (st 1 (16 * sy + sx)) z)))]) X.1 X.2.1 dX10_falls_185 hl (k := 10) rfl (nI_1 _) (by decide) rfl (fun ls hl => ?_)
                  refine lv_goto (tgt := 59) X.1 X.2.1 dX10_falls_188 (by decide) ?_
                  have hB := loss_in hW
                  have hE : st 7 k - st 7 k = st 7 k - lossB st k sx sy z := by rw [hB]; omega
                  have hg : goneB st sx sy z k = false := decide_eq_false (fun q => by rw [hB] at q; exact of_decide_eq_false c_174 (by omega))
                  have hcn : nI (cn (goneB st sx sy z) (k + 1)) = nI (cn (goneB st sx sy z) k) + 0 := by rw [cn_f hg]; exact (Int32.add_zero _).symm
                  rw [hE] at e171
                  exact ih (k + 1) f_171 (upd w7 k (nI (st 7 k - lossB st k sx sy z))) H locs ls (by omega) (by omega) (by rw [e171]; exact md_tr hmk (md_put h7) (fun _ q => q) (fun _ q => q)) (by rw [e171]; exact wu_self _ _ _ _) (fun j hj => by rcases (by omega : j < k ∨ j = k) with q | q; rw [pk_un (by omega)]; exact hdn j q; rw [q]; exact pk_us) (fun j h1 h2 => by rw [pk_un (by omega)]; exact htd j (by omega) h2) S (by rw [hcn]; exact lv_sub hl [5, 6, 7, 8, 9, 10, 1, 0] rfl)
                · refine lv_iconst (v := 1) X.1 X.2.1 dX10_falls_177 (by decide) ?_
                  refine lv_goto (tgt := 182) X.1 X.2.1 dX10_falls_178 (by decide) ?_
                  refine lv_iadd X.1 X.2.1 dX10_falls_182 ?_
                  refine lv_istore (lv' := [(6, .int ((nI (cn (goneB st sx sy z) k)) + 1)), (10, .int 0), (9, .int 1), (8, .int (nI (sq sx (st 2 k) + sq sy (st 3 k)))), (0, .ref y), (1, .int (nI sx)), (2, .int (nI sy)), (3, .int (nI z)), (4, .int (nI (st 1 (16 * sy + sx)))), (5, .int (nI (radOn (st 1 (16 * sy + sx)) z))), (7, .int (nI k))]) X.1 X.2.1 dX10_falls_183 hl (by decide) rfl (fun ls hl => ?_)
                  refine lv_iinc (v := (nI (k + 1))) (lv' := [(7, .int (nI (k + 1))), (6, .int ((nI (cn (goneB st sx sy z) k)) + 1)), (10, .int 0), (9, .int 1), (8, .int (nI (sq sx (st 2 k) + sq sy (st 3 k)))), (0, .ref y), (1, .int (nI sx)), (2, .int (nI sy)), (3, .int (nI z)), (4, .int (nI (st 1 (16 * sy + sx)))), (5, .int (nI (radOn (st 1 (16 * sy + sx)) z)))]) X.1 X.2.1 dX10_falls_185 hl (k := 10) rfl (nI_1 _) (by decide) rfl (fun ls hl => ?_)
                  refine lv_goto (tgt := 59) X.1 X.2.1 dX10_falls_188 (by decide) ?_
                  have hB := loss_in hW
                  have hE : st 7 k - st 7 k = st 7 k - lossB st k sx sy z := by rw [hB]; omega
                  have hg : goneB st sx sy z k = true := decide_eq_true (by have := of_decide_eq_true c_174; rw [hB]; omega)
                  have hcn : nI (cn (goneB st sx sy z) (k + 1)) = nI (cn (goneB st sx sy z) k) + 1 := by rw [cn_t hg]; exact nI_succ _
                  rw [hE] at e171
                  exact ih (k + 1) f_171 (upd w7 k (nI (st 7 k - lossB st k sx sy z))) H locs ls (by omega) (by omega) (by rw [e171]; exact md_tr hmk (md_put h7) (fun _ q => q) (fun _ q => q)) (by rw [e171]; exact wu_self _ _ _ _) (fun j hj => by rcases (by omega : j < k ∨ j = k) with q | q; rw [pk_un (by omega)]; exact hdn j q; rw [q]; exact pk_us) (fun j h1 h2 => by rw [pk_un (by omega)]; exact htd j (by omega) h2) S (by rw [hcn]; exact lv_sub hl [5, 6, 7, 8, 9, 10, 1, 0] rfl)
              · have hNr : ((sq sx (st 2 k) + sq sy (st 3 k)) ≤ (st 5 k + (radOn (st 1 (16 * sy + sx)) z)) * (st 5 k + (radOn (st 1 (16 * sy + sx)) z))) := (nI_leI (by omega) (by omega)).mp (Int32.not_lt.mp c_130)
                refine lv_iconst (v := 1) X.1 X.2.1 dX10_falls_133 (by decide) ?_
                refine lv_goto (tgt := 138) X.1 X.2.1 dX10_falls_134 (by decide) ?_
                refine lv_istore (lv' := [(10, .int 1), (9, .int 1), (8, .int (nI (sq sx (st 2 k) + sq sy (st 3 k)))), (0, .ref y), (1, .int (nI sx)), (2, .int (nI sy)), (3, .int (nI z)), (4, .int (nI (st 1 (16 * sy + sx)))), (5, .int (nI (radOn (st 1 (16 * sy + sx)) z))), (6, .int (nI (cn (goneB st sx sy z) k))), (7, .int (nI k))]) X.1 X.2.1 dX10_falls_138 hl (by decide) rfl (fun ls hl => ?_)
                refine lv_iload X.1 X.2.1 dX10_falls_140 (lv_at hl 9 rfl) ?_
                refine lv_iload X.1 X.2.1 dX10_falls_142 (lv_at hl 1 rfl) ?_
                refine lv_if_ne (x := 1) (tgt := 152) X.1 X.2.1 dX10_falls_144 (by decide) (fun c_144 => ?_) (fun c_144 => by first | exact absurd c_144 (by decide) | exact absurd (by decide) c_144)
                refine lv_aload_n X.1 X.2.1 dX10_falls_152 rfl (lv_at hl 3 rfl) ?_
                refine lv_iload X.1 X.2.1 dX10_falls_153 (lv_at hl 10 rfl) ?_
                refine lv_iload X.1 X.2.1 dX10_falls_155 (lv_at hl 1 rfl) ?_
                refine lv_if_eq (x := 1) (tgt := 170) X.1 X.2.1 dX10_falls_157 (by decide) (fun c_157 => by first | exact absurd c_157 (by decide) | exact absurd (by decide) c_157) (fun c_157 => ?_)
                refine lv_aload_n X.1 X.2.1 dX10_falls_160 rfl (lv_at hl 3 rfl) ?_
                refine r_get (C := RX10) (T := TX10) (N := 14) (ref := "CraterclockModel") X S in_RX10 hy_k rfl 5 (by decide) (by decide +kernel) (fun _ h => h) rfl dX10_falls_161 ?_
                refine lv_iload X.1 X.2.1 dX10_falls_164 (lv_at hl 10 rfl) ?_
                refine r_iald (v := (nI (st 7 k))) X S h7 (vp_in_nI (show k < 200 by omega) (by omega)) (by rw [nI_clamp (by omega)]; exact htd k (Nat.le_refl _) hlt_k) dX10_falls_166 ?_
                refine lv_goto (tgt := 171) X.1 X.2.1 dX10_falls_167 (by decide) ?_
                refine call_i (run_V X S (n_lessens l G fk y A (nI (st 0 0)) (nI (st 0 4)) (nI (st 0 1)) (nI (st 0 2)) (nI (st 0 3)) thr hy_k w7 h7 k (st 7 k) (st 7 k) (by omega) (by omega) (by omega) (htd k (Nat.le_refl _) hlt_k)) 2 gX10_falls_X10_lessens rfl rfl rfl (by decide +kernel) ⟨(by exact Nat.le_of_ble_eq_true rfl), (by exact Nat.le_of_ble_eq_true rfl)⟩ ⟨_, _, hy_k⟩ rfl rfl rfl hl.1 rfl (by exact Nat.le_of_ble_eq_true rfl) dX10_falls_171 ⟨(by exact Nat.le_of_ble_eq_true rfl), (by exact Nat.le_of_ble_eq_true rfl)⟩) S (fun r_171 f_171 H locs hr_171 S => ?_)
                obtain ⟨rfl, e171⟩ := hr_171
                refine r_eqB (tgt := 181) X dX10_falls_174 (by decide) (fun c_174 => ?_) (fun c_174 => ?_)
                · refine lv_iconst (v := 0) X.1 X.2.1 dX10_falls_181 (by decide) ?_
                  refine lv_iadd X.1 X.2.1 dX10_falls_182 ?_
                  refine lv_istore (lv' := [(6, .int ((nI (cn (goneB st sx sy z) k)) + 0)), (10, .int 1), (9, .int 1), (8, .int (nI (sq sx (st 2 k) + sq sy (st 3 k)))), (0, .ref y), (1, .int (nI sx)), (2, .int (nI sy)), (3, .int (nI z)), (4, .int (nI (st 1 (16 * sy + sx)))), (5, .int (nI (radOn (st 1 (16 * sy + sx)) z))), (7, .int (nI k))]) X.1 X.2.1 dX10_falls_183 hl (by decide) rfl (fun ls hl => ?_)
                  refine lv_iinc (v := (nI (k + 1))) (lv' := [(7, .int (nI (k + 1))), (6, .int ((nI (cn (goneB st sx sy z) k)) + 0)), (10, .int 1), (9, .int 1), (8, .int (nI (sq sx (st 2 k) + sq sy (st 3 k)))), (0, .ref y), (1, .int (nI sx)), (2, .int (nI sy)), (3, .int (nI z)), (4, .int (nI (st 1 (16 * sy + sx)))), (5, .int (nI (radOn (st 1 (16 * sy + sx)) z)))]) X.1 X.2.1 dX10_falls_185 hl (k := 10) rfl (nI_1 _) (by decide) rfl (fun ls hl => ?_)
                  refine lv_goto (tgt := 59) X.1 X.2.1 dX10_falls_188 (by decide) ?_
                  have hB := loss_in hW
                  have hE : st 7 k - st 7 k = st 7 k - lossB st k sx sy z := by rw [hB]; omega
                  have hg : goneB st sx sy z k = false := decide_eq_false (fun q => by rw [hB] at q; exact of_decide_eq_false c_174 (by omega))
                  have hcn : nI (cn (goneB st sx sy z) (k + 1)) = nI (cn (goneB st sx sy z) k) + 0 := by rw [cn_f hg]; exact (Int32.add_zero _).symm
                  rw [hE] at e171
                  exact ih (k + 1) f_171 (upd w7 k (nI (st 7 k - lossB st k sx sy z))) H locs ls (by omega) (by omega) (by rw [e171]; exact md_tr hmk (md_put h7) (fun _ q => q) (fun _ q => q)) (by rw [e171]; exact wu_self _ _ _ _) (fun j hj => by rcases (by omega : j < k ∨ j = k) with q | q; rw [pk_un (by omega)]; exact hdn j q; rw [q]; exact pk_us) (fun j h1 h2 => by rw [pk_un (by omega)]; exact htd j (by omega) h2) S (by rw [hcn]; exact lv_sub hl [5, 6, 7, 8, 9, 10, 1, 0] rfl)
                · refine lv_iconst (v := 1) X.1 X.2.1 dX10_falls_177 (by decide) ?_
                  refine lv_goto (tgt := 182) X.1 X.2.1 dX10_falls_178 (by decide) ?_
                  refine lv_iadd X.1 X.2.1 dX10_falls_182 ?_
                  refine lv_istore (lv' := [(6, .int ((nI (cn (goneB st sx sy z) k)) + 1)), (10, .int 1), (9, .int 1), (8, .int (nI (sq sx (st 2 k) + sq sy (st 3 k)))), (0, .ref y), (1, .int (nI sx)), (2, .int (nI sy)), (3, .int (nI z)), (4, .int (nI (st 1 (16 * sy + sx)))), (5, .int (nI (radOn (st 1 (16 * sy + sx)) z))), (7, .int (nI k))]) X.1 X.2.1 dX10_falls_183 hl (by decide) rfl (fun ls hl => ?_)
                  refine lv_iinc (v := (nI (k + 1))) (lv' := [(7, .int (nI (k + 1))), (6, .int ((nI (cn (goneB st sx sy z) k)) + 1)), (10, .int 1), (9, .int 1), (8, .int (nI (sq sx (st 2 k) + sq sy (st 3 k)))), (0, .ref y), (1, .int (nI sx)), (2, .int (nI sy)), (3, .int (nI z)), (4, .int (nI (st 1 (16 * sy + sx)))), (5, .int (nI (radOn (st 1 (16 * sy + sx)) z)))]) X.1 X.2.1 dX10_falls_185 hl (k := 10) rfl (nI_1 _) (by decide) rfl (fun ls hl => ?_)
                  refine lv_goto (tgt := 59) X.1 X.2.1 dX10_falls_188 (by decide) ?_
                  have hB := loss_in hW
                  have hE : st 7 k - st 7 k = st 7 k - lossB st k sx sy z := by rw [hB]; omega
                  have hg : goneB st sx sy z k = true := decide_eq_true (by have := of_decide_eq_true c_174; rw [hB]; omega)
                  have hcn : nI (cn (goneB st sx sy z) (k + 1)) = nI (cn (goneB st sx sy z) k) + 1 := by rw [cn_t hg]; exact nI_succ _
                  rw [hE] at e171
                  exact ih (k + 1) f_171 (upd w7 k (nI (st 7 k - lossB st k sx sy z))) H locs ls (by omega) (by omega) (by rw [e171]; exact md_tr hmk (md_put h7) (fun _ q => q) (fun _ q => q)) (by rw [e171]; exact wu_self _ _ _ _) (fun j hj => by rcases (by omega : j < k ∨ j = k) with q | q; rw [pk_un (by omega)]; exact hdn j q; rw [q]; exact pk_us) (fun j h1 h2 => by rw [pk_un (by omega)]; exact htd j (by omega) h2) S (by rw [hcn]; exact lv_sub hl [5, 6, 7, 8, 9, 10, 1, 0] rfl)
    exact loop (st 0 0 + 1) 0 f (V 7) _ _ _ (by omega) (by omega) (md_rf _ _) hA7 (fun j hj => absurd hj (Nat.not_lt_zero j)) (fun j _ hj => (hvk j hj).2.2.2) S (lv_sub hl [2, 3, 4, 5, 6, 7, 1, 0] rfl)
  refine lv_iload X.1 X.2.1 dX10_falls_13 (lv_at hl 0 rfl) ?_
  refine lv_if_ne (tgt := 22) X.1 X.2.1 dX10_falls_15 (by decide) (fun c_15 => ?_) (fun c_15 => ?_)
  · have hg0 : (st 1 (16 * sy + sx)) ≠ 0 := fun q => c_15 (by rw [q]; rfl)
    refine lv_iload X.1 X.2.1 dX10_falls_22 (lv_at hl 0 rfl) ?_
    refine lv_iconst (v := 1) X.1 X.2.1 dX10_falls_24 (by decide) ?_
    refine lv_icmp_ne (tgt := 34) X.1 X.2.1 dX10_falls_25 (by decide) (fun c_25 => ?_) (fun c_25 => ?_)
    · have hg1 : (st 1 (16 * sy + sx)) ≠ 1 := fun q => c_25 (by rw [q]; rfl)
      refine lv_iload_n X.1 X.2.1 dX10_falls_34 rfl (lv_at hl 4 rfl) ?_
      refine lv_iconst (v := 1) X.1 X.2.1 dX10_falls_35 (by decide) ?_
      refine lv_iadd X.1 X.2.1 dX10_falls_36 ?_
      refine r_toi (y := nI (z + 1)) (nI_1 _) ?_
      refine lv_istore (lv' := [(5, .int (nI (z + 1))), (4, .int (nI (st 1 (16 * sy + sx)))), (0, .ref y), (1, .int (nI sx)), (2, .int (nI sy)), (3, .int (nI z))]) X.1 X.2.1 dX10_falls_37 hl (by decide) rfl (fun ls hl => ?_)
      refine lv_iload X.1 X.2.1 dX10_falls_39 (lv_at hl 0 rfl) ?_
      refine lv_iconst (v := 1) X.1 X.2.1 dX10_falls_41 (by decide) ?_
      refine lv_icmp_ge (tgt := 49) X.1 X.2.1 dX10_falls_42 (by decide) (fun c_42 => ?_) (fun c_42 => ?_)
      · refine lv_iload X.1 X.2.1 dX10_falls_49 (lv_at hl 0 rfl) ?_
        refine lv_istore (lv' := [(5, .int (nI (z + 1))), (4, .int (nI (st 1 (16 * sy + sx)))), (0, .ref y), (1, .int (nI sx)), (2, .int (nI sy)), (3, .int (nI z))]) X.1 X.2.1 dX10_falls_51 hl (by decide) rfl (fun ls hl => ?_)
        exact J53 _ _ ls True.intro S (by rw [show nI (radOn (st 1 (16 * sy + sx)) z) = nI (z + 1) from by unfold radOn; rw [if_neg hg1, if_pos (by omega)]]; exact lv_sub hl [2, 3, 4, 5, 1, 0] rfl)
      · refine lv_iconst (v := 1) X.1 X.2.1 dX10_falls_45 (by decide) ?_
        refine lv_goto (tgt := 51) X.1 X.2.1 dX10_falls_46 (by decide) ?_
        refine lv_istore (lv' := [(5, .int 1), (4, .int (nI (st 1 (16 * sy + sx)))), (0, .ref y), (1, .int (nI sx)), (2, .int (nI sy)), (3, .int (nI z))]) X.1 X.2.1 dX10_falls_51 hl (by decide) rfl (fun ls hl => ?_)
        exact absurd (nI_le (a := 1) (by omega) (by omega)) c_42
    · have hg1 : (st 1 (16 * sy + sx)) = 1 := (nI_eq (b := 1) (by omega) (by omega)).mp c_25
      refine lv_iload_n X.1 X.2.1 dX10_falls_28 rfl (lv_at hl 4 rfl) ?_
      refine lv_iconst (v := 1) X.1 X.2.1 dX10_falls_29 (by decide) ?_
      refine lv_isub X.1 X.2.1 dX10_falls_30 ?_
      refine r_toi (y := nI (z - 1)) (nI_m1 hz1) ?_
      refine lv_goto (tgt := 37) X.1 X.2.1 dX10_falls_31 (by decide) ?_
      refine lv_istore (lv' := [(5, .int (nI (z - 1))), (4, .int (nI (st 1 (16 * sy + sx)))), (0, .ref y), (1, .int (nI sx)), (2, .int (nI sy)), (3, .int (nI z))]) X.1 X.2.1 dX10_falls_37 hl (by decide) rfl (fun ls hl => ?_)
      refine lv_iload X.1 X.2.1 dX10_falls_39 (lv_at hl 0 rfl) ?_
      refine lv_iconst (v := 1) X.1 X.2.1 dX10_falls_41 (by decide) ?_
      refine lv_icmp_ge (tgt := 49) X.1 X.2.1 dX10_falls_42 (by decide) (fun c_42 => ?_) (fun c_42 => ?_)
      · refine lv_iload X.1 X.2.1 dX10_falls_49 (lv_at hl 0 rfl) ?_
        refine lv_istore (lv' := [(5, .int (nI (z - 1))), (4, .int (nI (st 1 (16 * sy + sx)))), (0, .ref y), (1, .int (nI sx)), (2, .int (nI sy)), (3, .int (nI z))]) X.1 X.2.1 dX10_falls_51 hl (by decide) rfl (fun ls hl => ?_)
        exact J53 _ _ ls True.intro S (by rw [show nI (radOn (st 1 (16 * sy + sx)) z) = nI (z - 1) from by have h42 : 1 ≤ z - 1 := (nI_leI (a := 1) (by omega) (by omega)).mp c_42; unfold radOn; rw [if_pos hg1, if_neg (by omega)]]; exact lv_sub hl [2, 3, 4, 5, 1, 0] rfl)
      · refine lv_iconst (v := 1) X.1 X.2.1 dX10_falls_45 (by decide) ?_
        refine lv_goto (tgt := 51) X.1 X.2.1 dX10_falls_46 (by decide) ?_
        refine lv_istore (lv' := [(5, .int 1), (4, .int (nI (st 1 (16 * sy + sx)))), (0, .ref y), (1, .int (nI sx)), (2, .int (nI sy)), (3, .int (nI z))]) X.1 X.2.1 dX10_falls_51 hl (by decide) rfl (fun ls hl => ?_)
        exact J53 _ _ ls True.intro S (by rw [show nI (radOn (st 1 (16 * sy + sx)) z) = 1 from by have h42 : ¬ 1 ≤ z - 1 := fun q => c_42 (nI_le (a := 1) q (by omega)); unfold radOn; rw [if_pos hg1, if_pos (by omega)]; rfl]; exact lv_sub hl [2, 3, 4, 5, 1, 0] rfl)
  · have hg0 : (st 1 (16 * sy + sx)) = 0 := (nI_eq (b := 0) (by omega) (by omega)).mp c_15
    refine lv_iload_n X.1 X.2.1 dX10_falls_18 rfl (lv_at hl 4 rfl) ?_
    refine lv_goto (tgt := 37) X.1 X.2.1 dX10_falls_19 (by decide) ?_
    refine lv_istore (lv' := [(5, .int (nI z)), (4, .int (nI (st 1 (16 * sy + sx)))), (0, .ref y), (1, .int (nI sx)), (2, .int (nI sy)), (3, .int (nI z))]) X.1 X.2.1 dX10_falls_37 hl (by decide) rfl (fun ls hl => ?_)
    refine lv_iload X.1 X.2.1 dX10_falls_39 (lv_at hl 0 rfl) ?_
    refine lv_iconst (v := 1) X.1 X.2.1 dX10_falls_41 (by decide) ?_
    refine lv_icmp_ge (tgt := 49) X.1 X.2.1 dX10_falls_42 (by decide) (fun c_42 => ?_) (fun c_42 => ?_)
    · refine lv_iload X.1 X.2.1 dX10_falls_49 (lv_at hl 0 rfl) ?_
      refine lv_istore (lv' := [(5, .int (nI z)), (4, .int (nI (st 1 (16 * sy + sx)))), (0, .ref y), (1, .int (nI sx)), (2, .int (nI sy)), (3, .int (nI z))]) X.1 X.2.1 dX10_falls_51 hl (by decide) rfl (fun ls hl => ?_)
      exact J53 _ _ ls True.intro S (by rw [show nI (radOn (st 1 (16 * sy + sx)) z) = nI z from by unfold radOn; rw [hg0]; rfl]; exact lv_sub hl [2, 3, 4, 5, 1, 0] rfl)
    · refine lv_iconst (v := 1) X.1 X.2.1 dX10_falls_45 (by decide) ?_
      refine lv_goto (tgt := 51) X.1 X.2.1 dX10_falls_46 (by decide) ?_
      refine lv_istore (lv' := [(5, .int 1), (4, .int (nI (st 1 (16 * sy + sx)))), (0, .ref y), (1, .int (nI sx)), (2, .int (nI sy)), (3, .int (nI z))]) X.1 X.2.1 dX10_falls_51 hl (by decide) rfl (fun ls hl => ?_)
      exact absurd (nI_le (a := 1) (by omega) (by omega)) c_42
