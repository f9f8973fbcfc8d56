/-! the law: its loop -/
set_option maxRecDepth 100000 in
set_option maxHeartbeats 4000000 in
theorem law_loop {p0 : Program} {l : Launch} {e0 : Env} {s0 : State} {m0 : MethodId} {b0 : List Frame} {meth0 : Method} {c0 : Code} {Q9 : State → Prop} (hst : l.stackTraces = false) {G : cx_G} {b L : Nat} {xs : Nat → Int32} (hX : va_X b L xs s0 s0.heap) (hbl : b < s0.heap.size) (hbA : ¬ gA G b) (hL : L ≤ 3584) (X : cxC G p0 l room_1 c0 cL_law 8 m0 meth0 s0 #[Value.ref b] RL wsL_law) (x y ou : Nat) (kend : (∀ (f2 : Wd) (H : Heap) (locs : List Loc) (ls : Array Slot) (ck sk : Nat), ck ≤ 601024 → sk ≤ 7293034 → cxS G s0 f2 H locs → W p0 l e0 room_1 s0 m0 #[Value.ref b] b0 meth0 c0 H locs ck sk Q9 (F0 m0 1344 ls []))) : ∀ (N i : Nat) (st : St) (f : Wd) (wo : Nat → Int64) (thr : Int32) (H : Heap) (locs : List Loc) (ls : Array Slot) (ck sk : Nat), 7 * i ≤ L + 7 → L + 7 < 7 * i + N → i ≤ 512 → sInv st → RX G f st x → RM G f st y thr → f ou = some (2000, eJ G 1 wo) → ck ≤ 18 + 62 * i → sk ≤ 1200 + 9192 * i → cxS G s0 f H locs → lv_has ls 8 [(0, .ref b), (1, .ref x), (2, .ref y), (3, .ref ou), (4, .int (nI (7 * i)))] → W p0 l e0 room_1 s0 m0 #[Value.ref b] b0 meth0 c0 H locs ck sk Q9 (F0 m0 23 ls []) := by
  intro N
  induction N with
  | zero =>
    intro i st f wo thr H locs ls ck sk h7 hN hi5 hI hR0 hM0 ho hck hsk S hl
    exfalso
    omega
  | succ N ih =>
    intro i st f wo thr H locs ls ck sk h7 hN hi5 hI hR0 hM0 ho hck hsk S hl
    refine lv_iload X.1 X.2.1 dL_law_23 (lv_at hl 4 rfl) ?_
    refine lv_aload_n X.1 X.2.1 dL_law_25 rfl (lv_at hl 0 rfl) ?_
    refine va_slen X.1 X.2.1 hX hbl hbA S.2 dL_law_26 ?_
    refine r_toi (show Int32.ofNat L = nI L from rfl) ?_
    refine lv_bipush (v := 7) X.1 X.2.1 dL_law_27 (by decide) ?_
    refine lv_isub X.1 X.2.1 dL_law_29 ?_
    refine lv_icmp_gt (tgt := 1344) X.1 X.2.1 dL_law_30 (by decide) (fun c_30 => ?_) (fun c_30 => ?_)
    · exact kend f H locs ls _ _ (by omega) (by omega) S
    · have hi : 7 * i + 7 ≤ L := by
        have h9 := pk_sub_toInt (a := L) (b := 7) (by omega) (by omega)
        have c9 : ¬ (nI L - nI 7).toInt < (nI (7 * i)).toInt := fun z => c_30 ((i_lt _ _).mpr z)
        rw [h9, i_n (by omega)] at c9
        omega
      have kk : ∀ (st2 : St) (f2 : Wd) (H : Heap) (locs : List Loc) (ls : Array Slot) (ck2 sk2 : Nat), sInv st2 → RX G f2 st2 x → (∃ t2 : Int32, RM G f2 st2 y t2) → (∃ w2 : Nat → Int64, f2 ou = some (2000, eJ G 1 w2)) → ck2 ≤ ck + 62 → sk2 ≤ sk + 9192 → cxS G s0 f2 H locs → lv_has ls 8 [(0, .ref b), (1, .ref x), (2, .ref y), (3, .ref ou), (4, .int (nI (7 * i)))] → W p0 l e0 room_1 s0 m0 #[Value.ref b] b0 meth0 c0 H locs ck2 sk2 Q9 (F0 m0 1338 ls []) := by
        intro st2 f2 H locs ls ck2 sk2 hI2 hR2 ⟨t2, hM2⟩ ⟨w2, ho2⟩ hck2 hsk2 S hl
        refine lv_iinc (v := nI (7 * (i + 1))) (lv' := [(4, .int (nI (7 * (i + 1)))), (0, .ref b), (1, .ref x), (2, .ref y), (3, .ref ou)]) X.1 X.2.1 dL_law_1338 hl (k := 4) rfl (by rw [show Int32.ofInt 7 = nI 7 from by decide +kernel, nI_add]; rfl) (by decide) rfl (fun ls hl => ?_)
        refine lv_goto (tgt := 23) X.1 X.2.1 dL_law_1341 (by decide) ?_
        exact ih (i + 1) st2 f2 w2 t2 H locs ls ck2 sk2 (by omega) (by omega) (by omega) hI2 hR2 hM2 ho2 (by omega) (by omega) S (lv_sub hl [1, 2, 3, 4, 0] rfl)
      obtain ⟨t0, ht0⟩ : ∃ z9 : Int32, z9 = xs (7 * i) := ⟨_, rfl⟩
      refine lv_aload_n X.1 X.2.1 dL_law_33 rfl (lv_at hl 0 rfl) ?_
      refine lv_iload X.1 X.2.1 dL_law_34 (lv_at hl 4 rfl) ?_
      refine r_sld X S hX hbl hbA (v := t0) (vp_in_nI (show 7 * i < L by omega) (by omega)) (by rw [nI_clamp (by omega)]; exact ht0.symm) dL_law_36 ?_
      refine lv_bipush (v := 15) X.1 X.2.1 dL_law_37 (by decide) ?_
      refine lv_iand X.1 X.2.1 dL_law_39 ?_
      obtain ⟨j, hj, ej⟩ := pk_andE t0 (m := 15) 4 (by decide)
      refine r_toi ej ?_
      rcases (show j = 0 ∨ j = 1 ∨ j = 2 ∨ j = 3 ∨ j = 4 ∨ j = 5 ∨ j = 6 ∨ j = 7 ∨ j = 8 ∨ j = 9 ∨ j = 10 ∨ j = 11 ∨ j = 12 ∨ j = 13 ∨ j = 14 ∨ j = 15 by omega) with rfl | rfl | rfl | rfl | rfl | rfl | rfl | rfl | rfl | rfl | rfl | rfl | rfl | rfl | rfl | rfl
      · refine lv_tableIn (off := 80) (tgt := 120) X.1 X.2.1 dL_law_40 (by decide) (by decide) (by decide) (by decide) ?_
        exact law_ground hst hX hbl hbA hL X i hi st f x y ou wo thr hI hR0 hM0 ho H locs ls S hl ck sk (by omega) (by omega) kk
      · refine lv_tableIn (off := 160) (tgt := 200) X.1 X.2.1 dL_law_40 (by decide) (by decide) (by decide) (by decide) ?_
        exact law_stone hst hX hbl hbA hL X i hi st f x y ou wo thr hI hR0 hM0 ho H locs ls S hl ck sk (by omega) (by omega) kk
      · refine lv_tableIn (off := 240) (tgt := 280) X.1 X.2.1 dL_law_40 (by decide) (by decide) (by decide) (by decide) ?_
        exact law_draw hst hX hbl hbA hL X i hi st f x y ou wo thr hI hR0 hM0 ho H locs ls S hl ck sk (by omega) (by omega) kk
      · refine lv_tableIn (off := 296) (tgt := 336) X.1 X.2.1 dL_law_40 (by decide) (by decide) (by decide) (by decide) ?_
        exact law_rain hst hX hbl hbA hL X i hi st f x y ou wo thr hI hR0 hM0 ho H locs ls S hl ck sk (by omega) (by omega) kk
      · refine lv_tableIn (off := 352) (tgt := 392) X.1 X.2.1 dL_law_40 (by decide) (by decide) (by decide) (by decide) ?_
        exact law_flood hst hX hbl hbA hL X i hi st f x y ou wo thr hI hR0 hM0 ho H locs ls S hl ck sk (by omega) (by omega) kk
      · refine lv_tableIn (off := 456) (tgt := 496) X.1 X.2.1 dL_law_40 (by decide) (by decide) (by decide) (by decide) ?_
        exact law_soften hst hX hbl hbA hL X i hi st f x y ou wo thr hI hR0 hM0 ho H locs ls S hl ck sk (by omega) (by omega) kk
      · refine lv_tableIn (off := 512) (tgt := 552) X.1 X.2.1 dL_law_40 (by decide) (by decide) (by decide) (by decide) ?_
        exact law_eye hst hX hbl hbA hL X i hi st f x y ou wo thr hI hR0 hM0 ho H locs ls S hl ck sk (by omega) (by omega) kk
      · refine lv_tableIn (off := 568) (tgt := 608) X.1 X.2.1 dL_law_40 (by decide) (by decide) (by decide) (by decide) ?_
        exact law_anchor hst hX hbl hbA hL X i hi st f x y ou wo thr hI hR0 hM0 ho H locs ls S hl ck sk (by omega) (by omega) kk
      · refine lv_tableIn (off := 700) (tgt := 740) X.1 X.2.1 dL_law_40 (by decide) (by decide) (by decide) (by decide) ?_
        exact law_count hst hX hbl hbA hL X i hi st f x y ou wo thr hI hR0 hM0 ho H locs ls S hl ck sk (by omega) (by omega) kk
      · refine lv_tableIn (off := 818) (tgt := 858) X.1 X.2.1 dL_law_40 (by decide) (by decide) (by decide) (by decide) ?_
        exact law_age hst hX hbl hbA hL X i hi st f x y ou wo thr hI hR0 hM0 ho H locs ls S hl ck sk (by omega) (by omega) kk
      · refine lv_tableIn (off := 921) (tgt := 961) X.1 X.2.1 dL_law_40 (by decide) (by decide) (by decide) (by decide) ?_
        exact law_whyNot hst hX hbl hbA hL X i hi st f x y ou wo thr hI hR0 hM0 ho H locs ls S hl ck sk (by omega) (by omega) kk
      · refine lv_tableIn (off := 1025) (tgt := 1065) X.1 X.2.1 dL_law_40 (by decide) (by decide) (by decide) (by decide) ?_
        exact law_craters hst hX hbl hbA hL X i hi st f x y ou wo thr hI hR0 hM0 ho H locs ls S hl ck sk (by omega) (by omega) kk
      · refine lv_tableIn (off := 1038) (tgt := 1078) X.1 X.2.1 dL_law_40 (by decide) (by decide) (by decide) (by decide) ?_
        exact law_about hst hX hbl hbA hL X i hi st f x y ou wo thr hI hR0 hM0 ho H locs ls S hl ck sk (by omega) (by omega) kk
      · refine lv_tableIn (off := 1106) (tgt := 1146) X.1 X.2.1 dL_law_40 (by decide) (by decide) (by decide) (by decide) ?_
        exact law_depthAnew hst hX hbl hbA hL X i hi st f x y ou wo thr hI hR0 hM0 ho H locs ls S hl ck sk (by omega) (by omega) kk
      · refine lv_tableIn (off := 1162) (tgt := 1202) X.1 X.2.1 dL_law_40 (by decide) (by decide) (by decide) (by decide) ?_
        exact law_top hst hX hbl hbA hL X i hi st f x y ou wo thr hI hR0 hM0 ho H locs ls S hl ck sk (by omega) (by omega) kk
      · refine lv_tableIn (off := 1230) (tgt := 1270) X.1 X.2.1 dL_law_40 (by decide) (by decide) (by decide) (by decide) ?_
        exact law_topAnew hst hX hbl hbA hL X i hi st f x y ou wo thr hI hR0 hM0 ho H locs ls S hl ck sk (by omega) (by omega) kk
set_option maxRecDepth 100000 in
set_option maxHeartbeats 4000000 in
theorem law_start {p0 : Program} {l : Launch} {e0 : Env} {s0 : State} {m0 : MethodId} {b0 : List Frame} {meth0 : Method} {c0 : Code} {Q9 : State → Prop} (hst : l.stackTraces = false) {G : cx_G} {b L : Nat} {xs : Nat → Int32} (hX : va_X b L xs s0 s0.heap) (hbl : b < s0.heap.size) (hbA : ¬ gA G b) (hL : L ≤ 3584) (X : cxC G p0 l room_1 c0 cL_law 8 m0 meth0 s0 #[Value.ref b] RL wsL_law) (f : Wd) (S : cxS G s0 f s0.heap []) (ls : Array Slot) (hl : lv_has ls 8 [(0, .ref b)]) (kend : (∀ (f2 : Wd) (H : Heap) (locs : List Loc) (ls : Array Slot) (ck sk : Nat), ck ≤ 601024 → sk ≤ 7293034 → cxS G s0 f2 H locs → W p0 l e0 room_1 s0 m0 #[Value.ref b] b0 meth0 c0 H locs ck sk Q9 (F0 m0 1344 ls []))) : W p0 l e0 room_1 s0 m0 #[Value.ref b] b0 meth0 c0 s0.heap [] 0 0 Q9 (F0 m0 0 ls []) := by
  have in_RX9 : ∀ w ∈ u_ws RX9 TX9 6, w ∈ wsL_law := inlX9
  have in_RX10 : ∀ w ∈ u_ws RX10 TX10 14, w ∈ wsL_law := inlX10
  refine r_new (C := RX9) (T := TX9) (N := 6) (ci := 9) (fs := [.null, .null, .null, .null, .null, .int 0]) X S 0 (by decide) in_RX9 tyX9 tyX9_ok (by decide +kernel) (by decide +kernel) (by decide +kernel) rfl (fun j hj => by rcases (show j = 0 ∨ j = 1 ∨ j = 2 ∨ j = 3 ∨ j = 4 ∨ j = 5 by omega) with rfl | rfl | rfl | rfl | rfl | rfl <;> rfl) (by exact Nat.le_of_ble_eq_true rfl) (by exact Nat.le_of_ble_eq_true rfl) dL_law_0 (fun q_0 H hn_q_0 S => ?_)
  obtain ⟨f_0, ef_0⟩ : ∃ z9 : Wd, z9 = wu f q_0 0 (.inr (9, [.null, .null, .null, .null, .null, .int 0])) := ⟨_, rfl⟩
  rw [← ef_0] at S
  have hNq0 : f_0 q_0 = some (0, .inr (9, [.null, .null, .null, .null, .null, .int 0])) := by rw [ef_0]; exact wu_self _ _ _ _
  refine lv_dup X.1 X.2.1 dL_law_3 rfl ?_
  refine call_v (run_I X S (m_Craterclock l G f_0 q_0 hNq0) 0 gL_law_X9_init rfl rfl rfl (by decide +kernel) (by decide +kernel) (by decide +kernel) rfl (by decide +kernel) ⟨(by exact Nat.le_of_ble_eq_true rfl), (by exact Nat.le_of_ble_eq_true rfl)⟩ rfl hl.1 rfl (by exact Nat.le_of_ble_eq_true rfl) dL_law_4 ⟨(by exact Nat.le_of_ble_eq_true rfl), (by exact Nat.le_of_ble_eq_true rfl)⟩) S (fun f_4 H locs hr_4 S => ?_)
  obtain ⟨hRX, -⟩ := hr_4
  refine lv_astore_n (lv' := [(1, .ref q_0), (0, .ref b)]) X.1 X.2.1 dL_law_7 rfl hl (by decide) rfl (fun ls hl => ?_)
  refine r_new (C := RX10) (T := TX10) (N := 14) (ci := 10) (fs := [.null, .int 0, .null, .null, .null, .null, .int 0, .int 0, .int 0, .null, .int 0, .null, .null, .int 0]) X S 1000 (by decide) in_RX10 tyX10 tyX10_ok (by decide +kernel) (by decide +kernel) (by decide +kernel) rfl (fun j hj => by rcases (show j = 0 ∨ j = 1 ∨ j = 2 ∨ j = 3 ∨ j = 4 ∨ j = 5 ∨ j = 6 ∨ j = 7 ∨ j = 8 ∨ j = 9 ∨ j = 10 ∨ j = 11 ∨ j = 12 ∨ j = 13 by omega) with rfl | rfl | rfl | rfl | rfl | rfl | rfl | rfl | rfl | rfl | rfl | rfl | rfl | rfl <;> rfl) (by exact Nat.le_of_ble_eq_true rfl) (by exact Nat.le_of_ble_eq_true rfl) dL_law_8 (fun q_8 H hn_q_8 S => ?_)
  obtain ⟨f_8, ef_8⟩ : ∃ z9 : Wd, z9 = wu f_4 q_8 1000 (.inr (10, [.null, .int 0, .null, .null, .null, .null, .int 0, .int 0, .int 0, .null, .int 0, .null, .null, .int 0])) := ⟨_, rfl⟩
  rw [← ef_8] at S
  have hNq8 : f_8 q_8 = some (1000, .inr (10, [.null, .int 0, .null, .null, .null, .null, .int 0, .int 0, .int 0, .null, .int 0, .null, .null, .int 0])) := by rw [ef_8]; exact wu_self _ _ _ _
  refine lv_dup X.1 X.2.1 dL_law_11 rfl ?_
  refine call_v (run_I X S (n_init l G f_8 q_8 hNq8) 0 gL_law_X10_init rfl rfl rfl (by decide +kernel) (by decide +kernel) (by decide +kernel) rfl (by decide +kernel) ⟨(by exact Nat.le_of_ble_eq_true rfl), (by exact Nat.le_of_ble_eq_true rfl)⟩ rfl hl.1 rfl (by exact Nat.le_of_ble_eq_true rfl) dL_law_12 ⟨(by exact Nat.le_of_ble_eq_true rfl), (by exact Nat.le_of_ble_eq_true rfl)⟩) S (fun f_12 H locs hr_12 S => ?_)
  obtain ⟨hRM, hmm⟩ := hr_12
  have hRX3 := (hRX.kept (by rw [ef_8]; exact md_mono (md_new hn_q_8) (fun t q => q.elim)) (sInv_le sInv_st0)).kept (md_mono hmm (fun t q => by subst q; unfold tX; omega)) (sInv_le sInv_st0)
  refine lv_astore_n (lv' := [(2, .ref q_8), (1, .ref q_0), (0, .ref b)]) X.1 X.2.1 dL_law_15 rfl hl (by decide) rfl (fun ls hl => ?_)
  refine lv_iconst (v := 1) X.1 X.2.1 dL_law_16 (by decide) ?_
  refine r_newJ (N' := 1) X S 2000 (by decide) (by decide +kernel) (by decide) (by decide) (by decide) (by exact Nat.le_of_ble_eq_true rfl) (by exact Nat.le_of_ble_eq_true rfl) dL_law_17 (fun q_17 H hn_q_17 S => ?_)
  obtain ⟨f_17, ef_17⟩ : ∃ z9 : Wd, z9 = wu f_12 q_17 2000 (eJ G 1 (fun _ => 0)) := ⟨_, rfl⟩
  rw [← ef_17] at S
  have hNq17 : f_17 q_17 = some (2000, eJ G 1 (fun _ => 0)) := by rw [ef_17]; exact wu_self _ _ _ _
  refine lv_astore_n (lv' := [(3, .ref q_17), (2, .ref q_8), (1, .ref q_0), (0, .ref b)]) X.1 X.2.1 dL_law_19 rfl hl (by decide) rfl (fun ls hl => ?_)
  refine lv_iconst (v := 0) X.1 X.2.1 dL_law_20 (by decide) ?_
  refine lv_istore (lv' := [(4, .int 0), (3, .ref q_17), (2, .ref q_8), (1, .ref q_0), (0, .ref b)]) X.1 X.2.1 dL_law_21 hl (by decide) rfl (fun ls hl => ?_)
  refine law_loop hst hX hbl hbA hL X q_0 q_8 q_17 kend (L + 8) 0 st0 f_17 (fun _ => 0) 0 H locs ls _ _ (by omega) (by omega) (by omega) sInv_st0 (hRX3.kept (by rw [ef_17]; exact md_mono (md_new hn_q_17) (fun t q => q.elim)) (sInv_le sInv_st0)) (hRM.kept2 (T := fun _ => False) (by rw [ef_17]; exact md_new hn_q_17) (fun t q => q.elim)) (by rw [ef_17]; exact wu_self _ _ _ _) (Nat.le_of_ble_eq_true rfl) (Nat.le_of_ble_eq_true rfl) S ?_
  exact lv_sub hl [4, 3, 2, 1, 0] rfl
