/-! the law: rains -/
theorem rain_o (st : St) {B i : Nat} (h : (B = 0 ∧ i ≠ 0 ∧ i ≠ 4) ∨ B = 1 ∨ 8 ≤ B) : ∀ m, rainSt st m B i = st B i
  | 0 => rfl
  | m + 1 => by
    show rain1 (rainSt st m) B i = _
    unfold rain1
    rw [fall_e _ _ _ _ (by omega), s_up_ne _ (by omega)]
    exact rain_o st h m
theorem rain_4 (st : St) (m : Nat) : rainSt st (m + 1) 0 4 = nxt (nxt (nxt (rainSt st m 0 4))) := by
  show rain1 (rainSt st m) 0 4 = _
  unfold rain1
  rw [fall_e _ _ _ _ (by omega), s_up_self]
theorem rain_at (st : St) {B : Nat} (h : 2 ≤ B ∧ B ≤ 6) {n : Nat} : ∀ m, n < m → rainSt st m B (st 0 0 + n) = rain1 (rainSt st n) B (st 0 0 + n)
  | 0, hn => absurd hn (Nat.not_lt_zero n)
  | m + 1, hn => by
    rcases Nat.lt_or_ge n m with q | q
    · show rain1 (rainSt st m) B (st 0 0 + n) = _
      rw [← rain_at st h m q]
      unfold rain1
      rw [fall_e _ _ _ _ (by rw [s_up_ne _ (by omega), rainSt_n]; omega), s_up_ne _ (by omega)]
    · rw [show n = m by omega]
      rfl
theorem rain_2 (st : St) {n m : Nat} (h : n < m) : rainSt st m 2 (st 0 0 + n) = nxt (rainSt st n 0 4) % 16 := by
  rw [rain_at st (by omega) m h]
  unfold rain1
  have e : s_up (rainSt st n) 0 4 (nxt (nxt (nxt (rainSt st n 0 4)))) 0 0 = st 0 0 + n := by rw [s_up_ne _ (by omega), rainSt_n]
  rw [← e, fall_2]
theorem rain_3 (st : St) {n m : Nat} (h : n < m) : rainSt st m 3 (st 0 0 + n) = nxt (nxt (rainSt st n 0 4)) % 16 := by
  rw [rain_at st (by omega) m h]
  unfold rain1
  have e : s_up (rainSt st n) 0 4 (nxt (nxt (nxt (rainSt st n 0 4)))) 0 0 = st 0 0 + n := by rw [s_up_ne _ (by omega), rainSt_n]
  rw [← e, fall_3]
theorem rain_5 (st : St) {n m : Nat} (h : n < m) : rainSt st m 5 (st 0 0 + n) = radOn (st 1 (16 * (nxt (nxt (rainSt st n 0 4)) % 16) + nxt (rainSt st n 0 4) % 16)) (sizeOf (nxt (nxt (nxt (rainSt st n 0 4))) % 64)) := by
  rw [rain_at st (by omega) m h]
  unfold rain1
  have e : s_up (rainSt st n) 0 4 (nxt (nxt (nxt (rainSt st n 0 4)))) 0 0 = st 0 0 + n := by rw [s_up_ne _ (by omega), rainSt_n]
  rw [← e, fall_5, s_up_ne _ (by omega), rain_o st (by omega)]
theorem siz_e {q : Nat} : (62 < q → 6 = sizeOf q) ∧ (¬ 62 < q → 60 < q → 5 = sizeOf q) ∧ (¬ 60 < q → 57 < q → 4 = sizeOf q) ∧ (¬ 57 < q → 51 < q → 3 = sizeOf q) ∧ (¬ 51 < q → 39 < q → 2 = sizeOf q) ∧ (¬ 39 < q → 1 = sizeOf q) := by
  unfold sizeOf
  refine ⟨fun a => ?_, fun a b => ?_, fun a b => ?_, fun a b => ?_, fun a b => ?_, fun a => ?_⟩
  · rw [if_neg (by omega), if_neg (by omega), if_neg (by omega), if_neg (by omega), if_neg (by omega)]
  · rw [if_neg (by omega), if_neg (by omega), if_neg (by omega), if_neg (by omega), if_pos (by omega)]
  · rw [if_neg (by omega), if_neg (by omega), if_neg (by omega), if_pos (by omega)]
  · rw [if_neg (by omega), if_neg (by omega), if_pos (by omega)]
  · rw [if_neg (by omega), if_pos (by omega)]
  · rw [if_pos (by omega)]
theorem liv_t {st : St} {k : Nat} (h : 0 < st 7 k) : cn (liveP st) (k + 1) = cn (liveP st) k + 1 := cn_t (decide_eq_true h)
theorem liv_f {st : St} {k : Nat} (h : ¬ 0 < st 7 k) : cn (liveP st) (k + 1) = cn (liveP st) k := cn_f (decide_eq_false h)
theorem md_skip {T : Nat → Prop} {f f1 f2 : Wd} {q t : Nat} {e : va_E} (hq : f q = none) (h : md T f f1) (e2 : f2 = wu f1 q t e) : md T f f2 := fun b t2 e3 hb n => by
  rw [e2, wu_ne]
  · exact h b t2 e3 hb n
  · intro z
    rw [z, hq] at hb
    cases hb
set_option maxRecDepth 100000 in
set_option maxHeartbeats 4000000 in
/-- rains -/
theorem m_rains (l : Launch) (hst : l.stackTraces = false) (G : cx_G) (f : Wd) (st : St) (x : Nat) (cc gg dd ee aa : Nat) (C w D E : Nat → Int32) (A : Nat → Int64) (h0 : LA G f st x cc gg dd ee aa C w D E A) (j : Nat) (hB : LB st j) (h50 : st 0 0 < 50) (m : Nat) (hm1 : 1 ≤ m) (hm8 : m ≤ 8) : MI l G yL_rains wsL_rains 9 243 300 10600 [.ref x, .int (nI m), .ref cc, .ref gg] f (fun r f' => r = 1 ∧ LSt G x cc gg dd ee aa (j + 1) f') := by
  refine cx_body (cc := cL_rains) (n := 12) (ret := (some .boolean)) (by decide +kernel) rfl (Nat.le_of_ble_eq_true rfl) ?_
  intro p0 e0 s0 m0 b0 meth0 c0 ls X hr hnm S hl
  have X : cxC G p0 l _ c0 cL_rains 12 m0 meth0 s0 _ RL wsL_rains := X
  have hl : lv_has ls 12 [(0, .ref x), (1, .int (nI m)), (2, .ref cc), (3, .ref gg)] := hl
  obtain ⟨hI, hR0, hcc, hgg, hdd, hee, haa, ⟨hC0, hC1, hC3, hC4⟩, hgr, hE, hA⟩ := id h0
  obtain ⟨h57, hbt, hbA⟩ := id hB
  have hn200 := hI.1.1
  refine lv_aload_n X.1 X.2.1 dL_rains_0 rfl (lv_at hl 0 rfl) ?_
  refine lv_iload_n X.1 X.2.1 dL_rains_1 rfl (lv_at hl 1 rfl) ?_
  refine call_i (run_V X S (u_rain l hst G f st x hI hR0 m hm1 (by omega) (by omega)) 1 gL_rains_X9_rain rfl rfl rfl (by decide +kernel) ⟨(by exact Nat.le_of_ble_eq_true rfl), (by exact Nat.le_of_ble_eq_true rfl)⟩ (RX.obj hR0) rfl rfl rfl hl.1 rfl (by exact Nat.le_of_ble_eq_true rfl) dL_rains_2 ⟨(by exact Nat.le_of_ble_eq_true rfl), (by exact Nat.le_of_ble_eq_true rfl)⟩) S (fun r_2 f_2 H locs hr_2 S => ?_)
  obtain ⟨hr2, hRc_2, hmc_2⟩ := hr_2
  have hcc_2 := hmc_2 _ _ _ hcc (by unfold tX; omega)
  have hgg_2 := hmc_2 _ _ _ hgg (by unfold tX; omega)
  have hdd_2 := hmc_2 _ _ _ hdd (by unfold tX; omega)
  have hee_2 := hmc_2 _ _ _ hee (by unfold tX; omega)
  have haa_2 := hmc_2 _ _ _ haa (by unfold tX; omega)
  have hI_2 : sInv (rainSt st m) := sInv_rain hI m (by omega)
  obtain ⟨st1, est1⟩ : ∃ z9 : St, z9 = rainSt st m := ⟨_, rfl⟩
  rw [← est1] at hRc_2 hI_2 hr2
  have hn1 : st1 0 0 = st 0 0 + m := by rw [est1]; exact rainSt_n st m
  rw [hn1] at hr2
  obtain rfl := (show r_2 = nI (cn (liveP st1) (st 0 0 + m)) from hr2)
  have ho : ∀ (B i : Nat), (B = 0 ∧ i ≠ 0 ∧ i ≠ 4) ∨ B = 1 ∨ 8 ≤ B → st1 B i = st B i := fun B i h => by rw [est1]; exact rain_o st h m
  have hbc := cn_le (liveP st1) (st 0 0 + m)
  refine lv_istore (lv' := [(4, .int (nI (cn (liveP st1) (st 0 0 + m)))), (0, .ref x), (1, .int (nI m)), (2, .ref cc), (3, .ref gg)]) X.1 X.2.1 dL_rains_5 hl (by decide) rfl (fun ls hl => ?_)
  refine lv_iconst (v := 0) X.1 X.2.1 dL_rains_7 (by decide) ?_
  refine lv_istore (lv' := [(5, .int 0), (4, .int (nI (cn (liveP st1) (st 0 0 + m)))), (0, .ref x), (1, .int (nI m)), (2, .ref cc), (3, .ref gg)]) X.1 X.2.1 dL_rains_8 hl (by decide) rfl (fun ls hl => ?_)
  refine lv_aload_n X.1 X.2.1 dL_rains_10 rfl (lv_at hl 2 rfl) ?_
  refine call_ip (run_V X S (c_craters l hst G f_2 st1 x hI_2 hRc_2) 0 gL_rains_X9_craters rfl rfl rfl (by decide +kernel) ⟨(by exact Nat.le_of_ble_eq_true rfl), (by exact Nat.le_of_ble_eq_true rfl)⟩ (RX.obj hRc_2) rfl rfl rfl hl.1 rfl (by exact Nat.le_of_ble_eq_true rfl) dL_rains_11 ⟨(by exact Nat.le_of_ble_eq_true rfl), (by exact Nat.le_of_ble_eq_true rfl)⟩) S (fun r_11 H locs hr_11 S => ?_)
  obtain rfl := (show r_11 = nI (st 0 0 + m) from hr_11.trans (by rw [hn1]))
  refine lv_aload_n X.1 X.2.1 dL_rains_14 rfl (lv_at hl 4 rfl) ?_
  refine lv_iconst (v := 0) X.1 X.2.1 dL_rains_15 (by decide) ?_
  refine n_iald (i := 0) (v := (nI (st 0 0))) X S hcc_2 hC0 dL_rains_16 ?_
  refine lv_iload_n X.1 X.2.1 dL_rains_17 rfl (lv_at hl 3 rfl) ?_
  refine n_add (a := st 0 0) (b := m) X dL_rains_18 ?_
  refine n_ne (a := st 0 0 + m) (b := (st 0 0) + m) (tgt := 26) X dL_rains_19 (by decide) (fun n_19 => by exfalso; omega) (fun n_19 => ?_)
  refine lv_iconst (v := 1) X.1 X.2.1 dL_rains_22 (by decide) ?_
  refine lv_goto (tgt := 27) X.1 X.2.1 dL_rains_23 (by decide) ?_
  refine lv_istore (lv' := [(6, .int 1), (5, .int 0), (4, .int (nI (cn (liveP st1) (st 0 0 + m)))), (0, .ref x), (1, .int (nI m)), (2, .ref cc), (3, .ref gg)]) X.1 X.2.1 dL_rains_27 hl (by decide) rfl (fun ls hl => ?_)
  refine lv_iconst (v := 0) X.1 X.2.1 dL_rains_29 (by decide) ?_
  refine lv_istore (lv' := [(7, .int 0), (6, .int 1), (5, .int 0), (4, .int (nI (cn (liveP st1) (st 0 0 + m)))), (0, .ref x), (1, .int (nI m)), (2, .ref cc), (3, .ref gg)]) X.1 X.2.1 dL_rains_30 hl (by decide) rfl (fun ls hl => ?_)
  refine W_genQ (fun Q9 hQ9 => ?_)
  have loop : ∀ (N : Nat) (n : Nat) (fk : Wd) (Ck : Nat → Int32) (ck : Nat) (sk : Nat) (H : Heap) (locs : List Loc) (ls : Array Slot), n ≤ m → m < n + N → fk cc = some (2001, eI G 5 Ck) → md (fun t => t = 2001) f_2 fk → Ck 0 = nI (st 0 0 + n) → Ck 1 = nI (rainSt st n 0 4) → (∀ i, i ≠ 0 → i ≠ 1 → Ck i = C i) → ck ≤ 62 + 7 * n → sk ≤ 9192 + 39 * n → cxS G s0 fk H locs → lv_has ls 12 [(0, .ref x), (1, .int (nI m)), (2, .ref cc), (3, .ref gg), (4, .int (nI (cn (liveP st1) (st 0 0 + m)))), (5, .int 0), (6, .int 1), (7, .int (nI n))] → W p0 l e0 ({ frames := 9, cells := 300, slots := 10600, locals := 243 } : Room) s0 m0 ([.ref x, .int (nI m), .ref cc, .ref gg] : List Value).toArray b0 meth0 c0 H locs ck sk Q9 (F0 m0 32 ls []) := by
    intro N
    induction N with
    | zero =>
      intro n fk Ck ck sk  H locs ls hn hN hck hmd hC0k hC1k hCk hcks hsks S hl
      exfalso
      omega
    | succ N ih =>
      intro n fk Ck ck sk  H locs ls hn hN hck hmd hC0k hC1k hCk hcks hsks S hl
      have hRk := hRc_2.kept (md_mono hmd (fun t q => by subst q; unfold tX; omega)) (by rw [hn1]; omega)
      have hgg_k := hmd _ _ _ hgg_2 (by omega)
      refine lv_iload X.1 X.2.1 dL_rains_32 (lv_at hl 7 rfl) ?_
      refine lv_iload_n X.1 X.2.1 dL_rains_34 rfl (lv_at hl 1 rfl) ?_
      refine n_ge (a := n) (b := m) (tgt := 285) X dL_rains_35 (by decide) (fun n_35 => ?_) (fun n_35 => ?_)
      · have hnm : n = m := by omega
        rw [hnm] at hC0k hC1k hcks hsks
        clear ih
        have hee_k := hmd _ _ _ hee_2 (by omega)
        have haa_k := hmd _ _ _ haa_2 (by omega)
        have hdd_k := hmd _ _ _ hdd_2 (by omega)
        refine lv_iconst (v := 0) X.1 X.2.1 dL_rains_285 (by decide) ?_
        refine lv_istore (lv' := [(7, .int 0), (0, .ref x), (1, .int (nI m)), (2, .ref cc), (3, .ref gg), (4, .int (nI (cn (liveP st1) (st 0 0 + m)))), (5, .int 0), (6, .int 1)]) X.1 X.2.1 dL_rains_286 hl (by decide) rfl (fun ls hl => ?_)
        obtain ⟨ck0, eck0⟩ : ∃ z9 : Nat, z9 = ck := ⟨_, rfl⟩
        obtain ⟨sk0, esk0⟩ : ∃ z9 : Nat, z9 = sk := ⟨_, rfl⟩
        have loop2 : ∀ (N : Nat) (k : Nat) (ck : Nat) (sk : Nat) (H : Heap) (locs : List Loc) (ls : Array Slot), k ≤ st 0 0 + m → st 0 0 + m < k + N → ck ≤ ck0 + 2 * k → sk ≤ sk0 + 12 * k → cxS G s0 fk H locs → lv_has ls 12 [(0, .ref x), (2, .ref cc), (4, .int (nI (cn (liveP st1) (st 0 0 + m)))), (5, .int (nI (cn (liveP st1) k))), (6, .int 1), (7, .int (nI k))] → W p0 l e0 ({ frames := 9, cells := 300, slots := 10600, locals := 243 } : Room) s0 m0 ([.ref x, .int (nI m), .ref cc, .ref gg] : List Value).toArray b0 meth0 c0 H locs ck sk Q9 (F0 m0 288 ls []) := by
          intro N
          induction N with
          | zero =>
            intro k ck sk  H locs ls hk hN hcks hsks S hl
            exfalso
            omega
          | succ N ih =>
            intro k ck sk  H locs ls hk hN hcks hsks S hl
            refine lv_iload X.1 X.2.1 dL_rains_288 (lv_at hl 5 rfl) ?_
            refine lv_aload_n X.1 X.2.1 dL_rains_290 rfl (lv_at hl 1 rfl) ?_
            refine lv_iconst (v := 0) X.1 X.2.1 dL_rains_291 (by decide) ?_
            refine n_iald (i := 0) (v := (nI (st 0 0 + m))) X S hck hC0k dL_rains_292 ?_
            refine n_ge (a := k) (b := st 0 0 + m) (tgt := 322) X dL_rains_293 (by decide) (fun n_293 => ?_) (fun n_293 => ?_)
            · have hkn : k = st 0 0 + m := by omega
              rw [hkn] at hl
              clear ih
              have hdr : (rainSt st m 0 4) < 65537 := (sInv_rain hI m (by omega)).1.2.2.2.2
              have hd4 : st1 0 4 = (rainSt st m 0 4) := by rw [est1]
              refine lv_aload_n X.1 X.2.1 dL_rains_322 rfl (lv_at hl 1 rfl) ?_
              refine lv_iconst (v := 1) X.1 X.2.1 dL_rains_323 (by decide) ?_
              refine n_iald (i := 1) (v := (nI (rainSt st m 0 4))) X S hck hC1k dL_rains_324 ?_
              refine lv_istore (lv' := [(7, .int (nI (rainSt st m 0 4))), (0, .ref x), (2, .ref cc), (4, .int (nI (cn (liveP st1) (st 0 0 + m)))), (5, .int (nI (cn (liveP st1) (st 0 0 + m)))), (6, .int 1)]) X.1 X.2.1 dL_rains_325 hl (by decide) rfl (fun ls hl => ?_)
              refine lv_aload_n X.1 X.2.1 dL_rains_327 rfl (lv_at hl 2 rfl) ?_
              refine lv_iconst (v := 1) X.1 X.2.1 dL_rains_328 (by decide) ?_
              refine lv_iload X.1 X.2.1 dL_rains_329 (lv_at hl 0 rfl) ?_
              refine z_ne (a := rainSt st m 0 4) (tgt := 338) X dL_rains_331 (by decide) (fun n_331 => ?_) (fun n_331 => ?_)
              · refine lv_iload X.1 X.2.1 dL_rains_338 (lv_at hl 0 rfl) ?_
                refine n_iast (i := 1) (v := (nI (rainSt st m 0 4))) X S hck (by decide) dL_rains_340 (fun f_340 H locs ef_340 S => ?_)
                have hck_340 : f_340 cc = some (2001, eI G 5 (upd Ck 1 (nI (rainSt st m 0 4)))) := by rw [ef_340]; exact wu_self _ _ _ _
                have hgg_k_340 : f_340 gg = some (2002, eI G 16 w) := by rw [ef_340]; exact wu_get hck hgg_k (by decide)
                have hee_k_340 : f_340 ee = some (2004, eI G 6 E) := by rw [ef_340]; exact wu_get hck hee_k (by decide)
                have haa_k_340 : f_340 aa = some (2005, eJ G 16 A) := by rw [ef_340]; exact wu_get hck haa_k (by decide)
                have hdd_k_340 : f_340 dd = some (2003, eI G 64 D) := by rw [ef_340]; exact wu_get hck hdd_k (by decide)
                have hR_340 : RX G f_340 st1 x := hRk.kept (by rw [ef_340]; exact md_mono (md_put hck) (fun t q => by subst q; unfold tX; omega)) (by rw [hn1]; omega)
                refine lv_iload X.1 X.2.1 dL_rains_341 (lv_at hl 5 rfl) ?_
                refine lv_if_eq (x := 1) (tgt := 369) X.1 X.2.1 dL_rains_343 (by decide) (fun c_343 => by first | exact absurd c_343 (by decide) | exact absurd (by decide) c_343) (fun c_343 => ?_)
                refine lv_iload X.1 X.2.1 dL_rains_346 (lv_at hl 3 rfl) ?_
                refine lv_iload X.1 X.2.1 dL_rains_348 (lv_at hl 4 rfl) ?_
                refine n_ne (a := cn (liveP st1) (st 0 0 + m)) (b := cn (liveP st1) (st 0 0 + m)) (tgt := 369) X dL_rains_350 (by decide) (fun n_350 => by exfalso; omega) (fun n_350 => ?_)
                refine lv_aload_n X.1 X.2.1 dL_rains_353 rfl (lv_at hl 1 rfl) ?_
                refine lv_aload_n X.1 X.2.1 dL_rains_354 rfl (lv_at hl 2 rfl) ?_
                refine lv_iconst (v := 1) X.1 X.2.1 dL_rains_355 (by decide) ?_
                refine n_iald (i := 1) (v := (nI (rainSt st m 0 4))) X S hck_340 pk_us dL_rains_356 ?_
                refine call_i (run_V X S (u_draw l hst G f_340 st1 x hI_2 hR_340 (rainSt st m 0 4) (by omega) (by omega)) 1 gL_rains_X9_draw rfl rfl rfl (by decide +kernel) ⟨(by exact Nat.le_of_ble_eq_true rfl), (by exact Nat.le_of_ble_eq_true rfl)⟩ (RX.obj hR_340) rfl rfl rfl hl.1 rfl (by exact Nat.le_of_ble_eq_true rfl) dL_rains_357 ⟨(show _ ≤ 300 by omega), (show _ ≤ 10600 by omega)⟩) S (fun r_357 f_357 H locs hr_357 S => ?_)
                obtain ⟨hr357, hRc_357, hmc_357⟩ := hr_357
                have hck_357 := hmc_357 _ _ _ hck_340 (by unfold tX; omega)
                have hgg_k_357 := hmc_357 _ _ _ hgg_k_340 (by unfold tX; omega)
                have hee_k_357 := hmc_357 _ _ _ hee_k_340 (by unfold tX; omega)
                have haa_k_357 := hmc_357 _ _ _ haa_k_340 (by unfold tX; omega)
                have hdd_k_357 := hmc_357 _ _ _ hdd_k_340 (by unfold tX; omega)
                have hI_357 : sInv (s_up st1 0 4 (rainSt st m 0 4)) := sInv_draw hI_2 (by omega)
                obtain rfl := (show r_357 = nI (rainSt st m 0 4) from hr357.trans (by rw [hd4]))
                refine lv_iload X.1 X.2.1 dL_rains_360 (lv_at hl 0 rfl) ?_
                refine n_ne (a := rainSt st m 0 4) (b := rainSt st m 0 4) (tgt := 369) X dL_rains_362 (by decide) (fun n_362 => by exfalso; omega) (fun n_362 => ?_)
                refine lv_iconst (v := 1) X.1 X.2.1 dL_rains_365 (by decide) ?_
                refine lv_goto (tgt := 370) X.1 X.2.1 dL_rains_366 (by decide) ?_
                subst hQ9
                refine e_z X hr S (by omega) (by omega) dL_rains_370 rfl ?_
                have ho2 : ∀ (B i : Nat), (B = 0 ∧ i ≠ 0 ∧ i ≠ 4) ∨ B = 1 ∨ 8 ≤ B → s_up st1 0 4 (rainSt st m 0 4) B i = st B i := fun B i h => by rw [s_up_ne _ (by omega)]; exact ho B i h
                have hn2 : s_up st1 0 4 (rainSt st m 0 4) 0 0 = st 0 0 + m := by rw [s_up_ne _ (by omega)]; exact hn1
                refine ⟨rfl, s_up st1 0 4 (rainSt st m 0 4), ⟨_, _, _, _, _, hI_357, hRc_357, hck_357, hgg_k_357, hdd_k_357, hee_k_357, haa_k_357, ⟨by rw [pk_un (by omega), hC0k, hn2], by rw [pk_us, s_up_self], by rw [pk_un (by omega), hCk 3 (by omega) (by omega), hC3, ho2 0 2 (by omega)], by rw [pk_un (by omega), hCk 4 (by omega) (by omega), hC4, ho2 0 3 (by omega)]⟩, grdL_cong hgr (fun c _ => ho2 1 c (by omega)), ?_, ?_⟩, by omega, by rw [ho2 0 1 (by omega)]; omega, ?_⟩
                · rw [ho2 0 2 (by omega)]
                  exact fun i hi => by rw [ho2 9 i (by omega)]; exact hE i hi
                · rw [ho2 0 3 (by omega)]
                  exact fun i hi => by rw [ho2 10 i (by omega), ho2 11 i (by omega)]; exact hA i hi
                · rw [ho2 0 3 (by omega)]
                  exact fun i hi => by rw [ho2 10 i (by omega), ho2 11 i (by omega)]; exact hbA i hi
              · refine lv_iconst (v := 1) X.1 X.2.1 dL_rains_334 (by decide) ?_
                refine r_toi (show (1 : Int32) = nI 1 from rfl) ?_
                refine lv_goto (tgt := 340) X.1 X.2.1 dL_rains_335 (by decide) ?_
                refine n_iast (i := 1) (v := (nI 1)) X S hck (by decide) dL_rains_340 (fun f_340 H locs ef_340 S => ?_)
                have hck_340 : f_340 cc = some (2001, eI G 5 (upd Ck 1 (nI 1))) := by rw [ef_340]; exact wu_self _ _ _ _
                have hgg_k_340 : f_340 gg = some (2002, eI G 16 w) := by rw [ef_340]; exact wu_get hck hgg_k (by decide)
                have hee_k_340 : f_340 ee = some (2004, eI G 6 E) := by rw [ef_340]; exact wu_get hck hee_k (by decide)
                have haa_k_340 : f_340 aa = some (2005, eJ G 16 A) := by rw [ef_340]; exact wu_get hck haa_k (by decide)
                have hdd_k_340 : f_340 dd = some (2003, eI G 64 D) := by rw [ef_340]; exact wu_get hck hdd_k (by decide)
                have hR_340 : RX G f_340 st1 x := hRk.kept (by rw [ef_340]; exact md_mono (md_put hck) (fun t q => by subst q; unfold tX; omega)) (by rw [hn1]; omega)
                refine lv_iload X.1 X.2.1 dL_rains_341 (lv_at hl 5 rfl) ?_
                refine lv_if_eq (x := 1) (tgt := 369) X.1 X.2.1 dL_rains_343 (by decide) (fun c_343 => by first | exact absurd c_343 (by decide) | exact absurd (by decide) c_343) (fun c_343 => ?_)
                refine lv_iload X.1 X.2.1 dL_rains_346 (lv_at hl 3 rfl) ?_
                refine lv_iload X.1 X.2.1 dL_rains_348 (lv_at hl 4 rfl) ?_
                refine n_ne (a := cn (liveP st1) (st 0 0 + m)) (b := cn (liveP st1) (st 0 0 + m)) (tgt := 369) X dL_rains_350 (by decide) (fun n_350 => by exfalso; omega) (fun n_350 => ?_)
                refine lv_aload_n X.1 X.2.1 dL_rains_353 rfl (lv_at hl 1 rfl) ?_
                refine lv_aload_n X.1 X.2.1 dL_rains_354 rfl (lv_at hl 2 rfl) ?_
                refine lv_iconst (v := 1) X.1 X.2.1 dL_rains_355 (by decide) ?_
                refine n_iald (i := 1) (v := (nI 1)) X S hck_340 pk_us dL_rains_356 ?_
                refine call_i (run_V X S (u_draw l hst G f_340 st1 x hI_2 hR_340 1 (by omega) (by omega)) 1 gL_rains_X9_draw rfl rfl rfl (by decide +kernel) ⟨(by exact Nat.le_of_ble_eq_true rfl), (by exact Nat.le_of_ble_eq_true rfl)⟩ (RX.obj hR_340) rfl rfl rfl hl.1 rfl (by exact Nat.le_of_ble_eq_true rfl) dL_rains_357 ⟨(show _ ≤ 300 by omega), (show _ ≤ 10600 by omega)⟩) S (fun r_357 f_357 H locs hr_357 S => ?_)
                obtain ⟨hr357, hRc_357, hmc_357⟩ := hr_357
                have hck_357 := hmc_357 _ _ _ hck_340 (by unfold tX; omega)
                have hgg_k_357 := hmc_357 _ _ _ hgg_k_340 (by unfold tX; omega)
                have hee_k_357 := hmc_357 _ _ _ hee_k_340 (by unfold tX; omega)
                have haa_k_357 := hmc_357 _ _ _ haa_k_340 (by unfold tX; omega)
                have hdd_k_357 := hmc_357 _ _ _ hdd_k_340 (by unfold tX; omega)
                have hI_357 : sInv (s_up st1 0 4 1) := sInv_draw hI_2 (by omega)
                obtain rfl := (show r_357 = nI (rainSt st m 0 4) from hr357.trans (by rw [hd4]))
                refine lv_iload X.1 X.2.1 dL_rains_360 (lv_at hl 0 rfl) ?_
                refine n_ne (a := rainSt st m 0 4) (b := rainSt st m 0 4) (tgt := 369) X dL_rains_362 (by decide) (fun n_362 => by exfalso; omega) (fun n_362 => ?_)
                refine lv_iconst (v := 1) X.1 X.2.1 dL_rains_365 (by decide) ?_
                refine lv_goto (tgt := 370) X.1 X.2.1 dL_rains_366 (by decide) ?_
                subst hQ9
                refine e_z X hr S (by omega) (by omega) dL_rains_370 rfl ?_
                have ho2 : ∀ (B i : Nat), (B = 0 ∧ i ≠ 0 ∧ i ≠ 4) ∨ B = 1 ∨ 8 ≤ B → s_up st1 0 4 1 B i = st B i := fun B i h => by rw [s_up_ne _ (by omega)]; exact ho B i h
                have hn2 : s_up st1 0 4 1 0 0 = st 0 0 + m := by rw [s_up_ne _ (by omega)]; exact hn1
                refine ⟨rfl, s_up st1 0 4 1, ⟨_, _, _, _, _, hI_357, hRc_357, hck_357, hgg_k_357, hdd_k_357, hee_k_357, haa_k_357, ⟨by rw [pk_un (by omega), hC0k, hn2], by rw [pk_us, s_up_self], by rw [pk_un (by omega), hCk 3 (by omega) (by omega), hC3, ho2 0 2 (by omega)], by rw [pk_un (by omega), hCk 4 (by omega) (by omega), hC4, ho2 0 3 (by omega)]⟩, grdL_cong hgr (fun c _ => ho2 1 c (by omega)), ?_, ?_⟩, by omega, by rw [ho2 0 1 (by omega)]; omega, ?_⟩
                · rw [ho2 0 2 (by omega)]
                  exact fun i hi => by rw [ho2 9 i (by omega)]; exact hE i hi
                · rw [ho2 0 3 (by omega)]
                  exact fun i hi => by rw [ho2 10 i (by omega), ho2 11 i (by omega)]; exact hA i hi
                · rw [ho2 0 3 (by omega)]
                  exact fun i hi => by rw [ho2 10 i (by omega), ho2 11 i (by omega)]; exact hbA i hi
            · have hlt : k < st1 0 0 := by omega
              have hc7 := (hI_2.2.2.1 k hlt).2.2.2.2.2.2
              have hbk := cn_le (liveP st1) k
              refine lv_iload X.1 X.2.1 dL_rains_296 (lv_at hl 3 rfl) ?_
              refine lv_aload_n X.1 X.2.1 dL_rains_298 rfl (lv_at hl 0 rfl) ?_
              refine lv_iload X.1 X.2.1 dL_rains_299 (lv_at hl 5 rfl) ?_
              refine lv_iconst (v := 3) X.1 X.2.1 dL_rains_301 (by decide) ?_
              refine call_iq (run_V X S (u_about l hst G fk st1 x hI_2 hRk k 3 hlt (by decide)) 2 gL_rains_X9_about rfl rfl rfl (by decide +kernel) ⟨(by exact Nat.le_of_ble_eq_true rfl), (by exact Nat.le_of_ble_eq_true rfl)⟩ (RX.obj hRk) rfl rfl rfl hl.1 rfl (by exact Nat.le_of_ble_eq_true rfl) dL_rains_302 ⟨(show _ ≤ 300 by omega), (show _ ≤ 10600 by omega)⟩) S (fun r_302 H locs hr_302 S => ?_)
              obtain rfl := (show r_302 = nI (st1 7 k) from hr_302)
              refine z_le (a := st1 7 k) (tgt := 312) X dL_rains_305 (by decide) (fun n_305 => ?_) (fun n_305 => ?_)
              · refine lv_iconst (v := 0) X.1 X.2.1 dL_rains_312 (by decide) ?_
                refine n_add (a := cn (liveP st1) k) (b := 0) X dL_rains_313 ?_
                refine lv_istore (lv' := [(5, .int (nI ((cn (liveP st1) k) + 0))), (0, .ref x), (2, .ref cc), (4, .int (nI (cn (liveP st1) (st 0 0 + m)))), (6, .int 1), (7, .int (nI k))]) X.1 X.2.1 dL_rains_314 hl (by decide) rfl (fun ls hl => ?_)
                refine lv_iinc (v := (nI (k + 1))) (lv' := [(7, .int (nI (k + 1))), (5, .int (nI ((cn (liveP st1) k) + 0))), (0, .ref x), (2, .ref cc), (4, .int (nI (cn (liveP st1) (st 0 0 + m)))), (6, .int 1)]) X.1 X.2.1 dL_rains_316 hl (k := 5) rfl (nI_1 _) (by decide) rfl (fun ls hl => ?_)
                refine lv_goto (tgt := 288) X.1 X.2.1 dL_rains_319 (by decide) ?_
                have e1 : (cn (liveP st1) (k + 1)) = (cn (liveP st1) k) + 0 := liv_f (by omega)
                exact ih (k + 1) _ _ H locs ls (by omega) (by omega) (by omega) (by omega) S (by rw [e1]; exact lv_sub hl [2, 3, 4, 1, 5, 0] rfl)
              · refine lv_iconst (v := 1) X.1 X.2.1 dL_rains_308 (by decide) ?_
                refine lv_goto (tgt := 313) X.1 X.2.1 dL_rains_309 (by decide) ?_
                refine n_add (a := cn (liveP st1) k) (b := 1) X dL_rains_313 ?_
                refine lv_istore (lv' := [(5, .int (nI ((cn (liveP st1) k) + 1))), (0, .ref x), (2, .ref cc), (4, .int (nI (cn (liveP st1) (st 0 0 + m)))), (6, .int 1), (7, .int (nI k))]) X.1 X.2.1 dL_rains_314 hl (by decide) rfl (fun ls hl => ?_)
                refine lv_iinc (v := (nI (k + 1))) (lv' := [(7, .int (nI (k + 1))), (5, .int (nI ((cn (liveP st1) k) + 1))), (0, .ref x), (2, .ref cc), (4, .int (nI (cn (liveP st1) (st 0 0 + m)))), (6, .int 1)]) X.1 X.2.1 dL_rains_316 hl (k := 5) rfl (nI_1 _) (by decide) rfl (fun ls hl => ?_)
                refine lv_goto (tgt := 288) X.1 X.2.1 dL_rains_319 (by decide) ?_
                have e1 : (cn (liveP st1) (k + 1)) = (cn (liveP st1) k) + 1 := liv_t (by omega)
                exact ih (k + 1) _ _ H locs ls (by omega) (by omega) (by omega) (by omega) S (by rw [e1]; exact lv_sub hl [2, 3, 4, 1, 5, 0] rfl)
        exact loop2 (st 0 0 + m + 1) 0 _ _ _ _ ls (by omega) (by omega) (by omega) (by omega) S (lv_sub hl [1, 3, 5, 6, 7, 0] rfl)
      · have hdr : (rainSt st n 0 4) < 65537 := (sInv_rain hI n (by omega)).1.2.2.2.2
        have hd1 := nxt_lt (rainSt st n 0 4)
        have hd2 := nxt_lt (nxt (rainSt st n 0 4))
        have hd3 := nxt_lt (nxt (nxt (rainSt st n 0 4)))
        refine lv_iload X.1 X.2.1 dL_rains_38 (lv_at hl 6 rfl) ?_
        refine lv_if_eq (x := 1) (tgt := 285) X.1 X.2.1 dL_rains_40 (by decide) (fun c_40 => by first | exact absurd c_40 (by decide) | exact absurd (by decide) c_40) (fun c_40 => ?_)
        refine lv_iconst (v := 3) X.1 X.2.1 dL_rains_43 (by decide) ?_
        refine r_newI (N' := 3) X S 2006 (by decide) (by decide +kernel) (by decide) (by decide) (by decide) (show _ ≤ 300 by omega) (show _ ≤ 10600 by omega) dL_rains_44 (fun q_44 H hn_q_44 S => ?_)
        obtain ⟨f_44, ef_44⟩ : ∃ z9 : Wd, z9 = wu fk q_44 2006 (eI G 3 (fun _ => 0)) := ⟨_, rfl⟩
        rw [← ef_44] at S
        have hck_44 : f_44 cc = some (2001, eI G 5 Ck) := by rw [ef_44]; exact wu_new hn_q_44 hck
        have hgg_k_44 : f_44 gg = some (2002, eI G 16 w) := by rw [ef_44]; exact wu_new hn_q_44 hgg_k
        have hNq44 : f_44 q_44 = some (2006, eI G 3 (fun _ => 0)) := by rw [ef_44]; exact wu_self _ _ _ _
        have hR_n : RX G f_44 st1 x := hRk.kept (by rw [ef_44]; exact md_mono (md_new hn_q_44) (fun t q => q.elim)) (by rw [hn1]; omega)
        have hmc_n : md (fun t => t = 2001 ∨ t = 2006) fk f_44 := by rw [ef_44]; exact md_mono (md_new hn_q_44) (fun t q => q.elim)
        have hmx_n : md (fun t => t = 2001) fk f_44 := by rw [ef_44]; exact md_mono (md_new hn_q_44) (fun t q => q.elim)
        have hqn : fk q_44 = none := hn_q_44
        refine lv_astore (lv' := [(8, .ref q_44), (0, .ref x), (1, .int (nI m)), (2, .ref cc), (3, .ref gg), (4, .int (nI (cn (liveP st1) (st 0 0 + m)))), (5, .int 0), (6, .int 1), (7, .int (nI n))]) X.1 X.2.1 dL_rains_46 hl (by decide) rfl (fun ls hl => ?_)
        refine lv_iconst (v := 0) X.1 X.2.1 dL_rains_48 (by decide) ?_
        refine lv_istore (lv' := [(9, .int 0), (8, .ref q_44), (0, .ref x), (1, .int (nI m)), (2, .ref cc), (3, .ref gg), (4, .int (nI (cn (liveP st1) (st 0 0 + m)))), (5, .int 0), (6, .int 1), (7, .int (nI n))]) X.1 X.2.1 dL_rains_49 hl (by decide) rfl (fun ls hl => ?_)
        refine lv_iload X.1 X.2.1 dL_rains_51 (lv_at hl 0 rfl) ?_
        refine lv_iconst (v := 3) X.1 X.2.1 dL_rains_53 (by decide) ?_
        refine n_ge (a := 0) (b := 3) (tgt := 100) X dL_rains_54 (by decide) (fun n_54 => by first | exact absurd n_54 (by decide) | exact absurd (by decide) n_54) (fun n_54 => ?_)
        refine lv_aload_n X.1 X.2.1 dL_rains_57 rfl (lv_at hl 4 rfl) ?_
        refine lv_iconst (v := 1) X.1 X.2.1 dL_rains_58 (by decide) ?_
        refine lv_bipush (v := 75) X.1 X.2.1 dL_rains_59 (by decide) ?_
        refine lv_aload_n X.1 X.2.1 dL_rains_61 rfl (lv_at hl 4 rfl) ?_
        refine lv_iconst (v := 1) X.1 X.2.1 dL_rains_62 (by decide) ?_
        refine n_iald (i := 1) (v := (nI (rainSt st n 0 4))) X S hck_44 hC1k dL_rains_63 ?_
        refine n_mul (a := 75) (b := rainSt st n 0 4) X dL_rains_64 ?_
        refine lv_bipush (v := 74) X.1 X.2.1 dL_rains_65 (by decide) ?_
        refine n_add (a := 75 * (rainSt st n 0 4)) (b := 74) X dL_rains_67 ?_
        refine r_ldc (v := 65537) X (by decide +kernel) dL_rains_68 ?_
        refine n_rem (a := (75 * (rainSt st n 0 4)) + 74) (b := 65537) X dL_rains_70 ?_
        refine r_toi (show nI (((75 * (rainSt st n 0 4)) + 74) % 65537) = nI (nxt (rainSt st n 0 4)) from rfl) ?_
        refine n_iast (i := 1) (v := (nI (nxt (rainSt st n 0 4)))) X S hck_44 (by decide) dL_rains_71 (fun f_71 H locs ef_71 S => ?_)
        have hck_71 : f_71 cc = some (2001, eI G 5 (upd Ck 1 (nI (nxt (rainSt st n 0 4))))) := by rw [ef_71]; exact wu_self _ _ _ _
        have hgg_k_71 : f_71 gg = some (2002, eI G 16 w) := by rw [ef_71]; exact wu_get hck_44 hgg_k_44 (by decide)
        have hNq44_71 : f_71 q_44 = some (2006, eI G 3 (fun _ => 0)) := by rw [ef_71]; exact wu_get hck_44 hNq44 (by decide)
        have hR_71_1 : RX G f_71 st1 x := hR_n.kept (by rw [ef_71]; exact md_mono (md_put hck_44) (fun t q => by subst q; unfold tX; omega)) (by rw [hn1]; omega)
        have hmx_71_1 : md (fun t => t = 2001) fk f_71 := md_tr hmx_n (by rw [ef_71]; exact md_put hck_44) (fun t q => q) (fun t q => q)
        refine lv_aload X.1 X.2.1 dL_rains_72 (lv_at hl 1 rfl) ?_
        refine lv_iload X.1 X.2.1 dL_rains_74 (lv_at hl 0 rfl) ?_
        refine lv_aload_n X.1 X.2.1 dL_rains_76 rfl (lv_at hl 4 rfl) ?_
        refine lv_iconst (v := 1) X.1 X.2.1 dL_rains_77 (by decide) ?_
        refine n_iald (i := 1) (v := (nI (nxt (rainSt st n 0 4)))) X S hck_71 pk_us dL_rains_78 ?_
        refine lv_iload X.1 X.2.1 dL_rains_79 (lv_at hl 0 rfl) ?_
        refine lv_iconst (v := 2) X.1 X.2.1 dL_rains_81 (by decide) ?_
        refine n_ne (a := 0) (b := 2) (tgt := 90) X dL_rains_82 (by decide) (fun n_82 => ?_) (fun n_82 => by first | exact absurd n_82 (by decide) | exact absurd (by decide) n_82)
        refine lv_bipush (v := 16) X.1 X.2.1 dL_rains_90 (by decide) ?_
        refine n_rem (a := nxt (rainSt st n 0 4)) (b := 16) X dL_rains_92 ?_
        refine n_iast (i := 0) (v := (nI ((nxt (rainSt st n 0 4)) % 16))) X S hNq44_71 (by decide) dL_rains_93 (fun f_93 H locs ef_93 S => ?_)
        have hck_93 : f_93 cc = some (2001, eI G 5 (upd Ck 1 (nI (nxt (rainSt st n 0 4))))) := by rw [ef_93]; exact wu_get hNq44_71 hck_71 (by decide)
        have hgg_k_93 : f_93 gg = some (2002, eI G 16 w) := by rw [ef_93]; exact wu_get hNq44_71 hgg_k_71 (by decide)
        have hNq44_93 : f_93 q_44 = some (2006, eI G 3 (upd (fun _ => 0) 0 (nI ((nxt (rainSt st n 0 4)) % 16)))) := by rw [ef_93]; exact wu_self _ _ _ _
        have hR_93_2 : RX G f_93 st1 x := hR_71_1.kept (by rw [ef_93]; exact md_mono (md_put hNq44_71) (fun t q => by subst q; unfold tX; omega)) (by rw [hn1]; omega)
        have hmx_93_2 : md (fun t => t = 2001) fk f_93 := md_skip hqn hmx_71_1 (by rw [ef_93])
        refine lv_iinc (v := 1) (lv' := [(9, .int 1), (8, .ref q_44), (0, .ref x), (1, .int (nI m)), (2, .ref cc), (3, .ref gg), (4, .int (nI (cn (liveP st1) (st 0 0 + m)))), (5, .int 0), (6, .int 1), (7, .int (nI n))]) X.1 X.2.1 dL_rains_94 hl (k := 0) rfl (by decide) (by decide) rfl (fun ls hl => ?_)
        refine lv_goto (tgt := 51) X.1 X.2.1 dL_rains_97 (by decide) ?_
        refine lv_iload X.1 X.2.1 dL_rains_51 (lv_at hl 0 rfl) ?_
        refine lv_iconst (v := 3) X.1 X.2.1 dL_rains_53 (by decide) ?_
        refine n_ge (a := 1) (b := 3) (tgt := 100) X dL_rains_54 (by decide) (fun n_54 => by first | exact absurd n_54 (by decide) | exact absurd (by decide) n_54) (fun n_54 => ?_)
        refine lv_aload_n X.1 X.2.1 dL_rains_57 rfl (lv_at hl 4 rfl) ?_
        refine lv_iconst (v := 1) X.1 X.2.1 dL_rains_58 (by decide) ?_
        refine lv_bipush (v := 75) X.1 X.2.1 dL_rains_59 (by decide) ?_
        refine lv_aload_n X.1 X.2.1 dL_rains_61 rfl (lv_at hl 4 rfl) ?_
        refine lv_iconst (v := 1) X.1 X.2.1 dL_rains_62 (by decide) ?_
        refine n_iald (i := 1) (v := (nI (nxt (rainSt st n 0 4)))) X S hck_93 pk_us dL_rains_63 ?_
        refine n_mul (a := 75) (b := nxt (rainSt st n 0 4)) X dL_rains_64 ?_
        refine lv_bipush (v := 74) X.1 X.2.1 dL_rains_65 (by decide) ?_
        refine n_add (a := 75 * (nxt (rainSt st n 0 4))) (b := 74) X dL_rains_67 ?_
        refine r_ldc (v := 65537) X (by decide +kernel) dL_rains_68 ?_
        refine n_rem (a := (75 * (nxt (rainSt st n 0 4))) + 74) (b := 65537) X dL_rains_70 ?_
        refine r_toi (show nI (((75 * (nxt (rainSt st n 0 4))) + 74) % 65537) = nI (nxt (nxt (rainSt st n 0 4))) from rfl) ?_
        refine n_iast (i := 1) (v := (nI (nxt (nxt (rainSt st n 0 4))))) X S hck_93 (by decide) dL_rains_71 (fun f_71 H locs ef_71 S => ?_)
        have hck_71 : f_71 cc = some (2001, eI G 5 (upd (upd Ck 1 (nI (nxt (rainSt st n 0 4)))) 1 (nI (nxt (nxt (rainSt st n 0 4)))))) := by rw [ef_71]; exact wu_self _ _ _ _
        have hgg_k_71 : f_71 gg = some (2002, eI G 16 w) := by rw [ef_71]; exact wu_get hck_93 hgg_k_93 (by decide)
        have hNq44_71 : f_71 q_44 = some (2006, eI G 3 (upd (fun _ => 0) 0 (nI ((nxt (rainSt st n 0 4)) % 16)))) := by rw [ef_71]; exact wu_get hck_93 hNq44_93 (by decide)
        have hR_71_3 : RX G f_71 st1 x := hR_93_2.kept (by rw [ef_71]; exact md_mono (md_put hck_93) (fun t q => by subst q; unfold tX; omega)) (by rw [hn1]; omega)
        have hmx_71_3 : md (fun t => t = 2001) fk f_71 := md_tr hmx_93_2 (by rw [ef_71]; exact md_put hck_93) (fun t q => q) (fun t q => q)
        refine lv_aload X.1 X.2.1 dL_rains_72 (lv_at hl 1 rfl) ?_
        refine lv_iload X.1 X.2.1 dL_rains_74 (lv_at hl 0 rfl) ?_
        refine lv_aload_n X.1 X.2.1 dL_rains_76 rfl (lv_at hl 4 rfl) ?_
        refine lv_iconst (v := 1) X.1 X.2.1 dL_rains_77 (by decide) ?_
        refine n_iald (i := 1) (v := (nI (nxt (nxt (rainSt st n 0 4))))) X S hck_71 pk_us dL_rains_78 ?_
        refine lv_iload X.1 X.2.1 dL_rains_79 (lv_at hl 0 rfl) ?_
        refine lv_iconst (v := 2) X.1 X.2.1 dL_rains_81 (by decide) ?_
        refine n_ne (a := 1) (b := 2) (tgt := 90) X dL_rains_82 (by decide) (fun n_82 => ?_) (fun n_82 => by first | exact absurd n_82 (by decide) | exact absurd (by decide) n_82)
        refine lv_bipush (v := 16) X.1 X.2.1 dL_rains_90 (by decide) ?_
        refine n_rem (a := nxt (nxt (rainSt st n 0 4))) (b := 16) X dL_rains_92 ?_
        refine n_iast (i := 1) (v := (nI ((nxt (nxt (rainSt st n 0 4))) % 16))) X S hNq44_71 (by decide) dL_rains_93 (fun f_93 H locs ef_93 S => ?_)
        have hck_93 : f_93 cc = some (2001, eI G 5 (upd (upd Ck 1 (nI (nxt (rainSt st n 0 4)))) 1 (nI (nxt (nxt (rainSt st n 0 4)))))) := by rw [ef_93]; exact wu_get hNq44_71 hck_71 (by decide)
        have hgg_k_93 : f_93 gg = some (2002, eI G 16 w) := by rw [ef_93]; exact wu_get hNq44_71 hgg_k_71 (by decide)
        have hNq44_93 : f_93 q_44 = some (2006, eI G 3 (upd (upd (fun _ => 0) 0 (nI ((nxt (rainSt st n 0 4)) % 16))) 1 (nI ((nxt (nxt (rainSt st n 0 4))) % 16)))) := by rw [ef_93]; exact wu_self _ _ _ _
        have hR_93_4 : RX G f_93 st1 x := hR_71_3.kept (by rw [ef_93]; exact md_mono (md_put hNq44_71) (fun t q => by subst q; unfold tX; omega)) (by rw [hn1]; omega)
        have hmx_93_4 : md (fun t => t = 2001) fk f_93 := md_skip hqn hmx_71_3 (by rw [ef_93])
        refine lv_iinc (v := 2) (lv' := [(9, .int 2), (8, .ref q_44), (0, .ref x), (1, .int (nI m)), (2, .ref cc), (3, .ref gg), (4, .int (nI (cn (liveP st1) (st 0 0 + m)))), (5, .int 0), (6, .int 1), (7, .int (nI n))]) X.1 X.2.1 dL_rains_94 hl (k := 0) rfl (by decide) (by decide) rfl (fun ls hl => ?_)
        refine lv_goto (tgt := 51) X.1 X.2.1 dL_rains_97 (by decide) ?_
        refine lv_iload X.1 X.2.1 dL_rains_51 (lv_at hl 0 rfl) ?_
        refine lv_iconst (v := 3) X.1 X.2.1 dL_rains_53 (by decide) ?_
        refine n_ge (a := 2) (b := 3) (tgt := 100) X dL_rains_54 (by decide) (fun n_54 => by first | exact absurd n_54 (by decide) | exact absurd (by decide) n_54) (fun n_54 => ?_)
        refine lv_aload_n X.1 X.2.1 dL_rains_57 rfl (lv_at hl 4 rfl) ?_
        refine lv_iconst (v := 1) X.1 X.2.1 dL_rains_58 (by decide) ?_
        refine lv_bipush (v := 75) X.1 X.2.1 dL_rains_59 (by decide) ?_
        refine lv_aload_n X.1 X.2.1 dL_rains_61 rfl (lv_at hl 4 rfl) ?_
        refine lv_iconst (v := 1) X.1 X.2.1 dL_rains_62 (by decide) ?_
        refine n_iald (i := 1) (v := (nI (nxt (nxt (rainSt st n 0 4))))) X S hck_93 pk_us dL_rains_63 ?_
        refine n_mul (a := 75) (b := nxt (nxt (rainSt st n 0 4))) X dL_rains_64 ?_
        refine lv_bipush (v := 74) X.1 X.2.1 dL_rains_65 (by decide) ?_
        refine n_add (a := 75 * (nxt (nxt (rainSt st n 0 4)))) (b := 74) X dL_rains_67 ?_
        refine r_ldc (v := 65537) X (by decide +kernel) dL_rains_68 ?_
        refine n_rem (a := (75 * (nxt (nxt (rainSt st n 0 4)))) + 74) (b := 65537) X dL_rains_70 ?_
        refine r_toi (show nI (((75 * (nxt (nxt (rainSt st n 0 4)))) + 74) % 65537) = nI (nxt (nxt (nxt (rainSt st n 0 4)))) from rfl) ?_
        refine n_iast (i := 1) (v := (nI (nxt (nxt (nxt (rainSt st n 0 4)))))) X S hck_93 (by decide) dL_rains_71 (fun f_71 H locs ef_71 S => ?_)
        have hck_71 : f_71 cc = some (2001, eI G 5 (upd (upd (upd Ck 1 (nI (nxt (rainSt st n 0 4)))) 1 (nI (nxt (nxt (rainSt st n 0 4))))) 1 (nI (nxt (nxt (nxt (rainSt st n 0 4))))))) := by rw [ef_71]; exact wu_self _ _ _ _
        have hgg_k_71 : f_71 gg = some (2002, eI G 16 w) := by rw [ef_71]; exact wu_get hck_93 hgg_k_93 (by decide)
        have hNq44_71 : f_71 q_44 = some (2006, eI G 3 (upd (upd (fun _ => 0) 0 (nI ((nxt (rainSt st n 0 4)) % 16))) 1 (nI ((nxt (nxt (rainSt st n 0 4))) % 16)))) := by rw [ef_71]; exact wu_get hck_93 hNq44_93 (by decide)
        have hR_71_5 : RX G f_71 st1 x := hR_93_4.kept (by rw [ef_71]; exact md_mono (md_put hck_93) (fun t q => by subst q; unfold tX; omega)) (by rw [hn1]; omega)
        have hmx_71_5 : md (fun t => t = 2001) fk f_71 := md_tr hmx_93_4 (by rw [ef_71]; exact md_put hck_93) (fun t q => q) (fun t q => q)
        refine lv_aload X.1 X.2.1 dL_rains_72 (lv_at hl 1 rfl) ?_
        refine lv_iload X.1 X.2.1 dL_rains_74 (lv_at hl 0 rfl) ?_
        refine lv_aload_n X.1 X.2.1 dL_rains_76 rfl (lv_at hl 4 rfl) ?_
        refine lv_iconst (v := 1) X.1 X.2.1 dL_rains_77 (by decide) ?_
        refine n_iald (i := 1) (v := (nI (nxt (nxt (nxt (rainSt st n 0 4)))))) X S hck_71 pk_us dL_rains_78 ?_
        refine lv_iload X.1 X.2.1 dL_rains_79 (lv_at hl 0 rfl) ?_
        refine lv_iconst (v := 2) X.1 X.2.1 dL_rains_81 (by decide) ?_
        refine n_ne (a := 2) (b := 2) (tgt := 90) X dL_rains_82 (by decide) (fun n_82 => by first | exact absurd n_82 (by decide) | exact absurd (by decide) n_82) (fun n_82 => ?_)
        refine lv_bipush (v := 64) X.1 X.2.1 dL_rains_85 (by decide) ?_
        refine lv_goto (tgt := 92) X.1 X.2.1 dL_rains_87 (by decide) ?_
        refine n_rem (a := nxt (nxt (nxt (rainSt st n 0 4)))) (b := 64) X dL_rains_92 ?_
        refine n_iast (i := 2) (v := (nI ((nxt (nxt (nxt (rainSt st n 0 4)))) % 64))) X S hNq44_71 (by decide) dL_rains_93 (fun f_93 H locs ef_93 S => ?_)
        have hck_93 : f_93 cc = some (2001, eI G 5 (upd (upd (upd Ck 1 (nI (nxt (rainSt st n 0 4)))) 1 (nI (nxt (nxt (rainSt st n 0 4))))) 1 (nI (nxt (nxt (nxt (rainSt st n 0 4))))))) := by rw [ef_93]; exact wu_get hNq44_71 hck_71 (by decide)
        have hgg_k_93 : f_93 gg = some (2002, eI G 16 w) := by rw [ef_93]; exact wu_get hNq44_71 hgg_k_71 (by decide)
        have hNq44_93 : f_93 q_44 = some (2006, eI G 3 (upd (upd (upd (fun _ => 0) 0 (nI ((nxt (rainSt st n 0 4)) % 16))) 1 (nI ((nxt (nxt (rainSt st n 0 4))) % 16))) 2 (nI ((nxt (nxt (nxt (rainSt st n 0 4)))) % 64)))) := by rw [ef_93]; exact wu_self _ _ _ _
        have hR_93_6 : RX G f_93 st1 x := hR_71_5.kept (by rw [ef_93]; exact md_mono (md_put hNq44_71) (fun t q => by subst q; unfold tX; omega)) (by rw [hn1]; omega)
        have hmx_93_6 : md (fun t => t = 2001) fk f_93 := md_skip hqn hmx_71_5 (by rw [ef_93])
        refine lv_iinc (v := 3) (lv' := [(9, .int 3), (8, .ref q_44), (0, .ref x), (1, .int (nI m)), (2, .ref cc), (3, .ref gg), (4, .int (nI (cn (liveP st1) (st 0 0 + m)))), (5, .int 0), (6, .int 1), (7, .int (nI n))]) X.1 X.2.1 dL_rains_94 hl (k := 0) rfl (by decide) (by decide) rfl (fun ls hl => ?_)
        refine lv_goto (tgt := 51) X.1 X.2.1 dL_rains_97 (by decide) ?_
        refine lv_iload X.1 X.2.1 dL_rains_51 (lv_at hl 0 rfl) ?_
        refine lv_iconst (v := 3) X.1 X.2.1 dL_rains_53 (by decide) ?_
        refine n_ge (a := 3) (b := 3) (tgt := 100) X dL_rains_54 (by decide) (fun n_54 => ?_) (fun n_54 => by first | exact absurd n_54 (by decide) | exact absurd (by decide) n_54)
        obtain ⟨qz, eqz⟩ : ∃ z9 : Nat, z9 = (nxt (nxt (nxt (rainSt st n 0 4)))) % 64 := ⟨_, rfl⟩
        have hqz : qz < 64 := by rw [eqz]; exact Nat.mod_lt _ (by omega)
        have J167 : ∀ (H : Heap) (locs : List Loc) (ls : Array Slot), cxS G s0 f_93 H locs → lv_has ls 12 [(9, .int 3), (8, .ref q_44), (0, .ref x), (1, .int (nI m)), (2, .ref cc), (3, .ref gg), (4, .int (nI (cn (liveP st1) (st 0 0 + m)))), (5, .int 0), (6, .int 1), (7, .int (nI n))] → W p0 l e0 ({ frames := 9, cells := 300, slots := 10600, locals := 243 } : Room) s0 m0 ([.ref x, .int (nI m), .ref cc, .ref gg] : List Value).toArray b0 meth0 c0 H locs (ck + 1) (sk + 3) Q9 (F0 m0 167 ls [.int (nI (sizeOf qz))]) := by
          intro H locs ls S hl
          have hsz := sizeOf_in qz
          obtain ⟨sz, esz⟩ : ∃ z9 : Nat, z9 = sizeOf qz := ⟨_, rfl⟩
          rw [← esz]
          rw [← esz] at hsz
          obtain ⟨hsz1, hsz6⟩ := hsz
          refine lv_istore (lv' := [(9, .int (nI sz)), (8, .ref q_44), (0, .ref x), (1, .int (nI m)), (2, .ref cc), (3, .ref gg), (4, .int (nI (cn (liveP st1) (st 0 0 + m)))), (5, .int 0), (6, .int 1), (7, .int (nI n))]) X.1 X.2.1 dL_rains_167 hl (by decide) rfl (fun ls hl => ?_)
          refine lv_aload_n X.1 X.2.1 dL_rains_169 rfl (lv_at hl 5 rfl) ?_
          refine lv_aload X.1 X.2.1 dL_rains_170 (lv_at hl 1 rfl) ?_
          refine lv_iconst (v := 0) X.1 X.2.1 dL_rains_172 (by decide) ?_
          refine n_iald (i := 0) (v := (nI ((nxt (rainSt st n 0 4)) % 16))) X S hNq44_93 (by rw [pk_un (by omega), pk_un (by omega), pk_us]) dL_rains_173 ?_
          refine lv_aload X.1 X.2.1 dL_rains_174 (lv_at hl 1 rfl) ?_
          refine lv_iconst (v := 1) X.1 X.2.1 dL_rains_176 (by decide) ?_
          refine n_iald (i := 1) (v := (nI ((nxt (nxt (rainSt st n 0 4))) % 16))) X S hNq44_93 (by rw [pk_un (by omega), pk_us]) dL_rains_177 ?_
          refine call_ip (run_S X S (m_groundOf l G f_93 gg 2002 w (st 1) hgg_k_93 hgr ((nxt (rainSt st n 0 4)) % 16) ((nxt (nxt (rainSt st n 0 4))) % 16) (Nat.mod_lt _ (by omega)) (Nat.mod_lt _ (by omega))) 3 gL_rains_L_groundOf rfl rfl rfl (by decide +kernel) ⟨(by exact Nat.le_of_ble_eq_true rfl), (by exact Nat.le_of_ble_eq_true rfl)⟩ rfl hl.1 rfl (by exact Nat.le_of_ble_eq_true rfl) dL_rains_178 ⟨(show _ ≤ 300 by omega), (show _ ≤ 10600 by omega)⟩) S (fun r_178 H locs hr_178 S => ?_)
          obtain ⟨g, eg⟩ : ∃ z9 : Nat, z9 = st 1 (16 * ((nxt (nxt (rainSt st n 0 4))) % 16) + (nxt (rainSt st n 0 4)) % 16) := ⟨_, rfl⟩
          have hg2 : g ≤ 2 := by rw [eg]; exact hI.2.1 _ (by have := Nat.mod_lt (nxt (rainSt st n 0 4)) (show 0 < 16 by omega); have := Nat.mod_lt (nxt (nxt (rainSt st n 0 4))) (show 0 < 16 by omega); omega)
          obtain rfl := (show r_178 = nI g from hr_178.trans (by rw [eg]))
          refine lv_istore (lv' := [(10, .int (nI g)), (9, .int (nI sz)), (8, .ref q_44), (0, .ref x), (1, .int (nI m)), (2, .ref cc), (3, .ref gg), (4, .int (nI (cn (liveP st1) (st 0 0 + m)))), (5, .int 0), (6, .int 1), (7, .int (nI n))]) X.1 X.2.1 dL_rains_181 hl (by decide) rfl (fun ls hl => ?_)
          have J220 : ∀ (H : Heap) (locs : List Loc) (ls : Array Slot), cxS G s0 f_93 H locs → lv_has ls 12 [(10, .int (nI g)), (9, .int (nI sz)), (8, .ref q_44), (0, .ref x), (1, .int (nI m)), (2, .ref cc), (3, .ref gg), (4, .int (nI (cn (liveP st1) (st 0 0 + m)))), (5, .int 0), (6, .int 1), (7, .int (nI n))] → W p0 l e0 ({ frames := 9, cells := 300, slots := 10600, locals := 243 } : Room) s0 m0 ([.ref x, .int (nI m), .ref cc, .ref gg] : List Value).toArray b0 meth0 c0 H locs (ck + 1 + 0) (sk + 3 + 0) Q9 (F0 m0 220 ls [.int (nI (radOn g sz))]) := by
            intro H locs ls S hl
            obtain ⟨wd, ewd⟩ : ∃ z9 : Nat, z9 = radOn g sz := ⟨_, rfl⟩
            rw [← ewd]
            have hwd := radOn_in (g := g) hsz1 hsz6
            rw [← ewd] at hwd
            refine lv_istore (lv' := [(11, .int (nI wd)), (10, .int (nI g)), (9, .int (nI sz)), (8, .ref q_44), (0, .ref x), (1, .int (nI m)), (2, .ref cc), (3, .ref gg), (4, .int (nI (cn (liveP st1) (st 0 0 + m)))), (5, .int 0), (6, .int 1), (7, .int (nI n))]) X.1 X.2.1 dL_rains_220 hl (by decide) rfl (fun ls hl => ?_)
            have hx16 := Nat.mod_lt (nxt (rainSt st n 0 4)) (show 0 < 16 by omega)
            have hy16 := Nat.mod_lt (nxt (nxt (rainSt st n 0 4))) (show 0 < 16 by omega)
            refine lv_aload_n X.1 X.2.1 dL_rains_222 rfl (lv_at hl 4 rfl) ?_
            refine lv_aload_n X.1 X.2.1 dL_rains_223 rfl (lv_at hl 6 rfl) ?_
            refine lv_iconst (v := 0) X.1 X.2.1 dL_rains_224 (by decide) ?_
            refine n_iald (i := 0) (v := (nI (st 0 0 + n))) X S hck_93 (by rw [pk_un (by omega), pk_un (by omega), pk_un (by omega)]; exact hC0k) dL_rains_225 ?_
            refine lv_iconst (v := 0) X.1 X.2.1 dL_rains_226 (by decide) ?_
            refine call_iq (run_V X S (u_about l hst G f_93 st1 x hI_2 hR_93_6 (st 0 0 + n) 0 (by omega) (by decide)) 2 gL_rains_X9_about rfl rfl rfl (by decide +kernel) ⟨(by exact Nat.le_of_ble_eq_true rfl), (by exact Nat.le_of_ble_eq_true rfl)⟩ (RX.obj hR_93_6) rfl rfl rfl hl.1 rfl (by exact Nat.le_of_ble_eq_true rfl) dL_rains_227 ⟨(show _ ≤ 300 by omega), (show _ ≤ 10600 by omega)⟩) S (fun r_227 H locs hr_227 S => ?_)
            obtain rfl := (show r_227 = nI ((nxt (rainSt st n 0 4)) % 16) from hr_227.trans (congrArg nI (by rw [est1]; exact rain_2 st (by omega))))
            refine lv_aload X.1 X.2.1 dL_rains_230 (lv_at hl 3 rfl) ?_
            refine lv_iconst (v := 0) X.1 X.2.1 dL_rains_232 (by decide) ?_
            refine n_iald (i := 0) (v := (nI ((nxt (rainSt st n 0 4)) % 16))) X S hNq44_93 (by rw [pk_un (by omega), pk_un (by omega), pk_us]) dL_rains_233 ?_
            refine n_ne (a := (nxt (rainSt st n 0 4)) % 16) (b := (nxt (rainSt st n 0 4)) % 16) (tgt := 269) X dL_rains_234 (by decide) (fun n_234 => by exfalso; omega) (fun n_234 => ?_)
            refine lv_aload_n X.1 X.2.1 dL_rains_237 rfl (lv_at hl 4 rfl) ?_
            refine lv_aload_n X.1 X.2.1 dL_rains_238 rfl (lv_at hl 6 rfl) ?_
            refine lv_iconst (v := 0) X.1 X.2.1 dL_rains_239 (by decide) ?_
            refine n_iald (i := 0) (v := (nI (st 0 0 + n))) X S hck_93 (by rw [pk_un (by omega), pk_un (by omega), pk_un (by omega)]; exact hC0k) dL_rains_240 ?_
            refine lv_iconst (v := 1) X.1 X.2.1 dL_rains_241 (by decide) ?_
            refine call_iq (run_V X S (u_about l hst G f_93 st1 x hI_2 hR_93_6 (st 0 0 + n) 1 (by omega) (by decide)) 2 gL_rains_X9_about rfl rfl rfl (by decide +kernel) ⟨(by exact Nat.le_of_ble_eq_true rfl), (by exact Nat.le_of_ble_eq_true rfl)⟩ (RX.obj hR_93_6) rfl rfl rfl hl.1 rfl (by exact Nat.le_of_ble_eq_true rfl) dL_rains_242 ⟨(show _ ≤ 300 by omega), (show _ ≤ 10600 by omega)⟩) S (fun r_242 H locs hr_242 S => ?_)
            obtain rfl := (show r_242 = nI ((nxt (nxt (rainSt st n 0 4))) % 16) from hr_242.trans (congrArg nI (by rw [est1]; exact rain_3 st (by omega))))
            refine lv_aload X.1 X.2.1 dL_rains_245 (lv_at hl 3 rfl) ?_
            refine lv_iconst (v := 1) X.1 X.2.1 dL_rains_247 (by decide) ?_
            refine n_iald (i := 1) (v := (nI ((nxt (nxt (rainSt st n 0 4))) % 16))) X S hNq44_93 (by rw [pk_un (by omega), pk_us]) dL_rains_248 ?_
            refine n_ne (a := (nxt (nxt (rainSt st n 0 4))) % 16) (b := (nxt (nxt (rainSt st n 0 4))) % 16) (tgt := 269) X dL_rains_249 (by decide) (fun n_249 => by exfalso; omega) (fun n_249 => ?_)
            refine lv_aload_n X.1 X.2.1 dL_rains_252 rfl (lv_at hl 4 rfl) ?_
            refine lv_aload_n X.1 X.2.1 dL_rains_253 rfl (lv_at hl 6 rfl) ?_
            refine lv_iconst (v := 0) X.1 X.2.1 dL_rains_254 (by decide) ?_
            refine n_iald (i := 0) (v := (nI (st 0 0 + n))) X S hck_93 (by rw [pk_un (by omega), pk_un (by omega), pk_un (by omega)]; exact hC0k) dL_rains_255 ?_
            refine lv_iconst (v := 2) X.1 X.2.1 dL_rains_256 (by decide) ?_
            refine call_iq (run_V X S (u_about l hst G f_93 st1 x hI_2 hR_93_6 (st 0 0 + n) 2 (by omega) (by decide)) 2 gL_rains_X9_about rfl rfl rfl (by decide +kernel) ⟨(by exact Nat.le_of_ble_eq_true rfl), (by exact Nat.le_of_ble_eq_true rfl)⟩ (RX.obj hR_93_6) rfl rfl rfl hl.1 rfl (by exact Nat.le_of_ble_eq_true rfl) dL_rains_257 ⟨(show _ ≤ 300 by omega), (show _ ≤ 10600 by omega)⟩) S (fun r_257 H locs hr_257 S => ?_)
            obtain rfl := (show r_257 = nI (wd) from hr_257.trans (congrArg nI (by rw [est1, ewd, eg, esz, eqz]; exact rain_5 st (by omega))))
            refine lv_iload X.1 X.2.1 dL_rains_260 (lv_at hl 0 rfl) ?_
            refine n_ne (a := wd) (b := wd) (tgt := 269) X dL_rains_262 (by decide) (fun n_262 => by exfalso; omega) (fun n_262 => ?_)
            refine lv_iconst (v := 1) X.1 X.2.1 dL_rains_265 (by decide) ?_
            refine lv_goto (tgt := 270) X.1 X.2.1 dL_rains_266 (by decide) ?_
            refine lv_istore (lv' := [(6, .int 1), (11, .int (nI wd)), (10, .int (nI g)), (9, .int (nI sz)), (8, .ref q_44), (0, .ref x), (1, .int (nI m)), (2, .ref cc), (3, .ref gg), (4, .int (nI (cn (liveP st1) (st 0 0 + m)))), (5, .int 0), (7, .int (nI n))]) X.1 X.2.1 dL_rains_270 hl (by decide) rfl (fun ls hl => ?_)
            refine lv_aload_n X.1 X.2.1 dL_rains_272 rfl (lv_at hl 7 rfl) ?_
            refine lv_iconst (v := 0) X.1 X.2.1 dL_rains_273 (by decide) ?_
            refine lv_dup2_11 X.1 X.2.1 dL_rains_274 rfl rfl ?_
            refine n_iald (i := 0) (v := (nI (st 0 0 + n))) X S hck_93 (by rw [pk_un (by omega), pk_un (by omega), pk_un (by omega)]; exact hC0k) dL_rains_275 ?_
            refine lv_iconst (v := 1) X.1 X.2.1 dL_rains_276 (by decide) ?_
            refine n_add (a := st 0 0 + n) (b := 1) X dL_rains_277 ?_
            refine n_iast (i := 0) (v := (nI ((st 0 0 + n) + 1))) X S hck_93 (by decide) dL_rains_278 (fun f_278 H locs ef_278 S => ?_)
            have hck_278 : f_278 cc = some (2001, eI G 5 (upd (upd (upd (upd Ck 1 (nI (nxt (rainSt st n 0 4)))) 1 (nI (nxt (nxt (rainSt st n 0 4))))) 1 (nI (nxt (nxt (nxt (rainSt st n 0 4)))))) 0 (nI ((st 0 0 + n) + 1)))) := by rw [ef_278]; exact wu_self _ _ _ _
            have hgg_k_278 : f_278 gg = some (2002, eI G 16 w) := by rw [ef_278]; exact wu_get hck_93 hgg_k_93 (by decide)
            have hNq44_278 : f_278 q_44 = some (2006, eI G 3 (upd (upd (upd (fun _ => 0) 0 (nI ((nxt (rainSt st n 0 4)) % 16))) 1 (nI ((nxt (nxt (rainSt st n 0 4))) % 16))) 2 (nI ((nxt (nxt (nxt (rainSt st n 0 4)))) % 64)))) := by rw [ef_278]; exact wu_get hck_93 hNq44_93 (by decide)
            have hR_278_7 : RX G f_278 st1 x := hR_93_6.kept (by rw [ef_278]; exact md_mono (md_put hck_93) (fun t q => by subst q; unfold tX; omega)) (by rw [hn1]; omega)
            have hmx_278_7 : md (fun t => t = 2001) fk f_278 := md_tr hmx_93_6 (by rw [ef_278]; exact md_put hck_93) (fun t q => q) (fun t q => q)
            refine lv_iinc (v := (nI (n + 1))) (lv' := [(7, .int (nI (n + 1))), (6, .int 1), (11, .int (nI wd)), (10, .int (nI g)), (9, .int (nI sz)), (8, .ref q_44), (0, .ref x), (1, .int (nI m)), (2, .ref cc), (3, .ref gg), (4, .int (nI (cn (liveP st1) (st 0 0 + m)))), (5, .int 0)]) X.1 X.2.1 dL_rains_279 hl (k := 11) rfl (nI_1 _) (by decide) rfl (fun ls hl => ?_)
            refine lv_goto (tgt := 32) X.1 X.2.1 dL_rains_282 (by decide) ?_
            exact ih (n + 1) f_278 (upd (upd (upd (upd Ck 1 (nI (nxt (rainSt st n 0 4)))) 1 (nI (nxt (nxt (rainSt st n 0 4))))) 1 (nI (nxt (nxt (nxt (rainSt st n 0 4)))))) 0 (nI ((st 0 0 + n) + 1))) _ _ H locs ls (by omega) (by omega) hck_278 (md_tr hmd hmx_278_7 (fun t q => q) (fun t q => q)) (pk_us.trans (congrArg nI (by omega))) (by rw [pk_un (by omega), pk_us, rain_4]) (fun i h0 h1 => by rw [pk_un h0, pk_un h1, pk_un h1, pk_un h1]; exact hCk i h0 h1) (by omega) (by omega) S (lv_sub hl [6, 7, 8, 9, 10, 11, 1, 0] rfl)
          refine lv_iload X.1 X.2.1 dL_rains_183 (lv_at hl 0 rfl) ?_
          refine z_ne (a := g) (tgt := 193) X dL_rains_185 (by decide) (fun n_185 => ?_) (fun n_185 => ?_)
          · refine lv_iload X.1 X.2.1 dL_rains_193 (lv_at hl 0 rfl) ?_
            refine lv_iconst (v := 2) X.1 X.2.1 dL_rains_195 (by decide) ?_
            refine n_ne (a := g) (b := 2) (tgt := 206) X dL_rains_196 (by decide) (fun n_196 => ?_) (fun n_196 => ?_)
            · refine lv_iload X.1 X.2.1 dL_rains_206 (lv_at hl 1 rfl) ?_
              refine lv_iconst (v := 1) X.1 X.2.1 dL_rains_208 (by decide) ?_
              refine n_le (a := sz) (b := 1) (tgt := 219) X dL_rains_209 (by decide) (fun n_209 => ?_) (fun n_209 => ?_)
              · refine lv_iconst (v := 1) X.1 X.2.1 dL_rains_219 (by decide) ?_
                refine r_toi (show (1 : Int32) = nI (radOn g sz) from congrArg nI ((rad_e hsz1).2.2.2 n_185 n_196 hg2 (by omega))) ?_
                exact W.widen (by omega) (by omega) (J220 _ _ ls S (lv_sub hl [0, 1, 2, 3, 4, 5, 6, 7, 8, 9, 10] rfl))
              · refine lv_iload X.1 X.2.1 dL_rains_212 (lv_at hl 1 rfl) ?_
                refine lv_iconst (v := 1) X.1 X.2.1 dL_rains_214 (by decide) ?_
                refine n_sub (a := sz) (b := 1) X dL_rains_215 ?_
                refine lv_goto (tgt := 220) X.1 X.2.1 dL_rains_216 (by decide) ?_
                refine r_toi (show (nI (sz - 1) : Int32) = nI (radOn g sz) from congrArg nI ((rad_e hsz1).2.2.1 n_185 n_196 hg2 (by omega))) ?_
                exact W.widen (by omega) (by omega) (J220 _ _ ls S (lv_sub hl [0, 1, 2, 3, 4, 5, 6, 7, 8, 9, 10] rfl))
            · refine lv_iload X.1 X.2.1 dL_rains_199 (lv_at hl 1 rfl) ?_
              refine lv_iconst (v := 1) X.1 X.2.1 dL_rains_201 (by decide) ?_
              refine n_add (a := sz) (b := 1) X dL_rains_202 ?_
              refine lv_goto (tgt := 220) X.1 X.2.1 dL_rains_203 (by decide) ?_
              refine r_toi (show (nI (sz + 1) : Int32) = nI (radOn g sz) from congrArg nI ((rad_e hsz1).2.1 n_196)) ?_
              exact W.widen (by omega) (by omega) (J220 _ _ ls S (lv_sub hl [0, 1, 2, 3, 4, 5, 6, 7, 8, 9, 10] rfl))
          · refine lv_iload X.1 X.2.1 dL_rains_188 (lv_at hl 1 rfl) ?_
            refine lv_goto (tgt := 220) X.1 X.2.1 dL_rains_190 (by decide) ?_
            refine r_toi (show (nI sz : Int32) = nI (radOn g sz) from congrArg nI ((rad_e hsz1).1 n_185)) ?_
            exact W.widen (by omega) (by omega) (J220 _ _ ls S (lv_sub hl [0, 1, 2, 3, 4, 5, 6, 7, 8, 9, 10] rfl))
        refine lv_aload X.1 X.2.1 dL_rains_100 (lv_at hl 1 rfl) ?_
        refine lv_iconst (v := 2) X.1 X.2.1 dL_rains_102 (by decide) ?_
        refine n_iald (i := 2) (v := (nI qz)) X S hNq44_93 (by rw [eqz]; exact pk_us) dL_rains_103 ?_
        refine lv_bipush (v := 62) X.1 X.2.1 dL_rains_104 (by decide) ?_
        refine n_le (a := qz) (b := 62) (tgt := 114) X dL_rains_106 (by decide) (fun n_106 => ?_) (fun n_106 => ?_)
        · refine lv_aload X.1 X.2.1 dL_rains_114 (lv_at hl 1 rfl) ?_
          refine lv_iconst (v := 2) X.1 X.2.1 dL_rains_116 (by decide) ?_
          refine n_iald (i := 2) (v := (nI qz)) X S hNq44_93 (by rw [eqz]; exact pk_us) dL_rains_117 ?_
          refine lv_bipush (v := 60) X.1 X.2.1 dL_rains_118 (by decide) ?_
          refine n_le (a := qz) (b := 60) (tgt := 127) X dL_rains_120 (by decide) (fun n_120 => ?_) (fun n_120 => ?_)
          · refine lv_aload X.1 X.2.1 dL_rains_127 (lv_at hl 1 rfl) ?_
            refine lv_iconst (v := 2) X.1 X.2.1 dL_rains_129 (by decide) ?_
            refine n_iald (i := 2) (v := (nI qz)) X S hNq44_93 (by rw [eqz]; exact pk_us) dL_rains_130 ?_
            refine lv_bipush (v := 57) X.1 X.2.1 dL_rains_131 (by decide) ?_
            refine n_le (a := qz) (b := 57) (tgt := 140) X dL_rains_133 (by decide) (fun n_133 => ?_) (fun n_133 => ?_)
            · refine lv_aload X.1 X.2.1 dL_rains_140 (lv_at hl 1 rfl) ?_
              refine lv_iconst (v := 2) X.1 X.2.1 dL_rains_142 (by decide) ?_
              refine n_iald (i := 2) (v := (nI qz)) X S hNq44_93 (by rw [eqz]; exact pk_us) dL_rains_143 ?_
              refine lv_bipush (v := 51) X.1 X.2.1 dL_rains_144 (by decide) ?_
              refine n_le (a := qz) (b := 51) (tgt := 153) X dL_rains_146 (by decide) (fun n_146 => ?_) (fun n_146 => ?_)
              · refine lv_aload X.1 X.2.1 dL_rains_153 (lv_at hl 1 rfl) ?_
                refine lv_iconst (v := 2) X.1 X.2.1 dL_rains_155 (by decide) ?_
                refine n_iald (i := 2) (v := (nI qz)) X S hNq44_93 (by rw [eqz]; exact pk_us) dL_rains_156 ?_
                refine lv_bipush (v := 39) X.1 X.2.1 dL_rains_157 (by decide) ?_
                refine n_le (a := qz) (b := 39) (tgt := 166) X dL_rains_159 (by decide) (fun n_159 => ?_) (fun n_159 => ?_)
                · refine lv_iconst (v := 1) X.1 X.2.1 dL_rains_166 (by decide) ?_
                  refine r_toi (show (1 : Int32) = nI (sizeOf qz) from congrArg nI (siz_e.2.2.2.2.2 (by omega))) ?_
                  exact W.widen (by omega) (by omega) (J167 _ _ ls S (lv_sub hl [0, 1, 2, 3, 4, 5, 6, 7, 8, 9] rfl))
                · refine lv_iconst (v := 2) X.1 X.2.1 dL_rains_162 (by decide) ?_
                  refine lv_goto (tgt := 167) X.1 X.2.1 dL_rains_163 (by decide) ?_
                  refine r_toi (show (2 : Int32) = nI (sizeOf qz) from congrArg nI (siz_e.2.2.2.2.1 (by omega) (by omega))) ?_
                  exact W.widen (by omega) (by omega) (J167 _ _ ls S (lv_sub hl [0, 1, 2, 3, 4, 5, 6, 7, 8, 9] rfl))
              · refine lv_iconst (v := 3) X.1 X.2.1 dL_rains_149 (by decide) ?_
                refine lv_goto (tgt := 167) X.1 X.2.1 dL_rains_150 (by decide) ?_
                refine r_toi (show (3 : Int32) = nI (sizeOf qz) from congrArg nI (siz_e.2.2.2.1 (by omega) (by omega))) ?_
                exact W.widen (by omega) (by omega) (J167 _ _ ls S (lv_sub hl [0, 1, 2, 3, 4, 5, 6, 7, 8, 9] rfl))
            · refine lv_iconst (v := 4) X.1 X.2.1 dL_rains_136 (by decide) ?_
              refine lv_goto (tgt := 167) X.1 X.2.1 dL_rains_137 (by decide) ?_
              refine r_toi (show (4 : Int32) = nI (sizeOf qz) from congrArg nI (siz_e.2.2.1 (by omega) (by omega))) ?_
              exact W.widen (by omega) (by omega) (J167 _ _ ls S (lv_sub hl [0, 1, 2, 3, 4, 5, 6, 7, 8, 9] rfl))
          · refine lv_iconst (v := 5) X.1 X.2.1 dL_rains_123 (by decide) ?_
            refine lv_goto (tgt := 167) X.1 X.2.1 dL_rains_124 (by decide) ?_
            refine r_toi (show (5 : Int32) = nI (sizeOf qz) from congrArg nI (siz_e.2.1 (by omega) (by omega))) ?_
            exact W.widen (by omega) (by omega) (J167 _ _ ls S (lv_sub hl [0, 1, 2, 3, 4, 5, 6, 7, 8, 9] rfl))
        · refine lv_bipush (v := 6) X.1 X.2.1 dL_rains_109 (by decide) ?_
          refine lv_goto (tgt := 167) X.1 X.2.1 dL_rains_111 (by decide) ?_
          refine r_toi (show (6 : Int32) = nI (sizeOf qz) from congrArg nI (siz_e.1 (by omega))) ?_
          exact W.widen (by omega) (by omega) (J167 _ _ ls S (lv_sub hl [0, 1, 2, 3, 4, 5, 6, 7, 8, 9] rfl))
  exact loop (m + 1) 0 f_2 C _ _ _ _ ls (by omega) (by omega) hcc_2 (md_rf _ _) hC0 hC1 (fun i _ _ => rfl) (by first | omega | exact Nat.le_of_ble_eq_true rfl) (by first | omega | exact Nat.le_of_ble_eq_true rfl) S (lv_sub hl [4, 5, 6, 7, 3, 2, 1, 0] rfl)
