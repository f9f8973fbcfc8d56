/-! the law: others -/
theorem LAe.same {G : cx_G} {f : Wd} {st : St} {x cc gg dd ee aa : Nat} {C w D E : Nat → Int32} {A : Nat → Int64} (h : LA G f st x cc gg dd ee aa C w D E A) {j : Nat} (hb : LB st j) : LSt G x cc gg dd ee aa (j + 1) f :=
  ⟨st, ⟨C, w, D, E, A, h⟩, hb.1, Nat.le_succ_of_le hb.2.1, hb.2.2⟩
set_option maxRecDepth 100000 in
set_option maxHeartbeats 4000000 in
/-- others -/
theorem m_others (l : Launch) (hst : l.stackTraces = false) (G : cx_G) (f : Wd) (st : St) (x : Nat) (cc gg dd ee aa : Nat) (C w D E : Nat → Int32) (A : Nat → Int64) (h0 : LA G f st x cc gg dd ee aa C w D E A) (j : Nat) (hB : LB st j) (z y : Nat) (hz : z < 2 ^ 30) (hy : y < 2 ^ 30) : MI l G yL_others wsL_others 10 267 10 400 [.ref x, .int (nI z), .int (nI y), .ref cc, .ref gg, .ref ee, .ref aa] f (fun r f' => r = 1 ∧ LSt G x cc gg dd ee aa (j + 1) f') := by
  refine cx_body (cc := cL_others) (n := 12) (ret := (some .boolean)) (by decide +kernel) rfl (Nat.le_of_ble_eq_true rfl) ?_
  intro p0 e0 s0 m0 b0 meth0 c0 ls X hr hnm S hl
  have X : cxC G p0 l _ c0 cL_others 12 m0 meth0 s0 _ RL wsL_others := X
  have hl : lv_has ls 12 [(0, .ref x), (1, .int (nI z)), (2, .int (nI y)), (3, .ref cc), (4, .ref gg), (5, .ref ee), (6, .ref aa)] := hl
  obtain ⟨hI, hR0, hcc, hgg, hdd, hee, haa, ⟨hC0, hC1, hC3, hC4⟩, hgr, hE, hA⟩ := id h0
  obtain ⟨h57, hbt, hbA⟩ := id hB
  have hn200 := hI.1.1
  have h6 := hI.1.2.2.1
  have h8 := hI.1.2.2.2.1
  obtain ⟨kk, ekk⟩ : ∃ z9 : Nat, z9 = y / 256 % 3 := ⟨_, rfl⟩
  have hkk : kk ≤ 2 := by omega
  obtain ⟨ev, eev⟩ : ∃ z9 : Nat, z9 = 1 + y % 9 := ⟨_, rfl⟩
  have hev1 : 1 ≤ ev := by omega
  have hev9 : ev ≤ 9 := by omega
  have h4 := hI.1.2.2.2.2
  refine lv_iload_n X.1 X.2.1 dL_others_0 rfl (lv_at hl 1 rfl) ?_
  refine lv_iconst (v := 5) X.1 X.2.1 dL_others_1 (by decide) ?_
  refine n_rem (a := z) (b := 5) X dL_others_2 ?_
  obtain ⟨wt, hwt, ewt⟩ : ∃ z9 : Nat, (z9 < 5) ∧ nI (z % 5) = nI z9 := ⟨_, Nat.mod_lt _ (by omega), rfl⟩
  refine r_toi ewt ?_
  refine lv_istore (lv' := [(7, .int (nI wt)), (0, .ref x), (1, .int (nI z)), (2, .int (nI y)), (3, .ref cc), (4, .ref gg), (5, .ref ee), (6, .ref aa)]) X.1 X.2.1 dL_others_3 hl (by decide) rfl (fun ls hl => ?_)
  refine lv_iload X.1 X.2.1 dL_others_5 (lv_at hl 0 rfl) ?_
  refine lv_iconst (v := 2) X.1 X.2.1 dL_others_7 (by decide) ?_
  refine n_ge (a := wt) (b := 2) (tgt := 114) X dL_others_8 (by decide) (fun n_8 => ?_) (fun n_8 => ?_)
  · refine lv_iload X.1 X.2.1 dL_others_114 (lv_at hl 0 rfl) ?_
    refine lv_iconst (v := 2) X.1 X.2.1 dL_others_116 (by decide) ?_
    refine n_ne (a := wt) (b := 2) (tgt := 152) X dL_others_117 (by decide) (fun n_117 => ?_) (fun n_117 => ?_)
    · refine lv_iload X.1 X.2.1 dL_others_152 (lv_at hl 0 rfl) ?_
      refine lv_iconst (v := 3) X.1 X.2.1 dL_others_154 (by decide) ?_
      refine n_ne (a := wt) (b := 3) (tgt := 232) X dL_others_155 (by decide) (fun n_155 => ?_) (fun n_155 => ?_)
      · refine lv_aload_n X.1 X.2.1 dL_others_232 rfl (lv_at hl 4 rfl) ?_
        refine lv_iconst (v := 4) X.1 X.2.1 dL_others_233 (by decide) ?_
        refine n_iald (i := 4) (v := (nI (st 0 3))) X S hcc hC4 dL_others_234 ?_
        refine lv_bipush (v := 8) X.1 X.2.1 dL_others_235 (by decide) ?_
        refine n_ne (a := st 0 3) (b := 8) (tgt := 242) X dL_others_237 (by decide) (fun n_237 => ?_) (fun n_237 => ?_)
        · refine lv_aload X.1 X.2.1 dL_others_242 (lv_at hl 7 rfl) ?_
          refine lv_aload_n X.1 X.2.1 dL_others_244 rfl (lv_at hl 4 rfl) ?_
          refine lv_iconst (v := 4) X.1 X.2.1 dL_others_245 (by decide) ?_
          refine n_iald (i := 4) (v := (nI (st 0 3))) X S hcc hC4 dL_others_246 ?_
          refine W_genQ (fun Q9 hQ9 => ?_)
          have J265 : ∀ (H : Heap) (locs : List Loc) (ls : Array Slot), cxS G s0 f H locs → lv_has ls 12 [(7, .int (nI wt)), (0, .ref x), (1, .int (nI z)), (2, .int (nI y)), (3, .ref cc), (4, .ref gg), (5, .ref ee), (6, .ref aa)] → W p0 l e0 ({ frames := 10, cells := 10, slots := 400, locals := 267 } : Room) s0 m0 ([.ref x, .int (nI z), .int (nI y), .ref cc, .ref gg, .ref ee, .ref aa] : List Value).toArray b0 meth0 c0 H locs 0 0 Q9 (F0 m0 265 ls [.long (lN (if st 0 3 = 0 then 0 else st 10 (st 0 3 - 1))), .int (nI (st 0 3)), .ref aa]) := by
            intro H locs ls S hl
            obtain ⟨ub, eub⟩ : ∃ z9 : Nat, z9 = (if st 0 3 = 0 then 0 else st 10 (st 0 3 - 1)) := ⟨_, rfl⟩
            rw [← eub]
            have hub : ub ≤ 400000000 * st 0 3 ∧ (0 < st 0 3 → ub = st 10 (st 0 3 - 1)) := by
              rw [eub]
              split
              · exact ⟨Nat.zero_le _, fun q => by omega⟩
              · have := hbA (st 0 3 - 1) (by omega)
                exact ⟨by omega, fun _ => rfl⟩
            refine lv_lconst (v := 1) X.1 X.2.1 dL_others_265 (by decide) ?_
            refine n_ladd (a := ub) (b := 1) X dL_others_266 ?_
            refine lv_iload_n X.1 X.2.1 dL_others_267 rfl (lv_at hl 3 rfl) ?_
            refine r_ldc (v := 400000000) X (by decide +kernel) dL_others_268 ?_
            refine n_rem (a := y) (b := 400000000) X dL_others_270 ?_
            refine n_i2l (a := y % 400000000) X dL_others_271 ?_
            refine n_ladd (a := ub + 1) (b := y % 400000000) X dL_others_272 ?_
            obtain ⟨u, eu⟩ : ∃ z9 : Nat, z9 = (ub + 1) + (y % 400000000) := ⟨_, rfl⟩
            refine r_tol (show lN ((ub + 1) + (y % 400000000)) = lN u by rw [eu]) ?_
            refine n_last (i := st 0 3) (v := (lN u)) X S haa (by decide) dL_others_273 (fun f_273 H locs ef_273 S => ?_)
            have hcc_273 : f_273 cc = some (2001, eI G 5 C) := by rw [ef_273]; exact wu_get haa hcc (by decide)
            have hgg_273 : f_273 gg = some (2002, eI G 16 w) := by rw [ef_273]; exact wu_get haa hgg (by decide)
            have hdd_273 : f_273 dd = some (2003, eI G 64 D) := by rw [ef_273]; exact wu_get haa hdd (by decide)
            have hee_273 : f_273 ee = some (2004, eI G 6 E) := by rw [ef_273]; exact wu_get haa hee (by decide)
            have haa_273 : f_273 aa = some (2005, eJ G 16 (vp_updL A (st 0 3) (lN u))) := by rw [ef_273]; exact wu_self _ _ _ _
            have hR_273 : RX G f_273 st x := hR0.kept (by rw [ef_273]; exact md_mono (md_put haa) (fun t q => by subst q; unfold tX; omega)) hn200
            refine lv_aload X.1 X.2.1 dL_others_274 (lv_at hl 7 rfl) ?_
            refine lv_bipush (v := 8) X.1 X.2.1 dL_others_276 (by decide) ?_
            refine lv_aload_n X.1 X.2.1 dL_others_278 rfl (lv_at hl 4 rfl) ?_
            refine lv_iconst (v := 4) X.1 X.2.1 dL_others_279 (by decide) ?_
            refine n_iald (i := 4) (v := (nI (st 0 3))) X S hcc_273 hC4 dL_others_280 ?_
            refine n_add (a := 8) (b := st 0 3) X dL_others_281 ?_
            have J303 : ∀ (H : Heap) (locs : List Loc) (ls : Array Slot), cxS G s0 f_273 H locs → lv_has ls 12 [(7, .int (nI wt)), (0, .ref x), (1, .int (nI z)), (2, .int (nI y)), (3, .ref cc), (4, .ref gg), (5, .ref ee), (6, .ref aa)] → W p0 l e0 ({ frames := 10, cells := 10, slots := 400, locals := 267 } : Room) s0 m0 ([.ref x, .int (nI z), .int (nI y), .ref cc, .ref gg, .ref ee, .ref aa] : List Value).toArray b0 meth0 c0 H locs 0 0 Q9 (F0 m0 303 ls [.long (lN (if st 0 3 = 0 then 0 else st 11 (st 0 3 - 1))), .int (nI (8 + (st 0 3))), .ref aa]) := by
              intro H locs ls S hl
              obtain ⟨vb, evb⟩ : ∃ z9 : Nat, z9 = (if st 0 3 = 0 then 0 else st 11 (st 0 3 - 1)) := ⟨_, rfl⟩
              rw [← evb]
              have hvb : vb ≤ 100000 * st 0 3 ∧ (0 < st 0 3 → vb = st 11 (st 0 3 - 1)) := by
                rw [evb]
                split
                · exact ⟨Nat.zero_le _, fun q => by omega⟩
                · have := hbA (st 0 3 - 1) (by omega)
                  exact ⟨by omega, fun _ => rfl⟩
              refine lv_lconst (v := 1) X.1 X.2.1 dL_others_303 (by decide) ?_
              refine n_ladd (a := vb) (b := 1) X dL_others_304 ?_
              refine lv_iload_n X.1 X.2.1 dL_others_305 rfl (lv_at hl 3 rfl) ?_
              refine lv_bipush (v := 64) X.1 X.2.1 dL_others_306 (by decide) ?_
              refine n_div (a := y) (b := 64) X dL_others_308 ?_
              refine r_ldc (v := 100000) X (by decide +kernel) dL_others_309 ?_
              refine n_rem (a := y / 64) (b := 100000) X dL_others_311 ?_
              refine n_i2l (a := (y / 64) % 100000) X dL_others_312 ?_
              refine n_ladd (a := vb + 1) (b := (y / 64) % 100000) X dL_others_313 ?_
              obtain ⟨v, ev⟩ : ∃ z9 : Nat, z9 = (vb + 1) + ((y / 64) % 100000) := ⟨_, rfl⟩
              refine r_tol (show lN ((vb + 1) + ((y / 64) % 100000)) = lN v by rw [ev]) ?_
              refine n_last (i := 8 + (st 0 3)) (v := (lN v)) X S haa_273 (by decide) dL_others_314 (fun f_314 H locs ef_314 S => ?_)
              have hcc_314 : f_314 cc = some (2001, eI G 5 C) := by rw [ef_314]; exact wu_get haa_273 hcc_273 (by decide)
              have hgg_314 : f_314 gg = some (2002, eI G 16 w) := by rw [ef_314]; exact wu_get haa_273 hgg_273 (by decide)
              have hdd_314 : f_314 dd = some (2003, eI G 64 D) := by rw [ef_314]; exact wu_get haa_273 hdd_273 (by decide)
              have hee_314 : f_314 ee = some (2004, eI G 6 E) := by rw [ef_314]; exact wu_get haa_273 hee_273 (by decide)
              have haa_314 : f_314 aa = some (2005, eJ G 16 (vp_updL (vp_updL A (st 0 3) (lN u)) (8 + (st 0 3)) (lN v))) := by rw [ef_314]; exact wu_self _ _ _ _
              have hR_314 : RX G f_314 st x := hR_273.kept (by rw [ef_314]; exact md_mono (md_put haa_273) (fun t q => by subst q; unfold tX; omega)) hn200
              refine lv_aload_n X.1 X.2.1 dL_others_315 rfl (lv_at hl 4 rfl) ?_
              refine lv_iconst (v := 4) X.1 X.2.1 dL_others_316 (by decide) ?_
              refine lv_dup2_11 X.1 X.2.1 dL_others_317 rfl rfl ?_
              refine n_iald (i := 4) (v := (nI (st 0 3))) X S hcc_314 hC4 dL_others_318 ?_
              refine lv_iconst (v := 1) X.1 X.2.1 dL_others_319 (by decide) ?_
              refine n_add (a := st 0 3) (b := 1) X dL_others_320 ?_
              refine n_iast (i := 4) (v := (nI ((st 0 3) + 1))) X S hcc_314 (by decide) dL_others_321 (fun f_321 H locs ef_321 S => ?_)
              have hcc_321 : f_321 cc = some (2001, eI G 5 (upd C 4 (nI ((st 0 3) + 1)))) := by rw [ef_321]; exact wu_self _ _ _ _
              have hgg_321 : f_321 gg = some (2002, eI G 16 w) := by rw [ef_321]; exact wu_get hcc_314 hgg_314 (by decide)
              have hdd_321 : f_321 dd = some (2003, eI G 64 D) := by rw [ef_321]; exact wu_get hcc_314 hdd_314 (by decide)
              have hee_321 : f_321 ee = some (2004, eI G 6 E) := by rw [ef_321]; exact wu_get hcc_314 hee_314 (by decide)
              have haa_321 : f_321 aa = some (2005, eJ G 16 (vp_updL (vp_updL A (st 0 3) (lN u)) (8 + (st 0 3)) (lN v))) := by rw [ef_321]; exact wu_get hcc_314 haa_314 (by decide)
              have hR_321 : RX G f_321 st x := hR_314.kept (by rw [ef_321]; exact md_mono (md_put hcc_314) (fun t q => by subst q; unfold tX; omega)) hn200
              refine lv_aload_n X.1 X.2.1 dL_others_322 rfl (lv_at hl 1 rfl) ?_
              refine lv_aload X.1 X.2.1 dL_others_323 (lv_at hl 7 rfl) ?_
              refine lv_aload_n X.1 X.2.1 dL_others_325 rfl (lv_at hl 4 rfl) ?_
              refine lv_iconst (v := 4) X.1 X.2.1 dL_others_326 (by decide) ?_
              refine n_iald (i := 4) (v := (nI ((st 0 3) + 1))) X S hcc_321 pk_us dL_others_327 ?_
              refine lv_iconst (v := 1) X.1 X.2.1 dL_others_328 (by decide) ?_
              refine n_sub (a := (st 0 3) + 1) (b := 1) X dL_others_329 ?_
              refine r_toi (show nI (((st 0 3) + 1) - 1) = nI (st 0 3) from congrArg nI (by omega)) ?_
              refine n_lald (i := st 0 3) (v := (lN u)) X S haa_321 (by rw [pk_uLn (by omega), pk_uLs]) dL_others_330 ?_
              refine lv_aload X.1 X.2.1 dL_others_331 (lv_at hl 7 rfl) ?_
              refine lv_bipush (v := 8) X.1 X.2.1 dL_others_333 (by decide) ?_
              refine lv_aload_n X.1 X.2.1 dL_others_335 rfl (lv_at hl 4 rfl) ?_
              refine lv_iconst (v := 4) X.1 X.2.1 dL_others_336 (by decide) ?_
              refine n_iald (i := 4) (v := (nI ((st 0 3) + 1))) X S hcc_321 pk_us dL_others_337 ?_
              refine n_add (a := 8) (b := (st 0 3) + 1) X dL_others_338 ?_
              refine lv_iconst (v := 1) X.1 X.2.1 dL_others_339 (by decide) ?_
              refine n_sub (a := 8 + ((st 0 3) + 1)) (b := 1) X dL_others_340 ?_
              refine r_toi (show nI ((8 + ((st 0 3) + 1)) - 1) = nI (8 + st 0 3) from congrArg nI (by omega)) ?_
              refine n_lald (i := 8 + st 0 3) (v := (lN v)) X S haa_321 pk_uLs dL_others_341 ?_
              have hcan : canP st u v := by
                unfold canP
                rcases Nat.eq_zero_or_pos (st 0 3) with q | q
                · exact Or.inl q
                · have q1 := hub.2 q
                  have q2 := hvb.2 q
                  exact Or.inr ⟨by omega, by omega, by omega⟩
              refine call_i (run_V X S (u_anchor l hst G f_321 st x hI hR_321 u v (by omega) (by omega) (by omega) (by omega) hcan) 2 gL_others_X9_anchor rfl rfl rfl (by decide +kernel) ⟨(by exact Nat.le_of_ble_eq_true rfl), (by exact Nat.le_of_ble_eq_true rfl)⟩ (RX.obj hR_321) rfl rfl rfl hl.1 rfl (by exact Nat.le_of_ble_eq_true rfl) dL_others_342 ⟨(by exact Nat.le_of_ble_eq_true rfl), (by exact Nat.le_of_ble_eq_true rfl)⟩) S (fun r_342 f_342 H locs hr_342 S => ?_)
              obtain ⟨hr342, hRc_342, hmc_342⟩ := hr_342
              have hcc_342 := hmc_342 _ _ _ hcc_321 (by unfold tX; omega)
              have hgg_342 := hmc_342 _ _ _ hgg_321 (by unfold tX; omega)
              have hdd_342 := hmc_342 _ _ _ hdd_321 (by unfold tX; omega)
              have hee_342 := hmc_342 _ _ _ hee_321 (by unfold tX; omega)
              have haa_342 := hmc_342 _ _ _ haa_321 (by unfold tX; omega)
              have hI_342 : sInv (anchSt st u v) := sInv_anch hI hcan (by omega) (by omega) (by omega) (by omega)
              obtain rfl := (show r_342 = nI (st 0 3 + 1) from hr342)
              refine lv_aload_n X.1 X.2.1 dL_others_345 rfl (lv_at hl 4 rfl) ?_
              refine lv_iconst (v := 4) X.1 X.2.1 dL_others_346 (by decide) ?_
              refine n_iald (i := 4) (v := (nI ((st 0 3) + 1))) X S hcc_342 pk_us dL_others_347 ?_
              refine n_ne (a := st 0 3 + 1) (b := (st 0 3) + 1) (tgt := 355) X dL_others_348 (by decide) (fun n_348 => by exfalso; omega) (fun n_348 => ?_)
              refine lv_iconst (v := 1) X.1 X.2.1 dL_others_351 (by decide) ?_
              refine lv_goto (tgt := 356) X.1 X.2.1 dL_others_352 (by decide) ?_
              subst hQ9
              refine e_z X hr S (Nat.le_of_ble_eq_true rfl) (Nat.le_of_ble_eq_true rfl) dL_others_356 rfl ?_
              refine ⟨rfl, anchSt st u v, ⟨_, _, _, _, _, hI_342, hRc_342, hcc_342, hgg_342, hdd_342, hee_342, haa_342, ⟨by rw [pk_un (by omega), hC0, anch_e _ _ _ (by omega)], by rw [pk_un (by omega), hC1, anch_e _ _ _ (by omega)], by rw [pk_un (by omega), hC3, anch_e _ _ _ (by omega)], by rw [pk_us, anch_n]⟩, grdL_cong hgr (fun c _ => anch_e _ _ _ (by omega)), ?_, ?_⟩, by rw [anch_e _ _ _ (by omega)]; exact h57, by rw [anch_e _ _ _ (by omega)]; omega, ?_⟩
              · rw [anch_e _ _ _ (by omega)]
                exact fun i hi => by rw [anch_e _ _ _ (by omega)]; exact hE i hi
              · intro i hi
                rw [anch_n] at hi
                by_cases q : i = st 0 3
                · subst q
                  exact ⟨by rw [pk_uLn (by omega), pk_uLs, anch_10], by rw [pk_uLs, anch_11]⟩
                · have := hA i (by omega)
                  exact ⟨by rw [pk_uLn (by omega), pk_uLn (by omega), anch_e _ _ _ (by omega)]; exact this.1, by rw [pk_uLn (by omega), pk_uLn (by omega), anch_e _ _ _ (by omega)]; exact this.2⟩
              · intro i hi
                rw [anch_n] at hi
                by_cases q : i = st 0 3
                · rw [q, anch_10, anch_11]
                  omega
                · rw [anch_e _ _ _ (by omega), anch_e _ _ _ (by omega)]; exact hbA i (by omega)
            refine lv_aload_n X.1 X.2.1 dL_others_282 rfl (lv_at hl 4 rfl) ?_
            refine lv_iconst (v := 4) X.1 X.2.1 dL_others_283 (by decide) ?_
            refine n_iald (i := 4) (v := (nI (st 0 3))) X S hcc_273 hC4 dL_others_284 ?_
            refine z_ne (a := st 0 3) (tgt := 292) X dL_others_285 (by decide) (fun n_285 => ?_) (fun n_285 => ?_)
            · refine lv_aload X.1 X.2.1 dL_others_292 (lv_at hl 7 rfl) ?_
              refine lv_bipush (v := 8) X.1 X.2.1 dL_others_294 (by decide) ?_
              refine lv_aload_n X.1 X.2.1 dL_others_296 rfl (lv_at hl 4 rfl) ?_
              refine lv_iconst (v := 4) X.1 X.2.1 dL_others_297 (by decide) ?_
              refine n_iald (i := 4) (v := (nI (st 0 3))) X S hcc_273 hC4 dL_others_298 ?_
              refine n_add (a := 8) (b := st 0 3) X dL_others_299 ?_
              refine lv_iconst (v := 1) X.1 X.2.1 dL_others_300 (by decide) ?_
              refine n_sub (a := 8 + (st 0 3)) (b := 1) X dL_others_301 ?_
              refine n_lald (i := (8 + (st 0 3)) - 1) (v := (lN (st 11 (st 0 3 - 1)))) X S haa_273 (by rw [pk_uLn (by omega), show 8 + st 0 3 - 1 = 8 + (st 0 3 - 1) by omega]; exact (hA _ (by omega)).2) dL_others_302 ?_
              refine r_tol (show (lN (st 11 (st 0 3 - 1)) : Int64) = lN (if st 0 3 = 0 then 0 else st 11 (st 0 3 - 1)) from congrArg lN ((if_neg (by omega)).symm)) ?_
              exact W.widen (by omega) (by omega) (J303 _ _ ls S (lv_sub hl [0, 1, 2, 3, 4, 5, 6, 7] rfl))
            · refine lv_lconst (v := 0) X.1 X.2.1 dL_others_288 (by decide) ?_
              refine lv_goto (tgt := 303) X.1 X.2.1 dL_others_289 (by decide) ?_
              refine r_tol (show (0 : Int64) = lN (if st 0 3 = 0 then 0 else st 11 (st 0 3 - 1)) from congrArg lN (show 0 = (if st 0 3 = 0 then 0 else st 11 (st 0 3 - 1)) from (if_pos (by omega)).symm)) ?_
              exact W.widen (by omega) (by omega) (J303 _ _ ls S (lv_sub hl [0, 1, 2, 3, 4, 5, 6, 7] rfl))
          refine lv_aload_n X.1 X.2.1 dL_others_247 rfl (lv_at hl 4 rfl) ?_
          refine lv_iconst (v := 4) X.1 X.2.1 dL_others_248 (by decide) ?_
          refine n_iald (i := 4) (v := (nI (st 0 3))) X S hcc hC4 dL_others_249 ?_
          refine z_ne (a := st 0 3) (tgt := 257) X dL_others_250 (by decide) (fun n_250 => ?_) (fun n_250 => ?_)
          · have hb7 := hI.2.2.2.2.2.1 (st 0 3 - 1) (by omega)
            refine lv_aload X.1 X.2.1 dL_others_257 (lv_at hl 7 rfl) ?_
            refine lv_aload_n X.1 X.2.1 dL_others_259 rfl (lv_at hl 4 rfl) ?_
            refine lv_iconst (v := 4) X.1 X.2.1 dL_others_260 (by decide) ?_
            refine n_iald (i := 4) (v := (nI (st 0 3))) X S hcc hC4 dL_others_261 ?_
            refine lv_iconst (v := 1) X.1 X.2.1 dL_others_262 (by decide) ?_
            refine n_sub (a := st 0 3) (b := 1) X dL_others_263 ?_
            refine n_lald (i := (st 0 3) - 1) (v := (lN (st 10 (st 0 3 - 1)))) X S haa (hA _ (by omega)).1 dL_others_264 ?_
            refine r_tol (show (lN (st 10 (st 0 3 - 1)) : Int64) = lN (if st 0 3 = 0 then 0 else st 10 (st 0 3 - 1)) from congrArg lN ((if_neg (by omega)).symm)) ?_
            exact W.widen (by omega) (by omega) (J265 _ _ ls S (lv_sub hl [0, 1, 2, 3, 4, 5, 6, 7] rfl))
          · refine lv_lconst (v := 0) X.1 X.2.1 dL_others_253 (by decide) ?_
            refine lv_goto (tgt := 265) X.1 X.2.1 dL_others_254 (by decide) ?_
            refine r_tol (show (0 : Int64) = lN (if st 0 3 = 0 then 0 else st 10 (st 0 3 - 1)) from congrArg lN (show 0 = (if st 0 3 = 0 then 0 else st 10 (st 0 3 - 1)) from (if_pos (by omega)).symm)) ?_
            exact W.widen (by omega) (by omega) (J265 _ _ ls S (lv_sub hl [0, 1, 2, 3, 4, 5, 6, 7] rfl))
        · refine lv_iconst (v := 1) X.1 X.2.1 dL_others_240 (by decide) ?_
          refine e_z X hr S (Nat.le_of_ble_eq_true rfl) (Nat.le_of_ble_eq_true rfl) dL_others_241 rfl ?_
          exact ⟨rfl, LAe.same h0 hB⟩
      · refine lv_aload_n X.1 X.2.1 dL_others_158 rfl (lv_at hl 4 rfl) ?_
        refine lv_iconst (v := 3) X.1 X.2.1 dL_others_159 (by decide) ?_
        refine n_iald (i := 3) (v := (nI (st 0 2))) X S hcc hC3 dL_others_160 ?_
        refine lv_bipush (v := 6) X.1 X.2.1 dL_others_161 (by decide) ?_
        refine n_ne (a := st 0 2) (b := 6) (tgt := 189) X dL_others_163 (by decide) (fun n_163 => ?_) (fun n_163 => ?_)
        · refine lv_aload X.1 X.2.1 dL_others_189 (lv_at hl 6 rfl) ?_
          refine lv_aload_n X.1 X.2.1 dL_others_191 rfl (lv_at hl 4 rfl) ?_
          refine lv_iconst (v := 3) X.1 X.2.1 dL_others_192 (by decide) ?_
          refine n_iald (i := 3) (v := (nI (st 0 2))) X S hcc hC3 dL_others_193 ?_
          refine lv_iconst (v := 1) X.1 X.2.1 dL_others_194 (by decide) ?_
          refine lv_iload_n X.1 X.2.1 dL_others_195 rfl (lv_at hl 3 rfl) ?_
          refine lv_bipush (v := 9) X.1 X.2.1 dL_others_196 (by decide) ?_
          refine n_rem (a := y) (b := 9) X dL_others_198 ?_
          refine n_add (a := 1) (b := y % 9) X dL_others_199 ?_
          refine r_toi (show nI (1 + (y % 9)) = nI ev by rw [eev]) ?_
          refine n_iast (i := st 0 2) (v := (nI ev)) X S hee (by decide) dL_others_200 (fun f_200 H locs ef_200 S => ?_)
          have hcc_200 : f_200 cc = some (2001, eI G 5 C) := by rw [ef_200]; exact wu_get hee hcc (by decide)
          have hgg_200 : f_200 gg = some (2002, eI G 16 w) := by rw [ef_200]; exact wu_get hee hgg (by decide)
          have hdd_200 : f_200 dd = some (2003, eI G 64 D) := by rw [ef_200]; exact wu_get hee hdd (by decide)
          have hee_200 : f_200 ee = some (2004, eI G 6 (upd E (st 0 2) (nI ev))) := by rw [ef_200]; exact wu_self _ _ _ _
          have haa_200 : f_200 aa = some (2005, eJ G 16 A) := by rw [ef_200]; exact wu_get hee haa (by decide)
          have hR_200 : RX G f_200 st x := hR0.kept (by rw [ef_200]; exact md_mono (md_put hee) (fun t q => by subst q; unfold tX; omega)) hn200
          refine lv_aload_n X.1 X.2.1 dL_others_201 rfl (lv_at hl 4 rfl) ?_
          refine lv_iconst (v := 3) X.1 X.2.1 dL_others_202 (by decide) ?_
          refine lv_dup2_11 X.1 X.2.1 dL_others_203 rfl rfl ?_
          refine n_iald (i := 3) (v := (nI (st 0 2))) X S hcc_200 hC3 dL_others_204 ?_
          refine lv_iconst (v := 1) X.1 X.2.1 dL_others_205 (by decide) ?_
          refine n_add (a := st 0 2) (b := 1) X dL_others_206 ?_
          refine n_iast (i := 3) (v := (nI ((st 0 2) + 1))) X S hcc_200 (by decide) dL_others_207 (fun f_207 H locs ef_207 S => ?_)
          have hcc_207 : f_207 cc = some (2001, eI G 5 (upd C 3 (nI ((st 0 2) + 1)))) := by rw [ef_207]; exact wu_self _ _ _ _
          have hgg_207 : f_207 gg = some (2002, eI G 16 w) := by rw [ef_207]; exact wu_get hcc_200 hgg_200 (by decide)
          have hdd_207 : f_207 dd = some (2003, eI G 64 D) := by rw [ef_207]; exact wu_get hcc_200 hdd_200 (by decide)
          have hee_207 : f_207 ee = some (2004, eI G 6 (upd E (st 0 2) (nI ev))) := by rw [ef_207]; exact wu_get hcc_200 hee_200 (by decide)
          have haa_207 : f_207 aa = some (2005, eJ G 16 A) := by rw [ef_207]; exact wu_get hcc_200 haa_200 (by decide)
          have hR_207 : RX G f_207 st x := hR_200.kept (by rw [ef_207]; exact md_mono (md_put hcc_200) (fun t q => by subst q; unfold tX; omega)) hn200
          refine lv_aload_n X.1 X.2.1 dL_others_208 rfl (lv_at hl 1 rfl) ?_
          refine lv_iconst (v := 1) X.1 X.2.1 dL_others_209 (by decide) ?_
          refine lv_iload_n X.1 X.2.1 dL_others_210 rfl (lv_at hl 3 rfl) ?_
          refine lv_bipush (v := 9) X.1 X.2.1 dL_others_211 (by decide) ?_
          refine n_rem (a := y) (b := 9) X dL_others_213 ?_
          refine n_add (a := 1) (b := y % 9) X dL_others_214 ?_
          refine r_toi (show nI (1 + (y % 9)) = nI ev by rw [eev]) ?_
          refine call_i (run_V X S (u_eye l hst G f_207 st x hI hR_207 ev hev1 hev9 (by omega)) 1 gL_others_X9_eye rfl rfl rfl (by decide +kernel) ⟨(by exact Nat.le_of_ble_eq_true rfl), (by exact Nat.le_of_ble_eq_true rfl)⟩ (RX.obj hR_207) rfl rfl rfl hl.1 rfl (by exact Nat.le_of_ble_eq_true rfl) dL_others_215 ⟨(by exact Nat.le_of_ble_eq_true rfl), (by exact Nat.le_of_ble_eq_true rfl)⟩) S (fun r_215 f_215 H locs hr_215 S => ?_)
          obtain ⟨hr215, hRc_215, hmc_215⟩ := hr_215
          have hcc_215 := hmc_215 _ _ _ hcc_207 (by unfold tX; omega)
          have hgg_215 := hmc_215 _ _ _ hgg_207 (by unfold tX; omega)
          have hdd_215 := hmc_215 _ _ _ hdd_207 (by unfold tX; omega)
          have hee_215 := hmc_215 _ _ _ hee_207 (by unfold tX; omega)
          have haa_215 := hmc_215 _ _ _ haa_207 (by unfold tX; omega)
          have hI_215 : sInv (eyeSt st ev) := sInv_eye hI (by omega) hev1 hev9
          obtain rfl := (show r_215 = nI (st 0 2) from hr215)
          refine lv_aload_n X.1 X.2.1 dL_others_218 rfl (lv_at hl 4 rfl) ?_
          refine lv_iconst (v := 3) X.1 X.2.1 dL_others_219 (by decide) ?_
          refine n_iald (i := 3) (v := (nI ((st 0 2) + 1))) X S hcc_215 pk_us dL_others_220 ?_
          refine lv_iconst (v := 1) X.1 X.2.1 dL_others_221 (by decide) ?_
          refine n_sub (a := (st 0 2) + 1) (b := 1) X dL_others_222 ?_
          refine n_ne (a := st 0 2) (b := ((st 0 2) + 1) - 1) (tgt := 230) X dL_others_223 (by decide) (fun n_223 => by exfalso; omega) (fun n_223 => ?_)
          refine lv_iconst (v := 1) X.1 X.2.1 dL_others_226 (by decide) ?_
          refine lv_goto (tgt := 231) X.1 X.2.1 dL_others_227 (by decide) ?_
          refine e_z X hr S (Nat.le_of_ble_eq_true rfl) (Nat.le_of_ble_eq_true rfl) dL_others_231 rfl ?_
          refine ⟨rfl, eyeSt st ev, ⟨_, _, _, _, _, hI_215, hRc_215, hcc_215, hgg_215, hdd_215, hee_215, haa_215, ⟨by rw [pk_un (by omega), hC0, eye_e _ _ (by omega)], by rw [pk_un (by omega), hC1, eye_e _ _ (by omega)], by rw [pk_us, eye_n], by rw [pk_un (by omega), hC4, eye_e _ _ (by omega)]⟩, grdL_cong hgr (fun c _ => eye_e _ _ (by omega)), ?_, ?_⟩, by rw [eye_e _ _ (by omega)]; exact h57, by rw [eye_e _ _ (by omega)]; omega, ?_⟩
          · intro i hi
            rw [eye_n] at hi
            by_cases q : i = st 0 2
            · rw [q, pk_us, eye_9]
            · rw [pk_un q, eye_e _ _ (by omega)]; exact hE i (by omega)
          · rw [eye_e _ _ (by omega)]
            exact fun i hi => by rw [eye_e _ _ (by omega), eye_e _ _ (by omega)]; exact hA i hi
          · rw [eye_e _ _ (by omega)]
            exact fun i hi => by rw [eye_e _ _ (by omega), eye_e _ _ (by omega)]; exact hbA i hi
        · refine lv_aload_n X.1 X.2.1 dL_others_166 rfl (lv_at hl 1 rfl) ?_
          refine lv_iconst (v := 4) X.1 X.2.1 dL_others_167 (by decide) ?_
          refine lv_iconst (v := 5) X.1 X.2.1 dL_others_168 (by decide) ?_
          refine lv_iconst (v := 0) X.1 X.2.1 dL_others_169 (by decide) ?_
          refine lv_iconst (v := 0) X.1 X.2.1 dL_others_170 (by decide) ?_
          refine lv_iconst (v := 0) X.1 X.2.1 dL_others_171 (by decide) ?_
          refine lv_iconst (v := 0) X.1 X.2.1 dL_others_172 (by decide) ?_
          refine acall_l (xrun_SX X S (a_eye l hst G f st x hI hR0 n_163) 7 gL_others_L_asks rfl rfl rfl (by decide +kernel) ⟨(by exact Nat.le_of_ble_eq_true rfl), (by exact Nat.le_of_ble_eq_true rfl)⟩ rfl hl.1 rfl (by exact Nat.le_of_ble_eq_true rfl) dL_others_173 ⟨(by exact Nat.le_of_ble_eq_true rfl), (by exact Nat.le_of_ble_eq_true rfl)⟩) S (fun r_173 f_173 H locs hr_173 S => ?_)
          obtain ⟨rfl, ef9⟩ := hr_173
          rw [ef9] at S
          refine r_ldc2 (v := (-70008)) X (by decide +kernel) dL_others_176 ?_
          refine W.lcmp X.1 X.2.1 dL_others_179 ?_
          refine r_toi (lgz _) ?_
          refine lv_if_ne (x := 0) (tgt := 187) X.1 X.2.1 dL_others_180 (by decide) (fun c_180 => by first | exact absurd c_180 (by decide) | exact absurd (by decide) c_180) (fun c_180 => ?_)
          refine lv_iconst (v := 1) X.1 X.2.1 dL_others_183 (by decide) ?_
          refine lv_goto (tgt := 188) X.1 X.2.1 dL_others_184 (by decide) ?_
          refine e_z X hr S (Nat.le_of_ble_eq_true rfl) (Nat.le_of_ble_eq_true rfl) dL_others_188 rfl ?_
          exact ⟨rfl, LAe.same h0 hB⟩
    · refine lv_aload_n X.1 X.2.1 dL_others_120 rfl (lv_at hl 4 rfl) ?_
      refine lv_iconst (v := 1) X.1 X.2.1 dL_others_121 (by decide) ?_
      refine n_iald (i := 1) (v := (nI (st 0 4))) X S hcc hC1 dL_others_122 ?_
      refine lv_istore (lv' := [(8, .int (nI (st 0 4))), (7, .int (nI wt)), (0, .ref x), (1, .int (nI z)), (2, .int (nI y)), (3, .ref cc), (4, .ref gg), (5, .ref ee), (6, .ref aa)]) X.1 X.2.1 dL_others_123 hl (by decide) rfl (fun ls hl => ?_)
      refine lv_aload_n X.1 X.2.1 dL_others_125 rfl (lv_at hl 5 rfl) ?_
      refine lv_iconst (v := 1) X.1 X.2.1 dL_others_126 (by decide) ?_
      refine lv_iconst (v := 1) X.1 X.2.1 dL_others_127 (by decide) ?_
      refine lv_iload_n X.1 X.2.1 dL_others_128 rfl (lv_at hl 4 rfl) ?_
      refine r_ldc (v := 65536) X (by decide +kernel) dL_others_129 ?_
      refine n_rem (a := y) (b := 65536) X dL_others_131 ?_
      refine n_add (a := 1) (b := y % 65536) X dL_others_132 ?_
      obtain ⟨dv, hdv, edv⟩ : ∃ z9 : Nat, (1 ≤ z9 ∧ z9 ≤ 65536) ∧ nI (1 + (y % 65536)) = nI z9 := ⟨_, ⟨by omega, by omega⟩, rfl⟩
      refine r_toi edv ?_
      obtain ⟨hdv1, hdv2⟩ := hdv
      refine n_iast (i := 1) (v := (nI dv)) X S hcc (by decide) dL_others_133 (fun f_133 H locs ef_133 S => ?_)
      have hcc_133 : f_133 cc = some (2001, eI G 5 (upd C 1 (nI dv))) := by rw [ef_133]; exact wu_self _ _ _ _
      have hgg_133 : f_133 gg = some (2002, eI G 16 w) := by rw [ef_133]; exact wu_get hcc hgg (by decide)
      have hdd_133 : f_133 dd = some (2003, eI G 64 D) := by rw [ef_133]; exact wu_get hcc hdd (by decide)
      have hee_133 : f_133 ee = some (2004, eI G 6 E) := by rw [ef_133]; exact wu_get hcc hee (by decide)
      have haa_133 : f_133 aa = some (2005, eJ G 16 A) := by rw [ef_133]; exact wu_get hcc haa (by decide)
      have hR_133 : RX G f_133 st x := hR0.kept (by rw [ef_133]; exact md_mono (md_put hcc) (fun t q => by subst q; unfold tX; omega)) hn200
      refine lv_aload_n X.1 X.2.1 dL_others_134 rfl (lv_at hl 2 rfl) ?_
      refine lv_aload_n X.1 X.2.1 dL_others_135 rfl (lv_at hl 5 rfl) ?_
      refine lv_iconst (v := 1) X.1 X.2.1 dL_others_136 (by decide) ?_
      refine n_iald (i := 1) (v := (nI dv)) X S hcc_133 pk_us dL_others_137 ?_
      refine call_i (run_V X S (u_draw l hst G f_133 st x hI hR_133 dv hdv1 hdv2) 1 gL_others_X9_draw rfl rfl rfl (by decide +kernel) ⟨(by exact Nat.le_of_ble_eq_true rfl), (by exact Nat.le_of_ble_eq_true rfl)⟩ (RX.obj hR_133) rfl rfl rfl hl.1 rfl (by exact Nat.le_of_ble_eq_true rfl) dL_others_138 ⟨(by exact Nat.le_of_ble_eq_true rfl), (by exact Nat.le_of_ble_eq_true rfl)⟩) S (fun r_138 f_138 H locs hr_138 S => ?_)
      obtain ⟨hr138, hRc_138, hmc_138⟩ := hr_138
      have hcc_138 := hmc_138 _ _ _ hcc_133 (by unfold tX; omega)
      have hgg_138 := hmc_138 _ _ _ hgg_133 (by unfold tX; omega)
      have hdd_138 := hmc_138 _ _ _ hdd_133 (by unfold tX; omega)
      have hee_138 := hmc_138 _ _ _ hee_133 (by unfold tX; omega)
      have haa_138 := hmc_138 _ _ _ haa_133 (by unfold tX; omega)
      have hI_138 : sInv (s_up st 0 4 dv) := sInv_draw hI (by omega)
      obtain rfl := (show r_138 = nI (st 0 4) from hr138)
      refine lv_iload X.1 X.2.1 dL_others_141 (lv_at hl 0 rfl) ?_
      refine n_ne (a := st 0 4) (b := st 0 4) (tgt := 150) X dL_others_143 (by decide) (fun n_143 => by exfalso; omega) (fun n_143 => ?_)
      refine lv_iconst (v := 1) X.1 X.2.1 dL_others_146 (by decide) ?_
      refine lv_goto (tgt := 151) X.1 X.2.1 dL_others_147 (by decide) ?_
      refine e_z X hr S (Nat.le_of_ble_eq_true rfl) (Nat.le_of_ble_eq_true rfl) dL_others_151 rfl ?_
      refine ⟨rfl, s_up st 0 4 dv, ⟨_, _, _, _, _, hI_138, hRc_138, hcc_138, hgg_138, hdd_138, hee_138, haa_138, ⟨by rw [pk_un (by omega), hC0, s_up_ne _ (by omega)], by rw [pk_us, s_up_self], by rw [pk_un (by omega), hC3, s_up_ne _ (by omega)], by rw [pk_un (by omega), hC4, s_up_ne _ (by omega)]⟩, grdL_cong hgr (fun c _ => s_up_ne _ (by omega)), ?_, ?_⟩, by rw [s_up_ne _ (by omega)]; exact h57, by rw [s_up_ne _ (by omega)]; omega, ?_⟩
      · rw [s_up_ne _ (by omega)]
        exact fun i hi => by rw [s_up_ne _ (by omega)]; exact hE i hi
      · rw [s_up_ne _ (by omega)]
        exact fun i hi => by rw [s_up_ne _ (by omega), s_up_ne _ (by omega)]; exact hA i hi
      · rw [s_up_ne _ (by omega)]
        exact fun i hi => by rw [s_up_ne _ (by omega), s_up_ne _ (by omega)]; exact hbA i hi
  · refine lv_iload_n X.1 X.2.1 dL_others_11 rfl (lv_at hl 3 rfl) ?_
    refine lv_bipush (v := 16) X.1 X.2.1 dL_others_12 (by decide) ?_
    refine n_rem (a := y) (b := 16) X dL_others_14 ?_
    obtain ⟨a, ha, ea⟩ : ∃ z9 : Nat, (z9 < 16) ∧ nI (y % 16) = nI z9 := ⟨_, Nat.mod_lt _ (by omega), rfl⟩
    refine r_toi ea ?_
    refine lv_istore (lv' := [(8, .int (nI a)), (7, .int (nI wt)), (0, .ref x), (1, .int (nI z)), (2, .int (nI y)), (3, .ref cc), (4, .ref gg), (5, .ref ee), (6, .ref aa)]) X.1 X.2.1 dL_others_15 hl (by decide) rfl (fun ls hl => ?_)
    refine lv_iload_n X.1 X.2.1 dL_others_17 rfl (lv_at hl 4 rfl) ?_
    refine lv_bipush (v := 16) X.1 X.2.1 dL_others_18 (by decide) ?_
    refine n_div (a := y) (b := 16) X dL_others_20 ?_
    refine lv_bipush (v := 16) X.1 X.2.1 dL_others_21 (by decide) ?_
    refine n_rem (a := y / 16) (b := 16) X dL_others_23 ?_
    obtain ⟨b, hb, eb⟩ : ∃ z9 : Nat, (z9 < 16) ∧ nI ((y / 16) % 16) = nI z9 := ⟨_, Nat.mod_lt _ (by omega), rfl⟩
    refine r_toi eb ?_
    refine lv_istore (lv' := [(9, .int (nI b)), (8, .int (nI a)), (7, .int (nI wt)), (0, .ref x), (1, .int (nI z)), (2, .int (nI y)), (3, .ref cc), (4, .ref gg), (5, .ref ee), (6, .ref aa)]) X.1 X.2.1 dL_others_24 hl (by decide) rfl (fun ls hl => ?_)
    refine W_genQ (fun Q9 hQ9 => ?_)
    have J47 : ∀ (H : Heap) (locs : List Loc) (ls : Array Slot), cxS G s0 f H locs → lv_has ls 12 [(9, .int (nI b)), (8, .int (nI a)), (7, .int (nI wt)), (0, .ref x), (1, .int (nI z)), (2, .int (nI y)), (3, .ref cc), (4, .ref gg), (5, .ref ee), (6, .ref aa)] → W p0 l e0 ({ frames := 10, cells := 10, slots := 400, locals := 267 } : Room) s0 m0 ([.ref x, .int (nI z), .int (nI y), .ref cc, .ref gg, .ref ee, .ref aa] : List Value).toArray b0 meth0 c0 H locs 0 0 Q9 (F0 m0 47 ls [.int (nI (2 * b))]) := by
      intro H locs ls S hl
      refine lv_istore (lv' := [(10, .int (nI (2 * b))), (9, .int (nI b)), (8, .int (nI a)), (7, .int (nI wt)), (0, .ref x), (1, .int (nI z)), (2, .int (nI y)), (3, .ref cc), (4, .ref gg), (5, .ref ee), (6, .ref aa)]) X.1 X.2.1 dL_others_47 hl (by decide) rfl (fun ls hl => ?_)
      refine lv_aload X.1 X.2.1 dL_others_49 (lv_at hl 8 rfl) ?_
      refine lv_iload X.1 X.2.1 dL_others_51 (lv_at hl 2 rfl) ?_
      refine lv_iload X.1 X.2.1 dL_others_53 (lv_at hl 1 rfl) ?_
      refine call_ip (run_S X S (m_groundOf l G f gg 2002 w (st 1) hgg hgr a b ha hb) 3 gL_others_L_groundOf rfl rfl rfl (by decide +kernel) ⟨(by exact Nat.le_of_ble_eq_true rfl), (by exact Nat.le_of_ble_eq_true rfl)⟩ rfl hl.1 rfl (by exact Nat.le_of_ble_eq_true rfl) dL_others_55 ⟨(by exact Nat.le_of_ble_eq_true rfl), (by exact Nat.le_of_ble_eq_true rfl)⟩) S (fun r_55 H locs hr_55 S => ?_)
      subst hr_55
      refine lv_istore (lv' := [(11, .int (nI (st 1 (16 * b + a)))), (10, .int (nI (2 * b))), (9, .int (nI b)), (8, .int (nI a)), (7, .int (nI wt)), (0, .ref x), (1, .int (nI z)), (2, .int (nI y)), (3, .ref cc), (4, .ref gg), (5, .ref ee), (6, .ref aa)]) X.1 X.2.1 dL_others_58 hl (by decide) rfl (fun ls hl => ?_)
      have hgb := hI.2.1 (16 * b + a) (by omega)
      refine lv_aload X.1 X.2.1 dL_others_60 (lv_at hl 9 rfl) ?_
      refine lv_iload X.1 X.2.1 dL_others_62 (lv_at hl 3 rfl) ?_
      refine lv_aload X.1 X.2.1 dL_others_64 (lv_at hl 9 rfl) ?_
      refine lv_iload X.1 X.2.1 dL_others_66 (lv_at hl 3 rfl) ?_
      refine n_iald (i := a) (v := (w a)) X S hgg rfl dL_others_68 ?_
      refine lv_iconst (v := 3) X.1 X.2.1 dL_others_69 (by decide) ?_
      refine lv_iload X.1 X.2.1 dL_others_70 (lv_at hl 1 rfl) ?_
      refine lv_ishl X.1 X.2.1 dL_others_72 ?_
      refine lv_iconst (v := (-1)) X.1 X.2.1 dL_others_73 (by decide) ?_
      refine lv_ixor X.1 X.2.1 dL_others_74 ?_
      refine lv_iand X.1 X.2.1 dL_others_75 ?_
      refine lv_iload_n X.1 X.2.1 dL_others_76 rfl (lv_at hl 7 rfl) ?_
      refine lv_sipush (v := 256) X.1 X.2.1 dL_others_77 (by decide) ?_
      refine n_div (a := y) (b := 256) X dL_others_80 ?_
      refine lv_iconst (v := 3) X.1 X.2.1 dL_others_81 (by decide) ?_
      refine n_rem (a := y / 256) (b := 3) X dL_others_82 ?_
      refine r_toi (show nI ((y / 256) % 3) = nI kk by rw [ekk]) ?_
      refine lv_iload X.1 X.2.1 dL_others_83 (lv_at hl 1 rfl) ?_
      refine lv_ishl X.1 X.2.1 dL_others_85 ?_
      refine lv_ior X.1 X.2.1 dL_others_86 ?_
      refine r_toi (y := putL (w a) b kk) rfl ?_
      refine n_iast (i := a) (v := (putL (w a) b kk)) X S hgg (by decide) dL_others_87 (fun f_87 H locs ef_87 S => ?_)
      have hcc_87 : f_87 cc = some (2001, eI G 5 C) := by rw [ef_87]; exact wu_get hgg hcc (by decide)
      have hgg_87 : f_87 gg = some (2002, eI G 16 (upd w a (putL (w a) b kk))) := by rw [ef_87]; exact wu_self _ _ _ _
      have hdd_87 : f_87 dd = some (2003, eI G 64 D) := by rw [ef_87]; exact wu_get hgg hdd (by decide)
      have hee_87 : f_87 ee = some (2004, eI G 6 E) := by rw [ef_87]; exact wu_get hgg hee (by decide)
      have haa_87 : f_87 aa = some (2005, eJ G 16 A) := by rw [ef_87]; exact wu_get hgg haa (by decide)
      have hR_87 : RX G f_87 st x := hR0.kept (by rw [ef_87]; exact md_mono (md_put hgg) (fun t q => by subst q; unfold tX; omega)) hn200
      refine lv_aload_n X.1 X.2.1 dL_others_88 rfl (lv_at hl 5 rfl) ?_
      refine lv_iload X.1 X.2.1 dL_others_89 (lv_at hl 3 rfl) ?_
      refine lv_iload X.1 X.2.1 dL_others_91 (lv_at hl 2 rfl) ?_
      refine lv_iload_n X.1 X.2.1 dL_others_93 rfl (lv_at hl 7 rfl) ?_
      refine lv_sipush (v := 256) X.1 X.2.1 dL_others_94 (by decide) ?_
      refine n_div (a := y) (b := 256) X dL_others_97 ?_
      refine lv_iconst (v := 3) X.1 X.2.1 dL_others_98 (by decide) ?_
      refine n_rem (a := y / 256) (b := 3) X dL_others_99 ?_
      refine r_toi (show nI ((y / 256) % 3) = nI kk by rw [ekk]) ?_
      refine call_i (run_V X S (u_ground l hst G f_87 st x hI hR_87 a b kk ha hb hkk) 3 gL_others_X9_ground rfl rfl rfl (by decide +kernel) ⟨(by exact Nat.le_of_ble_eq_true rfl), (by exact Nat.le_of_ble_eq_true rfl)⟩ (RX.obj hR_87) rfl rfl rfl hl.1 rfl (by exact Nat.le_of_ble_eq_true rfl) dL_others_100 ⟨(by exact Nat.le_of_ble_eq_true rfl), (by exact Nat.le_of_ble_eq_true rfl)⟩) S (fun r_100 f_100 H locs hr_100 S => ?_)
      obtain ⟨hr100, hRc_100, hmc_100⟩ := hr_100
      have hcc_100 := hmc_100 _ _ _ hcc_87 (by unfold tX; omega)
      have hgg_100 := hmc_100 _ _ _ hgg_87 (by unfold tX; omega)
      have hdd_100 := hmc_100 _ _ _ hdd_87 (by unfold tX; omega)
      have hee_100 := hmc_100 _ _ _ hee_87 (by unfold tX; omega)
      have haa_100 := hmc_100 _ _ _ haa_87 (by unfold tX; omega)
      have hI_100 : sInv (s_up st 1 (16 * b + a) kk) := sInv_ground hI hkk
      obtain rfl := (show r_100 = nI (st 1 (16 * b + a)) from hr100)
      refine lv_iload X.1 X.2.1 dL_others_103 (lv_at hl 0 rfl) ?_
      refine n_ne (a := st 1 (16 * b + a)) (b := st 1 (16 * b + a)) (tgt := 112) X dL_others_105 (by decide) (fun n_105 => by exfalso; omega) (fun n_105 => ?_)
      refine lv_iconst (v := 1) X.1 X.2.1 dL_others_108 (by decide) ?_
      refine lv_goto (tgt := 113) X.1 X.2.1 dL_others_109 (by decide) ?_
      subst hQ9
      refine e_z X hr S (Nat.le_of_ble_eq_true rfl) (Nat.le_of_ble_eq_true rfl) dL_others_113 rfl ?_
      refine ⟨rfl, s_up st 1 (16 * b + a) kk, ⟨_, _, _, _, _, hI_100, hRc_100, hcc_100, hgg_100, hdd_100, hee_100, haa_100, ⟨by rw [hC0, s_up_ne _ (by omega)], by rw [hC1, s_up_ne _ (by omega)], by rw [hC3, s_up_ne _ (by omega)], by rw [hC4, s_up_ne _ (by omega)]⟩, by rw [s_up_fn]; exact grdL_put hgr ha hb hkk, ?_, ?_⟩, by rw [s_up_ne _ (by omega)]; exact h57, by rw [s_up_ne _ (by omega)]; omega, ?_⟩
      · rw [s_up_ne _ (by omega)]
        exact fun i hi => by rw [s_up_ne _ (by omega)]; exact hE i hi
      · rw [s_up_ne _ (by omega)]
        exact fun i hi => by rw [s_up_ne _ (by omega), s_up_ne _ (by omega)]; exact hA i hi
      · rw [s_up_ne _ (by omega)]
        exact fun i hi => by rw [s_up_ne _ (by omega), s_up_ne _ (by omega)]; exact hbA i hi
    refine lv_iconst (v := 2) X.1 X.2.1 dL_others_26 (by decide) ?_
    refine lv_iload X.1 X.2.1 dL_others_27 (lv_at hl 0 rfl) ?_
    refine lv_bipush (v := 8) X.1 X.2.1 dL_others_29 (by decide) ?_
    refine n_rem (a := b) (b := 8) X dL_others_31 ?_
    refine n_mul (a := 2) (b := b % 8) X dL_others_32 ?_
    refine lv_iload X.1 X.2.1 dL_others_33 (lv_at hl 0 rfl) ?_
    refine lv_bipush (v := 7) X.1 X.2.1 dL_others_35 (by decide) ?_
    refine n_le (a := b) (b := 7) (tgt := 45) X dL_others_37 (by decide) (fun n_37 => ?_) (fun n_37 => ?_)
    · refine lv_iconst (v := 0) X.1 X.2.1 dL_others_45 (by decide) ?_
      refine n_add (a := 2 * (b % 8)) (b := 0) X dL_others_46 ?_
      refine r_toi (show (nI ((2 * (b % 8)) + 0) : Int32) = nI (2 * b) from congrArg nI (show (2 * (b % 8)) + 0 = 2 * b by omega)) ?_
      exact W.widen (by omega) (by omega) (J47 _ _ ls S (lv_sub hl [0, 1, 2, 3, 4, 5, 6, 7, 8, 9] rfl))
    · refine lv_bipush (v := 16) X.1 X.2.1 dL_others_40 (by decide) ?_
      refine lv_goto (tgt := 46) X.1 X.2.1 dL_others_42 (by decide) ?_
      refine n_add (a := 2 * (b % 8)) (b := 16) X dL_others_46 ?_
      refine r_toi (show (nI ((2 * (b % 8)) + 16) : Int32) = nI (2 * b) from congrArg nI (show (2 * (b % 8)) + 16 = 2 * b by omega)) ?_
      exact W.widen (by omega) (by omega) (J47 _ _ ls S (lv_sub hl [0, 1, 2, 3, 4, 5, 6, 7, 8, 9] rfl))
