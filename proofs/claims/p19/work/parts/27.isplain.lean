/-! the law: isPlain -/
set_option maxRecDepth 100000 in
set_option maxHeartbeats 4000000 in
/-- isPlain -/
theorem m_isPlain (l : Launch) (hst : l.stackTraces = false) (G : cx_G) (f : Wd) (st : St) (x : Nat) (hI : sInv st) (hR0 : RX G f st x) (cc : Nat) (C : Nat → Int32) (hcc : f cc = some (2001, eI G 5 C)) (hC0 : C 0 = nI (st 0 0)) (h57 : st 0 0 ≤ 57) (y : Nat) (hy : y < 2 ^ 30) : QI l G yL_isPlain wsL_isPlain 10 267 5000 30000 [.ref x, .int (nI y), .ref cc] f (fun v => v = 1) := by
  refine cx_body (cc := cL_isPlain) (n := 9) (ret := (some .boolean)) (by decide +kernel) rfl (Nat.le_of_ble_eq_true rfl) ?_
  intro p0 e0 s0 m0 b0 meth0 c0 ls X hr hnm S hl
  have X : cxC G p0 l _ c0 cL_isPlain 9 m0 meth0 s0 _ RL wsL_isPlain := X
  have hl : lv_has ls 9 [(0, .ref x), (1, .int (nI y)), (2, .ref cc)] := hl
  refine lv_aload_n X.1 X.2.1 dL_isPlain_0 rfl (lv_at hl 0 rfl) ?_
  refine call_ip (run_V X S (c_craters l hst G f st x hI hR0) 0 gL_isPlain_X9_craters rfl rfl rfl (by decide +kernel) ⟨(by exact Nat.le_of_ble_eq_true rfl), (by exact Nat.le_of_ble_eq_true rfl)⟩ (RX.obj hR0) rfl rfl rfl hl.1 rfl (by exact Nat.le_of_ble_eq_true rfl) dL_isPlain_1 ⟨(by exact Nat.le_of_ble_eq_true rfl), (by exact Nat.le_of_ble_eq_true rfl)⟩) S (fun r_1 H locs hr_1 S => ?_)
  subst hr_1
  refine lv_aload_n X.1 X.2.1 dL_isPlain_4 rfl (lv_at hl 2 rfl) ?_
  refine lv_iconst (v := 0) X.1 X.2.1 dL_isPlain_5 (by decide) ?_
  refine n_iald (i := 0) (v := (nI (st 0 0))) X S hcc hC0 dL_isPlain_6 ?_
  refine n_ne (a := st 0 0) (b := st 0 0) (tgt := 33) X dL_isPlain_7 (by decide) (fun n_7 => by exfalso; omega) (fun n_7 => ?_)
  refine lv_aload_n X.1 X.2.1 dL_isPlain_10 rfl (lv_at hl 0 rfl) ?_
  refine lv_iconst (v := 1) X.1 X.2.1 dL_isPlain_11 (by decide) ?_
  refine lv_aload_n X.1 X.2.1 dL_isPlain_12 rfl (lv_at hl 2 rfl) ?_
  refine lv_iconst (v := 0) X.1 X.2.1 dL_isPlain_13 (by decide) ?_
  refine n_iald (i := 0) (v := (nI (st 0 0))) X S hcc hC0 dL_isPlain_14 ?_
  refine lv_iconst (v := 0) X.1 X.2.1 dL_isPlain_15 (by decide) ?_
  refine lv_iconst (v := 0) X.1 X.2.1 dL_isPlain_16 (by decide) ?_
  refine lv_iconst (v := 0) X.1 X.2.1 dL_isPlain_17 (by decide) ?_
  refine lv_iconst (v := 0) X.1 X.2.1 dL_isPlain_18 (by decide) ?_
  refine acall_l (xrun_SX X S (a_about l hst G f st x hI hR0) 7 gL_isPlain_L_asks rfl rfl rfl (by decide +kernel) ⟨(by exact Nat.le_of_ble_eq_true rfl), (by exact Nat.le_of_ble_eq_true rfl)⟩ rfl hl.1 rfl (by exact Nat.le_of_ble_eq_true rfl) dL_isPlain_19 ⟨(by exact Nat.le_of_ble_eq_true rfl), (by exact Nat.le_of_ble_eq_true rfl)⟩) S (fun r_19 f_19 H locs hr_19 S => ?_)
  obtain ⟨rfl, ef9⟩ := hr_19
  rw [ef9] at S
  refine r_ldc2 (v := (-70007)) X (by decide +kernel) dL_isPlain_22 ?_
  refine W.lcmp X.1 X.2.1 dL_isPlain_25 ?_
  refine r_toi (lgz _) ?_
  refine lv_if_ne (x := 0) (tgt := 33) X.1 X.2.1 dL_isPlain_26 (by decide) (fun c_26 => by first | exact absurd c_26 (by decide) | exact absurd (by decide) c_26) (fun c_26 => ?_)
  refine lv_iconst (v := 1) X.1 X.2.1 dL_isPlain_29 (by decide) ?_
  refine lv_goto (tgt := 34) X.1 X.2.1 dL_isPlain_30 (by decide) ?_
  refine lv_istore_n (lv' := [(3, .int 1), (0, .ref x), (1, .int (nI y)), (2, .ref cc)]) X.1 X.2.1 dL_isPlain_34 rfl hl (by decide) rfl (fun ls hl => ?_)
  refine lv_iconst (v := 0) X.1 X.2.1 dL_isPlain_35 (by decide) ?_
  refine lv_istore (lv' := [(4, .int 0), (3, .int 1), (0, .ref x), (1, .int (nI y)), (2, .ref cc)]) X.1 X.2.1 dL_isPlain_36 hl (by decide) rfl (fun ls hl => ?_)
  refine W_genQ (fun Q9 hQ9 => ?_)
  have loop : ∀ (N : Nat) (k : Nat) (ck : Nat) (sk : Nat) (H : Heap) (locs : List Loc) (ls : Array Slot), k ≤ st 0 0 → st 0 0 < k + N → ck ≤ 2 + 19 * k → sk ≤ 12 + 114 * k → cxS G s0 f H locs → lv_has ls 9 [(0, .ref x), (1, .int (nI y)), (2, .ref cc), (3, .int 1), (4, .int (nI k))] → W p0 l e0 ({ frames := 10, cells := 5000, slots := 30000, locals := 267 } : Room) s0 m0 ([.ref x, .int (nI y), .ref cc] : List Value).toArray b0 meth0 c0 H locs ck sk Q9 (F0 m0 38 ls []) := by
    intro N
    induction N with
    | zero =>
      intro k ck sk  H locs ls hk hN hck hsk S hl
      exfalso
      omega
    | succ N ih =>
      intro k ck sk  H locs ls hk hN hck hsk S hl
      refine lv_iload X.1 X.2.1 dL_isPlain_38 (lv_at hl 4 rfl) ?_
      refine lv_aload_n X.1 X.2.1 dL_isPlain_40 rfl (lv_at hl 2 rfl) ?_
      refine lv_iconst (v := 0) X.1 X.2.1 dL_isPlain_41 (by decide) ?_
      refine n_iald (i := 0) (v := (nI (st 0 0))) X S hcc hC0 dL_isPlain_42 ?_
      refine n_ge (a := k) (b := st 0 0) (tgt := 166) X dL_isPlain_43 (by decide) (fun n_43 => ?_) (fun n_43 => ?_)
      · refine lv_iconst (v := 0) X.1 X.2.1 dL_isPlain_166 (by decide) ?_
        refine lv_istore (lv' := [(4, .int 0), (0, .ref x), (1, .int (nI y)), (2, .ref cc), (3, .int 1)]) X.1 X.2.1 dL_isPlain_167 hl (by decide) rfl (fun ls hl => ?_)
        clear ih
        have loop2 : ∀ (N : Nat) (j : Nat) (ck : Nat) (sk : Nat) (H : Heap) (locs : List Loc) (ls : Array Slot), j ≤ 6 → 6 < j + N → ck ≤ 1100 + 600 * j → sk ≤ 6600 + 3600 * j → cxS G s0 f H locs → lv_has ls 9 [(0, .ref x), (1, .int (nI y)), (2, .ref cc), (3, .int 1), (4, .int (nI j))] → W p0 l e0 ({ frames := 10, cells := 5000, slots := 30000, locals := 267 } : Room) s0 m0 ([.ref x, .int (nI y), .ref cc] : List Value).toArray b0 meth0 c0 H locs ck sk Q9 (F0 m0 169 ls []) := by
          intro N
          induction N with
          | zero =>
            intro j ck sk  H locs ls hj hN2 hck hsk S hl
            exfalso
            omega
          | succ N ih2 =>
            intro j ck sk  H locs ls hj hN2 hck hsk S hl
            refine lv_iload X.1 X.2.1 dL_isPlain_169 (lv_at hl 4 rfl) ?_
            refine lv_bipush (v := 6) X.1 X.2.1 dL_isPlain_171 (by decide) ?_
            refine n_ge (a := j) (b := 6) (tgt := 308) X dL_isPlain_173 (by decide) (fun n_173 => ?_) (fun n_173 => ?_)
            · refine lv_iload_n X.1 X.2.1 dL_isPlain_308 rfl (lv_at hl 3 rfl) ?_
              subst hQ9
              refine e_zq X hr S (by omega) (by omega) dL_isPlain_309 rfl ?_
              rfl
            · refine lv_iload_n X.1 X.2.1 dL_isPlain_176 rfl (lv_at hl 3 rfl) ?_
              refine lv_if_eq (x := 1) (tgt := 308) X.1 X.2.1 dL_isPlain_177 (by decide) (fun c_177 => by first | exact absurd c_177 (by decide) | exact absurd (by decide) c_177) (fun c_177 => ?_)
              refine lv_iload_n X.1 X.2.1 dL_isPlain_180 rfl (lv_at hl 1 rfl) ?_
              refine lv_iload X.1 X.2.1 dL_isPlain_181 (lv_at hl 4 rfl) ?_
              refine n_add (a := y) (b := j) X dL_isPlain_183 ?_
              refine lv_bipush (v := 16) X.1 X.2.1 dL_isPlain_184 (by decide) ?_
              refine n_rem (a := y + j) (b := 16) X dL_isPlain_186 ?_
              obtain ⟨a, ha, ea⟩ : ∃ z9 : Nat, (z9 < 16) ∧ nI ((y + j) % 16) = nI z9 := ⟨_, Nat.mod_lt _ (by omega), rfl⟩
              refine r_toi ea ?_
              refine lv_istore (lv' := [(5, .int (nI a)), (0, .ref x), (1, .int (nI y)), (2, .ref cc), (3, .int 1), (4, .int (nI j))]) X.1 X.2.1 dL_isPlain_187 hl (by decide) rfl (fun ls hl => ?_)
              refine lv_iload_n X.1 X.2.1 dL_isPlain_189 rfl (lv_at hl 2 rfl) ?_
              refine lv_bipush (v := 16) X.1 X.2.1 dL_isPlain_190 (by decide) ?_
              refine n_div (a := y) (b := 16) X dL_isPlain_192 ?_
              refine lv_iconst (v := 3) X.1 X.2.1 dL_isPlain_193 (by decide) ?_
              refine lv_iload X.1 X.2.1 dL_isPlain_194 (lv_at hl 5 rfl) ?_
              refine n_mul (a := 3) (b := j) X dL_isPlain_196 ?_
              refine n_add (a := y / 16) (b := 3 * j) X dL_isPlain_197 ?_
              refine lv_bipush (v := 16) X.1 X.2.1 dL_isPlain_198 (by decide) ?_
              refine n_rem (a := (y / 16) + (3 * j)) (b := 16) X dL_isPlain_200 ?_
              obtain ⟨b, hb, eb⟩ : ∃ z9 : Nat, (z9 < 16) ∧ nI (((y / 16) + (3 * j)) % 16) = nI z9 := ⟨_, Nat.mod_lt _ (by omega), rfl⟩
              refine r_toi eb ?_
              refine lv_istore (lv' := [(6, .int (nI b)), (5, .int (nI a)), (0, .ref x), (1, .int (nI y)), (2, .ref cc), (3, .int 1), (4, .int (nI j))]) X.1 X.2.1 dL_isPlain_201 hl (by decide) rfl (fun ls hl => ?_)
              refine lv_iconst (v := (-1)) X.1 X.2.1 dL_isPlain_203 (by decide) ?_
              refine lv_istore (lv' := [(7, .int (-1)), (6, .int (nI b)), (5, .int (nI a)), (0, .ref x), (1, .int (nI y)), (2, .ref cc), (3, .int 1), (4, .int (nI j))]) X.1 X.2.1 dL_isPlain_204 hl (by decide) rfl (fun ls hl => ?_)
              refine lv_iconst (v := 0) X.1 X.2.1 dL_isPlain_206 (by decide) ?_
              refine lv_istore (lv' := [(8, .int 0), (7, .int (-1)), (6, .int (nI b)), (5, .int (nI a)), (0, .ref x), (1, .int (nI y)), (2, .ref cc), (3, .int 1), (4, .int (nI j))]) X.1 X.2.1 dL_isPlain_207 hl (by decide) rfl (fun ls hl => ?_)
              obtain ⟨ck0, eck0⟩ : ∃ z9 : Nat, z9 = ck := ⟨_, rfl⟩
              obtain ⟨sk0, esk0⟩ : ∃ z9 : Nat, z9 = sk := ⟨_, rfl⟩
              have loop3 : ∀ (N : Nat) (k : Nat) (ck : Nat) (sk : Nat) (H : Heap) (locs : List Loc) (ls : Array Slot), k ≤ st 0 0 → st 0 0 < k + N → ck ≤ ck0 + 10 * k → sk ≤ sk0 + 60 * k → cxS G s0 f H locs → lv_has ls 9 [(0, .ref x), (1, .int (nI y)), (2, .ref cc), (3, .int 1), (4, .int (nI j)), (5, .int (nI a)), (6, .int (nI b)), (7, .int (tpI (topP st a b) k)), (8, .int (nI k))] → W p0 l e0 ({ frames := 10, cells := 5000, slots := 30000, locals := 267 } : Room) s0 m0 ([.ref x, .int (nI y), .ref cc] : List Value).toArray b0 meth0 c0 H locs ck sk Q9 (F0 m0 209 ls []) := by
                intro N
                induction N with
                | zero =>
                  intro k ck sk  H locs ls hk hN3 hck hsk S hl
                  exfalso
                  omega
                | succ N ih3 =>
                  intro k ck sk  H locs ls hk hN3 hck hsk S hl
                  refine lv_iload X.1 X.2.1 dL_isPlain_209 (lv_at hl 8 rfl) ?_
                  refine lv_aload_n X.1 X.2.1 dL_isPlain_211 rfl (lv_at hl 2 rfl) ?_
                  refine lv_iconst (v := 0) X.1 X.2.1 dL_isPlain_212 (by decide) ?_
                  refine n_iald (i := 0) (v := (nI (st 0 0))) X S hcc hC0 dL_isPlain_213 ?_
                  refine n_ge (a := k) (b := st 0 0) (tgt := 270) X dL_isPlain_214 (by decide) (fun n_214 => ?_) (fun n_214 => ?_)
                  · have hkn : k = st 0 0 := by omega
                    rw [hkn] at hl
                    refine lv_aload_n X.1 X.2.1 dL_isPlain_270 rfl (lv_at hl 0 rfl) ?_
                    refine lv_iload X.1 X.2.1 dL_isPlain_271 (lv_at hl 5 rfl) ?_
                    refine lv_iload X.1 X.2.1 dL_isPlain_273 (lv_at hl 6 rfl) ?_
                    refine call_iq (run_V X S (u_top l hst G f st x hI hR0 a b ha hb) 2 gL_isPlain_X9_top rfl rfl rfl (by decide +kernel) ⟨(by exact Nat.le_of_ble_eq_true rfl), (by exact Nat.le_of_ble_eq_true rfl)⟩ (RX.obj hR0) rfl rfl rfl hl.1 rfl (by exact Nat.le_of_ble_eq_true rfl) dL_isPlain_275 ⟨(show _ ≤ 5000 by omega), (show _ ≤ 30000 by omega)⟩) S (fun r_275 H locs hr_275 S => ?_)
                    obtain rfl := (show r_275 = tpI (topP st a b) (st 0 0) from hr_275)
                    refine lv_iload X.1 X.2.1 dL_isPlain_278 (lv_at hl 7 rfl) ?_
                    refine lv_icmp_ne (tgt := 300) X.1 X.2.1 dL_isPlain_280 (by decide) (fun z => absurd rfl z) (fun _ => ?_)
                    refine lv_aload_n X.1 X.2.1 dL_isPlain_283 rfl (lv_at hl 0 rfl) ?_
                    refine lv_iload X.1 X.2.1 dL_isPlain_284 (lv_at hl 5 rfl) ?_
                    refine lv_iload X.1 X.2.1 dL_isPlain_286 (lv_at hl 6 rfl) ?_
                    refine call_iq (run_V X S (u_topAnew l hst G f st x hI hR0 a b ha hb) 2 gL_isPlain_X9_topAnew rfl rfl rfl (by decide +kernel) ⟨(by exact Nat.le_of_ble_eq_true rfl), (by exact Nat.le_of_ble_eq_true rfl)⟩ (RX.obj hR0) rfl rfl rfl hl.1 rfl (by exact Nat.le_of_ble_eq_true rfl) dL_isPlain_288 ⟨(show _ ≤ 5000 by omega), (show _ ≤ 30000 by omega)⟩) S (fun r_288 H locs hr_288 S => ?_)
                    obtain rfl := (show r_288 = tpI (topP st a b) (st 0 0) from hr_288)
                    refine lv_iload X.1 X.2.1 dL_isPlain_291 (lv_at hl 7 rfl) ?_
                    refine lv_icmp_ne (tgt := 300) X.1 X.2.1 dL_isPlain_293 (by decide) (fun z => absurd rfl z) (fun _ => ?_)
                    refine lv_iconst (v := 1) X.1 X.2.1 dL_isPlain_296 (by decide) ?_
                    refine lv_goto (tgt := 301) X.1 X.2.1 dL_isPlain_297 (by decide) ?_
                    refine lv_istore_n (lv' := [(3, .int 1), (0, .ref x), (1, .int (nI y)), (2, .ref cc), (4, .int (nI j)), (5, .int (nI a)), (6, .int (nI b)), (7, .int (tpI (topP st a b) (st 0 0))), (8, .int (nI (st 0 0)))]) X.1 X.2.1 dL_isPlain_301 rfl hl (by decide) rfl (fun ls hl => ?_)
                    refine lv_iinc (v := (nI (j + 1))) (lv' := [(4, .int (nI (j + 1))), (3, .int 1), (0, .ref x), (1, .int (nI y)), (2, .ref cc), (5, .int (nI a)), (6, .int (nI b)), (7, .int (tpI (topP st a b) (st 0 0))), (8, .int (nI (st 0 0)))]) X.1 X.2.1 dL_isPlain_302 hl (k := 4) rfl (nI_1 _) (by decide) rfl (fun ls hl => ?_)
                    refine lv_goto (tgt := 169) X.1 X.2.1 dL_isPlain_305 (by decide) ?_
                    exact ih2 (j + 1) _ _ H locs ls (by omega) (by omega) (by omega) (by omega) S (lv_sub hl [2, 3, 4, 1, 0] rfl)
                  · have hlt : k < st 0 0 := by omega
                    have hc := hI.2.2.1 k hlt
                    unfold cIn at hc
                    obtain ⟨q1, q2, q3, q4, q5, q6, q7, q8⟩ := hc
                    refine lv_aload_n X.1 X.2.1 dL_isPlain_217 rfl (lv_at hl 0 rfl) ?_
                    refine lv_iload X.1 X.2.1 dL_isPlain_218 (lv_at hl 8 rfl) ?_
                    refine lv_iconst (v := 3) X.1 X.2.1 dL_isPlain_220 (by decide) ?_
                    refine call_iq (run_V X S (u_about l hst G f st x hI hR0 k 3 hlt (by decide)) 2 gL_isPlain_X9_about rfl rfl rfl (by decide +kernel) ⟨(by exact Nat.le_of_ble_eq_true rfl), (by exact Nat.le_of_ble_eq_true rfl)⟩ (RX.obj hR0) rfl rfl rfl hl.1 rfl (by exact Nat.le_of_ble_eq_true rfl) dL_isPlain_221 ⟨(show _ ≤ 5000 by omega), (show _ ≤ 30000 by omega)⟩) S (fun r_221 H locs hr_221 S => ?_)
                    obtain rfl := (show r_221 = nI (st 7 k) from hr_221)
                    refine z_le (a := st 7 k) (tgt := 260) X dL_isPlain_224 (by decide) (fun n_224 => ?_) (fun n_224 => ?_)
                    · refine lv_iload X.1 X.2.1 dL_isPlain_260 (lv_at hl 7 rfl) ?_
                      refine lv_istore (lv' := [(7, .int (tpI (topP st a b) k)), (0, .ref x), (1, .int (nI y)), (2, .ref cc), (3, .int 1), (4, .int (nI j)), (5, .int (nI a)), (6, .int (nI b)), (8, .int (nI k))]) X.1 X.2.1 dL_isPlain_262 hl (by decide) rfl (fun ls hl => ?_)
                      refine lv_iinc (v := (nI (k + 1))) (lv' := [(8, .int (nI (k + 1))), (7, .int (tpI (topP st a b) k)), (0, .ref x), (1, .int (nI y)), (2, .ref cc), (3, .int 1), (4, .int (nI j)), (5, .int (nI a)), (6, .int (nI b))]) X.1 X.2.1 dL_isPlain_264 hl (k := 8) rfl (nI_1 _) (by decide) rfl (fun ls hl => ?_)
                      refine lv_goto (tgt := 209) X.1 X.2.1 dL_isPlain_267 (by decide) ?_
                      have htp : tpI (topP st a b) (k + 1) = tpI (topP st a b) k := tpI_f (decide_eq_false (by omega))
                      exact ih3 (k + 1) _ _ H locs ls (by omega) (by omega) (by omega) (by omega) S (by rw [htp]; exact lv_sub hl [2, 3, 4, 5, 6, 7, 8, 1, 0] rfl)
                    · refine lv_aload_n X.1 X.2.1 dL_isPlain_227 rfl (lv_at hl 0 rfl) ?_
                      refine lv_iload X.1 X.2.1 dL_isPlain_228 (lv_at hl 8 rfl) ?_
                      refine lv_iload X.1 X.2.1 dL_isPlain_230 (lv_at hl 5 rfl) ?_
                      refine lv_iload X.1 X.2.1 dL_isPlain_232 (lv_at hl 6 rfl) ?_
                      have hs1 := sq_lt q1 ha
                      have hs2 := sq_lt q2 hb
                      have hs3 : st 5 k * st 5 k ≤ 7 * 7 := Nat.mul_le_mul q6 q6
                      refine call_iq (run_S X S (m_far l hst G f st x hI hR0 k a b hlt ha hb) 4 gL_isPlain_L_far rfl rfl rfl (by decide +kernel) ⟨(by exact Nat.le_of_ble_eq_true rfl), (by exact Nat.le_of_ble_eq_true rfl)⟩ rfl hl.1 rfl (by exact Nat.le_of_ble_eq_true rfl) dL_isPlain_234 ⟨(show _ ≤ 5000 by omega), (show _ ≤ 30000 by omega)⟩) S (fun r_234 H locs hr_234 S => ?_)
                      obtain rfl := (show r_234 = nI (sq (st 2 k) a + sq (st 3 k) b) from hr_234)
                      refine lv_aload_n X.1 X.2.1 dL_isPlain_237 rfl (lv_at hl 0 rfl) ?_
                      refine lv_iload X.1 X.2.1 dL_isPlain_238 (lv_at hl 8 rfl) ?_
                      refine lv_iconst (v := 2) X.1 X.2.1 dL_isPlain_240 (by decide) ?_
                      refine call_iq (run_V X S (u_about l hst G f st x hI hR0 k 2 hlt (by decide)) 2 gL_isPlain_X9_about rfl rfl rfl (by decide +kernel) ⟨(by exact Nat.le_of_ble_eq_true rfl), (by exact Nat.le_of_ble_eq_true rfl)⟩ (RX.obj hR0) rfl rfl rfl hl.1 rfl (by exact Nat.le_of_ble_eq_true rfl) dL_isPlain_241 ⟨(show _ ≤ 5000 by omega), (show _ ≤ 30000 by omega)⟩) S (fun r_241 H locs hr_241 S => ?_)
                      obtain rfl := (show r_241 = nI (st 5 k) from hr_241)
                      refine lv_aload_n X.1 X.2.1 dL_isPlain_244 rfl (lv_at hl 0 rfl) ?_
                      refine lv_iload X.1 X.2.1 dL_isPlain_245 (lv_at hl 8 rfl) ?_
                      refine lv_iconst (v := 2) X.1 X.2.1 dL_isPlain_247 (by decide) ?_
                      refine call_iq (run_V X S (u_about l hst G f st x hI hR0 k 2 hlt (by decide)) 2 gL_isPlain_X9_about rfl rfl rfl (by decide +kernel) ⟨(by exact Nat.le_of_ble_eq_true rfl), (by exact Nat.le_of_ble_eq_true rfl)⟩ (RX.obj hR0) rfl rfl rfl hl.1 rfl (by exact Nat.le_of_ble_eq_true rfl) dL_isPlain_248 ⟨(show _ ≤ 5000 by omega), (show _ ≤ 30000 by omega)⟩) S (fun r_248 H locs hr_248 S => ?_)
                      obtain rfl := (show r_248 = nI (st 5 k) from hr_248)
                      refine n_mul (a := st 5 k) (b := st 5 k) X dL_isPlain_251 ?_
                      refine n_gt (a := sq (st 2 k) a + sq (st 3 k) b) (b := (st 5 k) * (st 5 k)) (tgt := 260) X dL_isPlain_252 (by decide) (fun n_252 => ?_) (fun n_252 => ?_)
                      · refine lv_iload X.1 X.2.1 dL_isPlain_260 (lv_at hl 7 rfl) ?_
                        refine lv_istore (lv' := [(7, .int (tpI (topP st a b) k)), (0, .ref x), (1, .int (nI y)), (2, .ref cc), (3, .int 1), (4, .int (nI j)), (5, .int (nI a)), (6, .int (nI b)), (8, .int (nI k))]) X.1 X.2.1 dL_isPlain_262 hl (by decide) rfl (fun ls hl => ?_)
                        refine lv_iinc (v := (nI (k + 1))) (lv' := [(8, .int (nI (k + 1))), (7, .int (tpI (topP st a b) k)), (0, .ref x), (1, .int (nI y)), (2, .ref cc), (3, .int 1), (4, .int (nI j)), (5, .int (nI a)), (6, .int (nI b))]) X.1 X.2.1 dL_isPlain_264 hl (k := 8) rfl (nI_1 _) (by decide) rfl (fun ls hl => ?_)
                        refine lv_goto (tgt := 209) X.1 X.2.1 dL_isPlain_267 (by decide) ?_
                        have htp : tpI (topP st a b) (k + 1) = tpI (topP st a b) k := tpI_f (decide_eq_false (by rw [sq_comm a, sq_comm b]; omega))
                        exact ih3 (k + 1) _ _ H locs ls (by omega) (by omega) (by omega) (by omega) S (by rw [htp]; exact lv_sub hl [2, 3, 4, 5, 6, 7, 8, 1, 0] rfl)
                      · refine lv_iload X.1 X.2.1 dL_isPlain_255 (lv_at hl 8 rfl) ?_
                        refine lv_goto (tgt := 262) X.1 X.2.1 dL_isPlain_257 (by decide) ?_
                        refine lv_istore (lv' := [(7, .int (nI k)), (0, .ref x), (1, .int (nI y)), (2, .ref cc), (3, .int 1), (4, .int (nI j)), (5, .int (nI a)), (6, .int (nI b)), (8, .int (nI k))]) X.1 X.2.1 dL_isPlain_262 hl (by decide) rfl (fun ls hl => ?_)
                        refine lv_iinc (v := (nI (k + 1))) (lv' := [(8, .int (nI (k + 1))), (7, .int (nI k)), (0, .ref x), (1, .int (nI y)), (2, .ref cc), (3, .int 1), (4, .int (nI j)), (5, .int (nI a)), (6, .int (nI b))]) X.1 X.2.1 dL_isPlain_264 hl (k := 8) rfl (nI_1 _) (by decide) rfl (fun ls hl => ?_)
                        refine lv_goto (tgt := 209) X.1 X.2.1 dL_isPlain_267 (by decide) ?_
                        have htp : tpI (topP st a b) (k + 1) = nI k := tpI_t (decide_eq_true (by rw [sq_comm a, sq_comm b]; omega))
                        exact ih3 (k + 1) _ _ H locs ls (by omega) (by omega) (by omega) (by omega) S (by rw [htp]; exact lv_sub hl [2, 3, 4, 5, 6, 7, 8, 1, 0] rfl)
              exact loop3 (st 0 0 + 1) 0 _ _ _ _ ls (by omega) (by omega) (by omega) (by omega) S (lv_sub hl [4, 5, 6, 7, 8, 3, 2, 1, 0] rfl)
        exact loop2 7 0 _ _ H locs ls (by omega) (by omega) (by omega) (by omega) S (lv_sub hl [1, 2, 3, 4, 0] rfl)
      · have hlt : k < st 0 0 := by omega
        have hc := hI.2.2.1 k hlt
        unfold cIn at hc
        obtain ⟨q1, q2, q3, q4, q5, q6, q7, q8⟩ := hc
        refine lv_iload_n X.1 X.2.1 dL_isPlain_46 rfl (lv_at hl 3 rfl) ?_
        refine lv_if_eq (x := 1) (tgt := 166) X.1 X.2.1 dL_isPlain_47 (by decide) (fun c_47 => by first | exact absurd c_47 (by decide) | exact absurd (by decide) c_47) (fun c_47 => ?_)
        refine lv_aload_n X.1 X.2.1 dL_isPlain_50 rfl (lv_at hl 0 rfl) ?_
        refine lv_iload X.1 X.2.1 dL_isPlain_51 (lv_at hl 4 rfl) ?_
        refine lv_iconst (v := 0) X.1 X.2.1 dL_isPlain_53 (by decide) ?_
        refine call_iq (run_V X S (u_about l hst G f st x hI hR0 k 0 hlt (by decide)) 2 gL_isPlain_X9_about rfl rfl rfl (by decide +kernel) ⟨(by exact Nat.le_of_ble_eq_true rfl), (by exact Nat.le_of_ble_eq_true rfl)⟩ (RX.obj hR0) rfl rfl rfl hl.1 rfl (by exact Nat.le_of_ble_eq_true rfl) dL_isPlain_54 ⟨(show _ ≤ 5000 by omega), (show _ ≤ 30000 by omega)⟩) S (fun r_54 H locs hr_54 S => ?_)
        obtain rfl := (show r_54 = nI (st 2 k) from hr_54)
        refine z_lt (a := st 2 k) (tgt := 158) X dL_isPlain_57 (by decide) ?_
        refine lv_aload_n X.1 X.2.1 dL_isPlain_60 rfl (lv_at hl 0 rfl) ?_
        refine lv_iload X.1 X.2.1 dL_isPlain_61 (lv_at hl 4 rfl) ?_
        refine lv_iconst (v := 0) X.1 X.2.1 dL_isPlain_63 (by decide) ?_
        refine call_iq (run_V X S (u_about l hst G f st x hI hR0 k 0 hlt (by decide)) 2 gL_isPlain_X9_about rfl rfl rfl (by decide +kernel) ⟨(by exact Nat.le_of_ble_eq_true rfl), (by exact Nat.le_of_ble_eq_true rfl)⟩ (RX.obj hR0) rfl rfl rfl hl.1 rfl (by exact Nat.le_of_ble_eq_true rfl) dL_isPlain_64 ⟨(show _ ≤ 5000 by omega), (show _ ≤ 30000 by omega)⟩) S (fun r_64 H locs hr_64 S => ?_)
        obtain rfl := (show r_64 = nI (st 2 k) from hr_64)
        refine lv_bipush (v := 16) X.1 X.2.1 dL_isPlain_67 (by decide) ?_
        refine n_ge (a := st 2 k) (b := 16) (tgt := 158) X dL_isPlain_69 (by decide) (fun n_69 => by exfalso; omega) (fun n_69 => ?_)
        refine lv_aload_n X.1 X.2.1 dL_isPlain_72 rfl (lv_at hl 0 rfl) ?_
        refine lv_iload X.1 X.2.1 dL_isPlain_73 (lv_at hl 4 rfl) ?_
        refine lv_iconst (v := 1) X.1 X.2.1 dL_isPlain_75 (by decide) ?_
        refine call_iq (run_V X S (u_about l hst G f st x hI hR0 k 1 hlt (by decide)) 2 gL_isPlain_X9_about rfl rfl rfl (by decide +kernel) ⟨(by exact Nat.le_of_ble_eq_true rfl), (by exact Nat.le_of_ble_eq_true rfl)⟩ (RX.obj hR0) rfl rfl rfl hl.1 rfl (by exact Nat.le_of_ble_eq_true rfl) dL_isPlain_76 ⟨(show _ ≤ 5000 by omega), (show _ ≤ 30000 by omega)⟩) S (fun r_76 H locs hr_76 S => ?_)
        obtain rfl := (show r_76 = nI (st 3 k) from hr_76)
        refine z_lt (a := st 3 k) (tgt := 158) X dL_isPlain_79 (by decide) ?_
        refine lv_aload_n X.1 X.2.1 dL_isPlain_82 rfl (lv_at hl 0 rfl) ?_
        refine lv_iload X.1 X.2.1 dL_isPlain_83 (lv_at hl 4 rfl) ?_
        refine lv_iconst (v := 1) X.1 X.2.1 dL_isPlain_85 (by decide) ?_
        refine call_iq (run_V X S (u_about l hst G f st x hI hR0 k 1 hlt (by decide)) 2 gL_isPlain_X9_about rfl rfl rfl (by decide +kernel) ⟨(by exact Nat.le_of_ble_eq_true rfl), (by exact Nat.le_of_ble_eq_true rfl)⟩ (RX.obj hR0) rfl rfl rfl hl.1 rfl (by exact Nat.le_of_ble_eq_true rfl) dL_isPlain_86 ⟨(show _ ≤ 5000 by omega), (show _ ≤ 30000 by omega)⟩) S (fun r_86 H locs hr_86 S => ?_)
        obtain rfl := (show r_86 = nI (st 3 k) from hr_86)
        refine lv_bipush (v := 16) X.1 X.2.1 dL_isPlain_89 (by decide) ?_
        refine n_ge (a := st 3 k) (b := 16) (tgt := 158) X dL_isPlain_91 (by decide) (fun n_91 => by exfalso; omega) (fun n_91 => ?_)
        refine lv_aload_n X.1 X.2.1 dL_isPlain_94 rfl (lv_at hl 0 rfl) ?_
        refine lv_iload X.1 X.2.1 dL_isPlain_95 (lv_at hl 4 rfl) ?_
        refine lv_iconst (v := 2) X.1 X.2.1 dL_isPlain_97 (by decide) ?_
        refine call_iq (run_V X S (u_about l hst G f st x hI hR0 k 2 hlt (by decide)) 2 gL_isPlain_X9_about rfl rfl rfl (by decide +kernel) ⟨(by exact Nat.le_of_ble_eq_true rfl), (by exact Nat.le_of_ble_eq_true rfl)⟩ (RX.obj hR0) rfl rfl rfl hl.1 rfl (by exact Nat.le_of_ble_eq_true rfl) dL_isPlain_98 ⟨(show _ ≤ 5000 by omega), (show _ ≤ 30000 by omega)⟩) S (fun r_98 H locs hr_98 S => ?_)
        obtain rfl := (show r_98 = nI (st 5 k) from hr_98)
        refine z_le (a := st 5 k) (tgt := 158) X dL_isPlain_101 (by decide) (fun n_101 => by exfalso; omega) (fun n_101 => ?_)
        refine lv_aload_n X.1 X.2.1 dL_isPlain_104 rfl (lv_at hl 0 rfl) ?_
        refine lv_iload X.1 X.2.1 dL_isPlain_105 (lv_at hl 4 rfl) ?_
        refine lv_iconst (v := 2) X.1 X.2.1 dL_isPlain_107 (by decide) ?_
        refine call_iq (run_V X S (u_about l hst G f st x hI hR0 k 2 hlt (by decide)) 2 gL_isPlain_X9_about rfl rfl rfl (by decide +kernel) ⟨(by exact Nat.le_of_ble_eq_true rfl), (by exact Nat.le_of_ble_eq_true rfl)⟩ (RX.obj hR0) rfl rfl rfl hl.1 rfl (by exact Nat.le_of_ble_eq_true rfl) dL_isPlain_108 ⟨(show _ ≤ 5000 by omega), (show _ ≤ 30000 by omega)⟩) S (fun r_108 H locs hr_108 S => ?_)
        obtain rfl := (show r_108 = nI (st 5 k) from hr_108)
        refine lv_bipush (v := 8) X.1 X.2.1 dL_isPlain_111 (by decide) ?_
        refine n_ge (a := st 5 k) (b := 8) (tgt := 158) X dL_isPlain_113 (by decide) (fun n_113 => by exfalso; omega) (fun n_113 => ?_)
        refine lv_aload_n X.1 X.2.1 dL_isPlain_116 rfl (lv_at hl 0 rfl) ?_
        refine lv_iload X.1 X.2.1 dL_isPlain_117 (lv_at hl 4 rfl) ?_
        refine lv_iconst (v := 3) X.1 X.2.1 dL_isPlain_119 (by decide) ?_
        refine call_iq (run_V X S (u_about l hst G f st x hI hR0 k 3 hlt (by decide)) 2 gL_isPlain_X9_about rfl rfl rfl (by decide +kernel) ⟨(by exact Nat.le_of_ble_eq_true rfl), (by exact Nat.le_of_ble_eq_true rfl)⟩ (RX.obj hR0) rfl rfl rfl hl.1 rfl (by exact Nat.le_of_ble_eq_true rfl) dL_isPlain_120 ⟨(show _ ≤ 5000 by omega), (show _ ≤ 30000 by omega)⟩) S (fun r_120 H locs hr_120 S => ?_)
        obtain rfl := (show r_120 = nI (st 7 k) from hr_120)
        refine z_lt (a := st 7 k) (tgt := 158) X dL_isPlain_123 (by decide) ?_
        refine lv_aload_n X.1 X.2.1 dL_isPlain_126 rfl (lv_at hl 0 rfl) ?_
        refine lv_iload X.1 X.2.1 dL_isPlain_127 (lv_at hl 4 rfl) ?_
        refine lv_iconst (v := 3) X.1 X.2.1 dL_isPlain_129 (by decide) ?_
        refine call_iq (run_V X S (u_about l hst G f st x hI hR0 k 3 hlt (by decide)) 2 gL_isPlain_X9_about rfl rfl rfl (by decide +kernel) ⟨(by exact Nat.le_of_ble_eq_true rfl), (by exact Nat.le_of_ble_eq_true rfl)⟩ (RX.obj hR0) rfl rfl rfl hl.1 rfl (by exact Nat.le_of_ble_eq_true rfl) dL_isPlain_130 ⟨(show _ ≤ 5000 by omega), (show _ ≤ 30000 by omega)⟩) S (fun r_130 H locs hr_130 S => ?_)
        obtain rfl := (show r_130 = nI (st 7 k) from hr_130)
        refine lv_bipush (v := 30) X.1 X.2.1 dL_isPlain_133 (by decide) ?_
        refine n_gt (a := st 7 k) (b := 30) (tgt := 158) X dL_isPlain_135 (by decide) (fun n_135 => by exfalso; omega) (fun n_135 => ?_)
        refine lv_aload_n X.1 X.2.1 dL_isPlain_138 rfl (lv_at hl 0 rfl) ?_
        refine lv_iload X.1 X.2.1 dL_isPlain_139 (lv_at hl 4 rfl) ?_
        refine call_iq (run_V X S (u_depthAnew l hst G f st x hI hR0 k hlt) 1 gL_isPlain_X9_depthAnew rfl rfl rfl (by decide +kernel) ⟨(by exact Nat.le_of_ble_eq_true rfl), (by exact Nat.le_of_ble_eq_true rfl)⟩ (RX.obj hR0) rfl rfl rfl hl.1 rfl (by exact Nat.le_of_ble_eq_true rfl) dL_isPlain_141 ⟨(show _ ≤ 5000 by omega), (show _ ≤ 30000 by omega)⟩) S (fun r_141 H locs hr_141 S => ?_)
        obtain rfl := (show r_141 = nI (st 7 k) from hr_141)
        refine lv_aload_n X.1 X.2.1 dL_isPlain_144 rfl (lv_at hl 0 rfl) ?_
        refine lv_iload X.1 X.2.1 dL_isPlain_145 (lv_at hl 4 rfl) ?_
        refine lv_iconst (v := 3) X.1 X.2.1 dL_isPlain_147 (by decide) ?_
        refine call_iq (run_V X S (u_about l hst G f st x hI hR0 k 3 hlt (by decide)) 2 gL_isPlain_X9_about rfl rfl rfl (by decide +kernel) ⟨(by exact Nat.le_of_ble_eq_true rfl), (by exact Nat.le_of_ble_eq_true rfl)⟩ (RX.obj hR0) rfl rfl rfl hl.1 rfl (by exact Nat.le_of_ble_eq_true rfl) dL_isPlain_148 ⟨(show _ ≤ 5000 by omega), (show _ ≤ 30000 by omega)⟩) S (fun r_148 H locs hr_148 S => ?_)
        obtain rfl := (show r_148 = nI (st 7 k) from hr_148)
        refine n_ne (a := st 7 k) (b := st 7 k) (tgt := 158) X dL_isPlain_151 (by decide) (fun n_151 => by exfalso; omega) (fun n_151 => ?_)
        refine lv_iconst (v := 1) X.1 X.2.1 dL_isPlain_154 (by decide) ?_
        refine lv_goto (tgt := 159) X.1 X.2.1 dL_isPlain_155 (by decide) ?_
        refine lv_istore_n (lv' := [(3, .int 1), (0, .ref x), (1, .int (nI y)), (2, .ref cc), (4, .int (nI k))]) X.1 X.2.1 dL_isPlain_159 rfl hl (by decide) rfl (fun ls hl => ?_)
        refine lv_iinc (v := (nI (k + 1))) (lv' := [(4, .int (nI (k + 1))), (3, .int 1), (0, .ref x), (1, .int (nI y)), (2, .ref cc)]) X.1 X.2.1 dL_isPlain_160 hl (k := 4) rfl (nI_1 _) (by decide) rfl (fun ls hl => ?_)
        refine lv_goto (tgt := 38) X.1 X.2.1 dL_isPlain_163 (by decide) ?_
        exact ih (k + 1) _ _ H locs ls (by omega) (by omega) (by omega) (by omega) S (lv_sub hl [2, 3, 4, 1, 0] rfl)
  exact loop (st 0 0 + 1) 0 _ _ _ _ ls (by omega) (by omega) (by exact Nat.le_of_ble_eq_true rfl) (by exact Nat.le_of_ble_eq_true rfl) S (lv_sub hl [2, 3, 4, 1, 0] rfl)
