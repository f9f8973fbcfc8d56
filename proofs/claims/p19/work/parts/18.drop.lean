/-! the class: a stone drops; a flood or a softening takes from all -/
set_option maxRecDepth 100000 in
set_option maxHeartbeats 4000000 in
/-- dropStone -/
theorem m_dropStone (l : Launch) (G : cx_G) (f : Wd) (st : St) (x gr rw1 L1 L2 L3 cu L4 : Nat) (g1 g2 g3 g4 : Nat → Nat) (w : Nat → Int32) (hI : sInv st) (hR : RXx G f st x gr rw1 L1 L2 L3 cu L4 g1 g2 g3 g4 w) (sx sy z : Nat) (hn200 : st 0 0 < 200) (hsx : sx < 16) (hsy : sy < 16) (hz1 : 1 ≤ z) (hz : z ≤ 6) : MI l G yX9_dropStone wsX9_dropStone 7 191 2 306 [.ref x, .int (nI sx), .int (nI sy), .int (nI z)] f (fun r f' => r = nI (cn (goneB st sx sy z) (st 0 0)) ∧ RX G f' (fallSt st sx sy z) x ∧ md tX f f') := by
  refine cx_body (cc := cX9_dropStone) (n := 8) (ret := (some .int)) (by decide +kernel) rfl (Nat.le_of_ble_eq_true rfl) ?_
  intro p0 e0 s0 m0 b0 meth0 c0 ls X hr hnm S hl
  have X : cxC G p0 l _ c0 cX9_dropStone 8 m0 meth0 s0 _ RX9 wsX9_dropStone := X
  have hl : lv_has ls 8 [(0, .ref x), (1, .int (nI sx)), (2, .int (nI sy)), (3, .int (nI z))] := hl
  have in_RX1 : ∀ w ∈ u_ws RX1 TX1 6, w ∈ wsX9_dropStone := by decide +kernel
  have in_RX9 : ∀ w ∈ u_ws RX9 TX9 6, w ∈ wsX9_dropStone := by decide +kernel
  obtain ⟨hi0, hi1, hi2, hi3, hi4, hi5, hi6, hi7⟩ := id hI
  obtain ⟨hx, hgr, hrw, hgd, hL1, hC, hL2, hS2, hL3, hE, hcu, hL4, hA⟩ := id hR
  have hgk := hi1 (16 * sy + sx) (cell_in hsx hsy)
  refine r_new (C := RX1) (T := TX1) (N := 6) (ci := 2) (fs := [.int 0, .int 0, .int 0, .int 0, .int 0, .int 0]) X S (100 + st 0 0) (by omega) in_RX1 tyX1 tyX1_ok (by decide +kernel) (by decide +kernel) (by decide +kernel) rfl (fun j hj => by rcases (show j = 0 ∨ j = 1 ∨ j = 2 ∨ j = 3 ∨ j = 4 ∨ j = 5 by omega) with rfl | rfl | rfl | rfl | rfl | rfl <;> rfl) (by exact Nat.le_of_ble_eq_true rfl) (by exact Nat.le_of_ble_eq_true rfl) dX9_dropStone_0 (fun q_0 H hn_q_0 S => ?_)
  obtain ⟨f_0, ef_0⟩ : ∃ z9 : Wd, z9 = wu f q_0 (100 + st 0 0) (.inr (2, [.int 0, .int 0, .int 0, .int 0, .int 0, .int 0])) := ⟨_, rfl⟩
  rw [← ef_0] at S
  have hx_0 : f_0 x = some (0, .inr (9, [.ref gr, .ref L1, .ref L2, .ref L3, .ref cu, .int (nI (st 0 4))])) := by rw [ef_0]; exact wu_new hn_q_0 hx
  have hgr_0 : f_0 gr = some (1, .inr (7, [.ref rw1])) := by rw [ef_0]; exact wu_new hn_q_0 hgr
  have hrw_0 : f_0 rw1 = some (2, eI G 16 w) := by rw [ef_0]; exact wu_new hn_q_0 hrw
  have hNq0 : f_0 q_0 = some ((100 + st 0 0), .inr (2, [.int 0, .int 0, .int 0, .int 0, .int 0, .int 0])) := by rw [ef_0]; exact wu_self _ _ _ _
  refine lv_dup X.1 X.2.1 dX9_dropStone_3 rfl ?_
  refine lv_iload_n X.1 X.2.1 dX9_dropStone_4 rfl (lv_at hl 1 rfl) ?_
  refine lv_iload_n X.1 X.2.1 dX9_dropStone_5 rfl (lv_at hl 2 rfl) ?_
  refine lv_iload_n X.1 X.2.1 dX9_dropStone_6 rfl (lv_at hl 3 rfl) ?_
  refine lv_aload_n X.1 X.2.1 dX9_dropStone_7 rfl (lv_at hl 0 rfl) ?_
  refine r_get (C := RX9) (T := TX9) (N := 6) (ref := "Craterclock") X S in_RX9 hx_0 rfl 0 (by decide) (by decide +kernel) (fun _ h => h) rfl dX9_dropStone_8 ?_
  refine lv_iload_n X.1 X.2.1 dX9_dropStone_11 rfl (lv_at hl 1 rfl) ?_
  refine lv_iload_n X.1 X.2.1 dX9_dropStone_12 rfl (lv_at hl 2 rfl) ?_
  refine call_ip (run_V X S (m_kindAt l G f_0 gr 1 rw1 2 w (st 1) hgr_0 hrw_0 hgd sx sy hsx hsy) 2 gX9_dropStone_X6_kindAt rfl rfl rfl (by decide +kernel) ⟨(by exact Nat.le_of_ble_eq_true rfl), (by exact Nat.le_of_ble_eq_true rfl)⟩ ⟨_, _, hgr_0⟩ rfl rfl rfl hl.1 rfl (by exact Nat.le_of_ble_eq_true rfl) dX9_dropStone_13 ⟨(by exact Nat.le_of_ble_eq_true rfl), (by exact Nat.le_of_ble_eq_true rfl)⟩) S (fun r_13 H locs hr_13 S => ?_)
  subst hr_13
  refine call_v (run_I X S (m_Crater l G f_0 q_0 (100 + st 0 0) sx sy z (st 1 (16 * sy + sx)) hNq0 (by omega) hgk hz1 hz) 4 gX9_dropStone_X1_init rfl rfl rfl (by decide +kernel) (by decide +kernel) (by decide +kernel) rfl (by decide +kernel) ⟨(by exact Nat.le_of_ble_eq_true rfl), (by exact Nat.le_of_ble_eq_true rfl)⟩ rfl hl.1 rfl (by exact Nat.le_of_ble_eq_true rfl) dX9_dropStone_16 ⟨(by exact Nat.le_of_ble_eq_true rfl), (by exact Nat.le_of_ble_eq_true rfl)⟩) S (fun f_16 H locs hr_16 S => ?_)
  have e16 : f_16 = wu f q_0 (100 + st 0 0) (eC sx sy z (radOn (st 1 (16 * sy + sx)) z) (depOn (st 1 (16 * sy + sx)) z) (depOn (st 1 (16 * sy + sx)) z)) := by rw [hr_16, ef_0, wu_wu]
  have m16 : md (fun _ => False) f f_16 := by rw [e16]; exact md_new hn_q_0
  have hx16 := m16 _ _ _ hx (fun z => z)
  have hq16 : f_16 q_0 = some (100 + st 0 0, (eC sx sy z (radOn (st 1 (16 * sy + sx)) z) (depOn (st 1 (16 * sy + sx)) z) (depOn (st 1 (16 * sy + sx)) z))) := by rw [e16]; exact wu_self _ _ _ _
  have hL1_16 := hL1.md m16 (fun z => z)
  have hC16 : ∀ k, k < st 0 0 → f_16 (g1 k) = some (100 + k, eCs st k) := fun k hk => m16 _ _ _ (hC k hk) (fun z => z)
  refine lv_astore (lv' := [(4, .ref q_0), (0, .ref x), (1, .int (nI sx)), (2, .int (nI sy)), (3, .int (nI z))]) X.1 X.2.1 dX9_dropStone_19 hl (by decide) rfl (fun ls hl => ?_)
  refine lv_iconst (v := 0) X.1 X.2.1 dX9_dropStone_21 (by decide) ?_
  refine lv_istore (lv' := [(5, .int 0), (4, .ref q_0), (0, .ref x), (1, .int (nI sx)), (2, .int (nI sy)), (3, .int (nI z))]) X.1 X.2.1 dX9_dropStone_22 hl (by decide) rfl (fun ls hl => ?_)
  refine lv_iconst (v := 0) X.1 X.2.1 dX9_dropStone_24 (by decide) ?_
  refine lv_istore (lv' := [(6, .int 0), (5, .int 0), (4, .ref q_0), (0, .ref x), (1, .int (nI sx)), (2, .int (nI sy)), (3, .int (nI z))]) X.1 X.2.1 dX9_dropStone_25 hl (by decide) rfl (fun ls hl => ?_)
  refine W_genQ (fun Q9 hQ9 => ?_)
  have loop : ∀ (N : Nat) (k : Nat) (fk : Wd) (H : Heap) (locs : List Loc) (ls : Array Slot), k ≤ st 0 0 → st 0 0 < k + N → md (fun t => 100 ≤ t ∧ t < 100 + st 0 0) f_16 fk → (∀ j, j < k → fk (g1 j) = some (100 + j, eC (st 2 j) (st 3 j) (st 4 j) (st 5 j) (st 6 j) (st 7 j - lossB st j sx sy z))) → (∀ j, k ≤ j → j < st 0 0 → fk (g1 j) = some (100 + j, eCs st j)) → cxS G s0 fk H locs → lv_has ls 8 [(0, .ref x), (4, .ref q_0), (5, .int (nI (cn (goneB st sx sy z) k))), (6, .int (nI k))] → W p0 l e0 ({ frames := 7, cells := 2, slots := 306, locals := 191 } : Room) s0 m0 ([.ref x, .int (nI sx), .int (nI sy), .int (nI z)] : List Value).toArray b0 meth0 c0 H locs 1 6 Q9 (F0 m0 27 ls []) := by
    intro N
    induction N with
    | zero =>
      intro k fk  H locs ls hk hN hmk hdn htd S hl
      exfalso
      omega
    | succ N ih =>
      intro k fk  H locs ls hk hN hmk hdn htd S hl
      have hxk := hmk _ _ _ hx16 (by omega)
      have hqk := hmk _ _ _ hq16 (by omega)
      have hL1k := hL1_16.md hmk (by omega)
      refine lv_iload X.1 X.2.1 dX9_dropStone_27 (lv_at hl 3 rfl) ?_
      refine lv_aload_n X.1 X.2.1 dX9_dropStone_29 rfl (lv_at hl 0 rfl) ?_
      refine r_get (C := RX9) (T := TX9) (N := 6) (ref := "Craterclock") X S in_RX9 hxk rfl 1 (by decide) (by decide +kernel) (fun _ h => h) rfl dX9_dropStone_30 ?_
      refine call_ip (run_V X S (m_sizeL l G fk L1 3 (st 0 0) g1 hL1k) 0 gX9_dropStone_Jx4a65c_size_8abf5 rfl rfl rfl (by decide +kernel) ⟨(by exact Nat.le_of_ble_eq_true rfl), (by exact Nat.le_of_ble_eq_true rfl)⟩ hL1k.obj rfl rfl rfl hl.1 rfl (by exact Nat.le_of_ble_eq_true rfl) dX9_dropStone_33 ⟨(by exact Nat.le_of_ble_eq_true rfl), (by exact Nat.le_of_ble_eq_true rfl)⟩) S (fun r_33 H locs hr_33 S => ?_)
      subst hr_33
      refine lv_icmp_ge (tgt := 77) X.1 X.2.1 dX9_dropStone_36 (by decide) (fun c_36 => ?_) (fun c_36 => ?_)
      · have hkn : k = st 0 0 := by
          have := (nI_leI (by omega) (by omega)).mp c_36
          omega
        subst hQ9
        refine lv_aload_n X.1 X.2.1 dX9_dropStone_77 rfl (lv_at hl 0 rfl) ?_
        refine r_get (C := RX9) (T := TX9) (N := 6) (ref := "Craterclock") X S in_RX9 hxk rfl 1 (by decide) (by decide +kernel) (fun _ h => h) rfl dX9_dropStone_78 ?_
        refine lv_aload X.1 X.2.1 dX9_dropStone_81 (lv_at hl 1 rfl) ?_
        refine call_i (run_V X S (m_add l G fk L1 3 (st 0 0) q_0 g1 (by omega) hn200 (fun i hi => ⟨100 + i, 2, _, _, hdn i (by omega), rfl, by decide +kernel⟩) ⟨100 + st 0 0, 2, _, _, hqk, rfl, by decide +kernel⟩ hL1k) 1 gX9_dropStone_Jx4a65c_add_9ea2d rfl rfl rfl (by decide +kernel) ⟨(by exact Nat.le_of_ble_eq_true rfl), (by exact Nat.le_of_ble_eq_true rfl)⟩ hL1k.obj rfl rfl rfl hl.1 rfl (by exact Nat.le_of_ble_eq_true rfl) dX9_dropStone_83 ⟨(by exact Nat.le_of_ble_eq_true rfl), (by exact Nat.le_of_ble_eq_true rfl)⟩) S (fun r_83 f_83 H locs hr_83 S => ?_)
        obtain ⟨hLn, hmn⟩ := hr_83
        refine lv_pop X.1 X.2.1 dX9_dropStone_86 rfl ?_
        refine lv_iload X.1 X.2.1 dX9_dropStone_87 (lv_at hl 2 rfl) ?_
        refine e_i X hr S (Nat.le_of_ble_eq_true rfl) (Nat.le_of_ble_eq_true rfl) dX9_dropStone_89 ?_
        have mall : md tX f f_83 := md_tr m16 (md_tr hmk hmn (fun t q => Or.inl q) (fun t q => Or.inr q) : md (fun t => (100 ≤ t ∧ t < 100 + st 0 0) ∨ t = 3) f_16 f_83) (fun t q => q.elim) (fun t q => by unfold tX; omega)
        have mold : md (fun t => (100 ≤ t ∧ t < 100 + st 0 0) ∨ t = 3) f f_83 := md_tr m16 (md_tr hmk hmn (fun t q => Or.inl q) (fun t q => Or.inr q) : md (fun t => (100 ≤ t ∧ t < 100 + st 0 0) ∨ t = 3) f_16 f_83) (fun t q => q.elim) (fun t q => q)
        subst hkn
        refine ⟨rfl, ⟨gr, rw1, L1, L2, L3, cu, L4, va_up g1 (st 0 0) q_0, g2, g3, g4, w, ?_⟩, mall⟩
        have e0 : ∀ i, i ≠ 0 → fallSt st sx sy z 0 i = st 0 i := fun i hi => fall_e _ _ _ _ (by omega)
        have e8 : ∀ A i, 8 ≤ A → fallSt st sx sy z A i = st A i := fun A i hi => fall_e _ _ _ _ (by omega)
        have e1 : fallSt st sx sy z 1 = st 1 := funext fun i => fall_e _ _ _ _ (by omega)
        refine ⟨?_, mold _ _ _ hgr (by omega), mold _ _ _ hrw (by omega), ?_, ?_, fun j hj => ?_, ?_, fun i hi => ?_, ?_, fun i hi => ?_, mold _ _ _ hcu (by omega), ?_, fun i hi => ?_⟩
        · rw [e0 4 (by omega)]; exact mold _ _ _ hx (by omega)
        · rw [e1]; exact hgd
        · rw [fall_n]; exact hLn
        · rw [fall_n] at hj
          by_cases q : j = st 0 0
          · subst q
            rw [va_up_self]
            unfold eCs
            rw [fall_2, fall_3, fall_4, fall_5, fall_6, fall_7]
            exact hmn _ _ _ hqk (by omega)
          · have q2 : j < st 0 0 := by omega
            rw [va_up_ne _ _ q]
            unfold eCs
            rw [fall_e (A := 2) _ _ _ _ (by omega), fall_e (A := 3) _ _ _ _ (by omega), fall_e (A := 4) _ _ _ _ (by omega), fall_e (A := 5) _ _ _ _ (by omega), fall_e (A := 6) _ _ _ _ (by omega), fall_d _ _ _ _ q2]
            exact hmn _ _ _ (hdn j q2) (by omega)
        · rw [e0 1 (by omega)]; exact hL2.md mold (by omega)
        · rw [e0 1 (by omega)] at hi
          rw [e8 8 i (by omega), show fallSt st sx sy z (1000 + i) = st (1000 + i) from funext fun q => e8 _ q (by omega)]
          exact (hS2 i hi).kept (fun b e hb => mold _ _ _ hb (by omega))
        · rw [e0 2 (by omega)]; exact hL3.md mold (by omega)
        · rw [e0 2 (by omega)] at hi
          rw [e8 9 i (by omega)]
          exact mold _ _ _ (hE i hi) (by omega)
        · rw [e0 3 (by omega)]; exact hL4.md mold (by omega)
        · rw [e0 3 (by omega)] at hi
          rw [e8 10 i (by omega), e8 11 i (by omega)]
          exact mold _ _ _ (hA i hi) (by omega)
      · have hlt_k : k < st 0 0 := Nat.lt_of_not_le (fun z => c_36 (nI_le z (by omega)))
        have hcc := hi2 k hlt_k
        have hr7 := hcc.2.2.2.2.2.1
        have hf7 := hcc.2.2.2.2.2.2.1
        have hd7 := hcc.2.2.2.2.2.2.2
        have hck := htd k (Nat.le_refl _) hlt_k
        have hlb : lossB st k sx sy z ≤ 30 := lossN_le hf7 hz
        have hrn := radOn_in (g := (st 1 (16 * sy + sx))) hz1 hz
        refine lv_aload_n X.1 X.2.1 dX9_dropStone_39 rfl (lv_at hl 0 rfl) ?_
        refine r_get (C := RX9) (T := TX9) (N := 6) (ref := "Craterclock") X S in_RX9 hxk rfl 1 (by decide) (by decide +kernel) (fun _ h => h) rfl dX9_dropStone_40 ?_
        refine lv_iload X.1 X.2.1 dX9_dropStone_43 (lv_at hl 3 rfl) ?_
        refine call_rp (run_V X S (m_get l G fk L1 3 (st 0 0) k g1 hL1k hlt_k (by omega)) 1 gX9_dropStone_Jx4a65c_get_915e3 rfl rfl rfl (by decide +kernel) ⟨(by exact Nat.le_of_ble_eq_true rfl), (by exact Nat.le_of_ble_eq_true rfl)⟩ hL1k.obj rfl rfl rfl hl.1 rfl (by exact Nat.le_of_ble_eq_true rfl) dX9_dropStone_45 ⟨(by exact Nat.le_of_ble_eq_true rfl), (by exact Nat.le_of_ble_eq_true rfl)⟩) S (fun r_45 H locs hr_45 S => ?_)
        subst hr_45
        refine r_castS X S (nm := "Craterclock$Crater") rfl (by decide +kernel) hck rfl dX9_dropStone_48 ?_
        refine lv_astore (lv' := [(7, .ref (g1 k)), (0, .ref x), (4, .ref q_0), (5, .int (nI (cn (goneB st sx sy z) k))), (6, .int (nI k))]) X.1 X.2.1 dX9_dropStone_51 hl (by decide) rfl (fun ls hl => ?_)
        refine lv_aload X.1 X.2.1 dX9_dropStone_53 (lv_at hl 0 rfl) ?_
        refine lv_aload X.1 X.2.1 dX9_dropStone_55 (lv_at hl 0 rfl) ?_
        refine lv_aload X.1 X.2.1 dX9_dropStone_57 (lv_at hl 2 rfl) ?_
        refine call_ip (run_V X S (m_lossBy l G fk (g1 k) (100 + k) q_0 (100 + st 0 0) (st 2 k) (st 3 k) (st 4 k) (st 5 k) (st 6 k) (st 7 k) sx sy z (radOn (st 1 (16 * sy + sx)) z) (depOn (st 1 (16 * sy + sx)) z) (depOn (st 1 (16 * sy + sx)) z) hck hqk hcc.1 hcc.2.1 (by omega) hsx hsy (by omega)) 1 gX9_dropStone_X1_lossBy rfl rfl rfl (by decide +kernel) ⟨(by exact Nat.le_of_ble_eq_true rfl), (by exact Nat.le_of_ble_eq_true rfl)⟩ ⟨_, _, hck⟩ rfl rfl rfl hl.1 rfl (by exact Nat.le_of_ble_eq_true rfl) dX9_dropStone_59 ⟨(by exact Nat.le_of_ble_eq_true rfl), (by exact Nat.le_of_ble_eq_true rfl)⟩) S (fun r_59 H locs hr_59 S => ?_)
        subst hr_59
        refine call_i (run_V X S (m_lessen l G fk (g1 k) (100 + k) (st 2 k) (st 3 k) (st 4 k) (st 5 k) (st 6 k) (st 7 k) (lossB st k sx sy z) hck (by omega) (by omega) (by omega)) 1 gX9_dropStone_X1_lessen rfl rfl rfl (by decide +kernel) ⟨(by exact Nat.le_of_ble_eq_true rfl), (by exact Nat.le_of_ble_eq_true rfl)⟩ ⟨_, _, hck⟩ rfl rfl rfl hl.1 rfl (by exact Nat.le_of_ble_eq_true rfl) dX9_dropStone_62 ⟨(by exact Nat.le_of_ble_eq_true rfl), (by exact Nat.le_of_ble_eq_true rfl)⟩) S (fun r_62 f_62 H locs hr_62 S => ?_)
        obtain ⟨rfl, e62⟩ := hr_62
        have hm62 : md (fun t => 100 ≤ t ∧ t < 100 + st 0 0) f_16 f_62 := by rw [e62]; exact md_tr hmk (md_put hck) (fun _ q => q) (fun t q => by omega)
        have hd62 : ∀ j, j < k + 1 → f_62 (g1 j) = some (100 + j, eC (st 2 j) (st 3 j) (st 4 j) (st 5 j) (st 6 j) (st 7 j - lossB st j sx sy z)) := fun j hj => by
          rw [e62]
          by_cases q : j = k
          · rw [q]; exact wu_self _ _ _ _
          · exact wu_get hck (hdn j (by omega)) (by omega)
        have ht62 : ∀ j, k + 1 ≤ j → j < st 0 0 → f_62 (g1 j) = some (100 + j, eCs st j) := fun j h1 h2 => by rw [e62]; exact wu_get hck (htd j (by omega) h2) (by omega)
        refine r_eqB (tgt := 71) X dX9_dropStone_65 (by decide) (fun c_65 => ?_) (fun c_65 => ?_)
        · refine lv_iinc (v := (nI (k + 1))) (lv' := [(6, .int (nI (k + 1))), (7, .ref (g1 k)), (0, .ref x), (4, .ref q_0), (5, .int (nI (cn (goneB st sx sy z) k)))]) X.1 X.2.1 dX9_dropStone_71 hl (k := 4) rfl (nI_1 _) (by decide) rfl (fun ls hl => ?_)
          refine lv_goto (tgt := 27) X.1 X.2.1 dX9_dropStone_74 (by decide) ?_
          have hcn : cn (goneB st sx sy z) (k + 1) = cn (goneB st sx sy z) k := cn_f c_65
          exact ih (k + 1) f_62 H locs ls (by omega) (by omega) hm62 hd62 ht62 S (by rw [hcn]; exact lv_sub hl [2, 3, 4, 0] rfl)
        · refine lv_iinc (v := (nI ((cn (goneB st sx sy z) k) + 1))) (lv' := [(5, .int (nI ((cn (goneB st sx sy z) k) + 1))), (7, .ref (g1 k)), (0, .ref x), (4, .ref q_0), (6, .int (nI k))]) X.1 X.2.1 dX9_dropStone_68 hl (k := 3) rfl (nI_1 _) (by decide) rfl (fun ls hl => ?_)
          refine lv_iinc (v := (nI (k + 1))) (lv' := [(6, .int (nI (k + 1))), (5, .int (nI ((cn (goneB st sx sy z) k) + 1))), (7, .ref (g1 k)), (0, .ref x), (4, .ref q_0)]) X.1 X.2.1 dX9_dropStone_71 hl (k := 4) rfl (nI_1 _) (by decide) rfl (fun ls hl => ?_)
          refine lv_goto (tgt := 27) X.1 X.2.1 dX9_dropStone_74 (by decide) ?_
          have hcn : cn (goneB st sx sy z) (k + 1) = cn (goneB st sx sy z) k + 1 := cn_t c_65
          exact ih (k + 1) f_62 H locs ls (by omega) (by omega) hm62 hd62 ht62 S (by rw [hcn]; exact lv_sub hl [3, 4, 1, 0] rfl)
  exact loop (st 0 0 + 1) 0 f_16 _ _ _ (by omega) (by omega) (md_rf _ _) (fun j hj => by omega) (fun j _ hj => hC16 j hj) S (lv_sub hl [3, 2, 1, 0] rfl)

set_option maxRecDepth 100000 in
set_option maxHeartbeats 4000000 in
/-- lessenAll -/
theorem m_lessenAll (l : Launch) (G : cx_G) (f : Wd) (st : St) (x gr rw1 L1 L2 L3 cu L4 : Nat) (g1 g2 g3 g4 : Nat → Nat) (w : Nat → Int32) (hI : sInv st) (hR : RXx G f st x gr rw1 L1 L2 L3 cu L4 g1 g2 g3 g4 w) (o : Nat) (φ : Nat → Nat) (ht100 : st 0 1 < 100) (hφ80 : ∀ c, c < 256 → φ c ≤ 80) (ho : lesO G f o (st 0 0) φ) : MI l G yX9_lessenAll wsX9_lessenAll 7 191 1 300 [.ref x, .ref o] f (fun r f' => r = nI (cn (goneL st φ) (st 0 0)) ∧ RX G f' (lessSt st φ) x ∧ md tX f f') := by
  refine cx_body (cc := cX9_lessenAll) (n := 5) (ret := (some .int)) (by decide +kernel) rfl (Nat.le_of_ble_eq_true rfl) ?_
  intro p0 e0 s0 m0 b0 meth0 c0 ls X hr hnm S hl
  have X : cxC G p0 l _ c0 cX9_lessenAll 5 m0 meth0 s0 _ RX9 wsX9_lessenAll := X
  have hl : lv_has ls 5 [(0, .ref x), (1, .ref o)] := hl
  have in_RX9 : ∀ w ∈ u_ws RX9 TX9 6, w ∈ wsX9_lessenAll := by decide +kernel
  obtain ⟨hi0, hi1, hi2, hi3, hi4, hi5, hi6, hi7⟩ := id hI
  obtain ⟨hx, hgr, hrw, hgd, hL1, hC, hL2, hS2, hL3, hE, hcu, hL4, hA⟩ := id hR
  have hoE : elO f o := by
    rcases ho with ⟨fl, v, x0, y0, tx, ty, h1, -⟩ | ⟨gr2, rw2, v, w2, g, h1, -⟩
    · exact ⟨8, 6, _, _, h1, rfl, by decide +kernel⟩
    · exact ⟨8, 8, _, _, h1, rfl, by decide +kernel⟩
  have hoE2 : ∀ i, i < st 0 1 → elO f (g2 i) := fun i hi => by
    rcases hS2 i hi with ⟨fl, v, x0, y0, tx, ty, h1, -⟩ | ⟨gr2, rw2, v, w2, g, h1, -⟩
    · exact ⟨8, 6, _, _, h1, rfl, by decide +kernel⟩
    · exact ⟨8, 8, _, _, h1, rfl, by decide +kernel⟩
  refine lv_aload_n X.1 X.2.1 dX9_lessenAll_0 rfl (lv_at hl 0 rfl) ?_
  refine r_get (C := RX9) (T := TX9) (N := 6) (ref := "Craterclock") X S in_RX9 hx rfl 2 (by decide) (by decide +kernel) (fun _ h => h) rfl dX9_lessenAll_1 ?_
  refine lv_aload_n X.1 X.2.1 dX9_lessenAll_4 rfl (lv_at hl 1 rfl) ?_
  refine call_i (run_V X S (m_add l G f L2 4 (st 0 1) o g2 (by omega) (by omega) hoE2 hoE hL2) 1 gX9_lessenAll_Jx4a65c_add_9ea2d rfl rfl rfl (by decide +kernel) ⟨(by exact Nat.le_of_ble_eq_true rfl), (by exact Nat.le_of_ble_eq_true rfl)⟩ hL2.obj rfl rfl rfl hl.1 rfl (by exact Nat.le_of_ble_eq_true rfl) dX9_lessenAll_5 ⟨(by exact Nat.le_of_ble_eq_true rfl), (by exact Nat.le_of_ble_eq_true rfl)⟩) S (fun r_5 f_5 H locs hr_5 S => ?_)
  obtain ⟨hLn, hmn⟩ := hr_5
  have hx5 := hmn _ _ _ hx (by omega)
  have hL1_5 := hL1.md hmn (by omega)
  have ho5 := ho.kept (fun b e hb => hmn _ _ _ hb (by omega))
  have hC5 : ∀ k, k < st 0 0 → f_5 (g1 k) = some (100 + k, eCs st k) := fun k hk => hmn _ _ _ (hC k hk) (by omega)
  refine lv_pop X.1 X.2.1 dX9_lessenAll_8 rfl ?_
  refine lv_iconst (v := 0) X.1 X.2.1 dX9_lessenAll_9 (by decide) ?_
  refine lv_istore_n (lv' := [(2, .int 0), (0, .ref x), (1, .ref o)]) X.1 X.2.1 dX9_lessenAll_10 rfl hl (by decide) rfl (fun ls hl => ?_)
  refine lv_iconst (v := 0) X.1 X.2.1 dX9_lessenAll_11 (by decide) ?_
  refine lv_istore_n (lv' := [(3, .int 0), (2, .int 0), (0, .ref x), (1, .ref o)]) X.1 X.2.1 dX9_lessenAll_12 rfl hl (by decide) rfl (fun ls hl => ?_)
  refine W_genQ (fun Q9 hQ9 => ?_)
  have loop : ∀ (N : Nat) (k : Nat) (fk : Wd) (H : Heap) (locs : List Loc) (ls : Array Slot), k ≤ st 0 0 → st 0 0 < k + N → md (fun t => 100 ≤ t ∧ t < 100 + st 0 0) f_5 fk → (∀ j, j < k → fk (g1 j) = some (100 + j, eC (st 2 j) (st 3 j) (st 4 j) (st 5 j) (st 6 j) (st 7 j - lessC st φ j))) → (∀ j, k ≤ j → j < st 0 0 → fk (g1 j) = some (100 + j, eCs st j)) → cxS G s0 fk H locs → lv_has ls 5 [(0, .ref x), (1, .ref o), (2, .int (nI (cn (goneL st φ) k))), (3, .int (nI k))] → W p0 l e0 ({ frames := 7, cells := 1, slots := 300, locals := 191 } : Room) s0 m0 ([.ref x, .ref o] : List Value).toArray b0 meth0 c0 H locs 1 300 Q9 (F0 m0 13 ls []) := by
    intro N
    induction N with
    | zero =>
      intro k fk  H locs ls hk hN hmk hdn htd S hl
      exfalso
      omega
    | succ N ih =>
      intro k fk  H locs ls hk hN hmk hdn htd S hl
      have hxk := hmk _ _ _ hx5 (by omega)
      have hL1k := hL1_5.md hmk (by omega)
      have hok := ho5.kept (fun b e hb => hmk _ _ _ hb (by omega))
      refine lv_iload_n X.1 X.2.1 dX9_lessenAll_13 rfl (lv_at hl 3 rfl) ?_
      refine lv_aload_n X.1 X.2.1 dX9_lessenAll_14 rfl (lv_at hl 0 rfl) ?_
      refine r_get (C := RX9) (T := TX9) (N := 6) (ref := "Craterclock") X S in_RX9 hxk rfl 1 (by decide) (by decide +kernel) (fun _ h => h) rfl dX9_lessenAll_15 ?_
      refine call_ip (run_V X S (m_sizeL l G fk L1 3 (st 0 0) g1 hL1k) 0 gX9_lessenAll_Jx4a65c_size_8abf5 rfl rfl rfl (by decide +kernel) ⟨(by exact Nat.le_of_ble_eq_true rfl), (by exact Nat.le_of_ble_eq_true rfl)⟩ hL1k.obj rfl rfl rfl hl.1 rfl (by exact Nat.le_of_ble_eq_true rfl) dX9_lessenAll_18 ⟨(by exact Nat.le_of_ble_eq_true rfl), (by exact Nat.le_of_ble_eq_true rfl)⟩) S (fun r_18 H locs hr_18 S => ?_)
      subst hr_18
      refine lv_icmp_ge (tgt := 60) X.1 X.2.1 dX9_lessenAll_21 (by decide) (fun c_21 => ?_) (fun c_21 => ?_)
      · have hkn : k = st 0 0 := by
          have := (nI_leI (by omega) (by omega)).mp c_21
          omega
        subst hQ9
        refine lv_iload_n X.1 X.2.1 dX9_lessenAll_60 rfl (lv_at hl 2 rfl) ?_
        refine e_i X hr S (Nat.le_of_ble_eq_true rfl) (Nat.le_of_ble_eq_true rfl) dX9_lessenAll_61 ?_
        have mold : md (fun t => (100 ≤ t ∧ t < 100 + st 0 0) ∨ t = 4) f fk := md_tr hmn hmk (fun t q => Or.inr q) (fun t q => Or.inl q)
        have mall : md tX f fk := md_mono mold (fun t q => by unfold tX; omega)
        subst hkn
        refine ⟨rfl, ⟨gr, rw1, L1, L2, L3, cu, L4, g1, va_up g2 (st 0 1) o, g3, g4, w, ?_⟩, mall⟩
        have e0 : ∀ i, i ≠ 1 → lessSt st φ 0 i = st 0 i := fun i hi => less_e _ _ (by omega)
        have e1 : lessSt st φ 1 = st 1 := funext fun i => less_e _ _ (by omega)
        refine ⟨?_, mold _ _ _ hgr (by omega), mold _ _ _ hrw (by omega), ?_, ?_, fun j hj => ?_, ?_, fun i hi => ?_, ?_, fun i hi => ?_, mold _ _ _ hcu (by omega), ?_, fun i hi => ?_⟩
        · rw [e0 4 (by omega)]; exact mold _ _ _ hx (by omega)
        · rw [e1]; exact hgd
        · rw [e0 0 (by omega)]; exact hL1.md mold (by omega)
        · rw [e0 0 (by omega)] at hj
          unfold eCs
          rw [less_e (A := 2) _ _ (by omega), less_e (A := 3) _ _ (by omega), less_e (A := 4) _ _ (by omega), less_e (A := 5) _ _ (by omega), less_e (A := 6) _ _ (by omega), less_d _ _ hj]
          exact hdn j hj
        · rw [less_t]; exact hLn.md hmk (by omega)
        · rw [less_t] at hi
          by_cases q : i = st 0 1
          · subst q
            rw [va_up_self, less_8, show lessSt st φ (1000 + st 0 1) = φ from funext fun q => less_φ _ _ q]
            exact hok
          · rw [va_up_ne _ _ q, less_e (A := 8) _ _ (by omega), show lessSt st φ (1000 + i) = st (1000 + i) from funext fun q => less_e _ _ (by omega)]
            exact (hS2 i (by omega)).kept (fun b e hb => mold _ _ _ hb (by omega))
        · rw [e0 2 (by omega)]; exact hL3.md mold (by omega)
        · rw [e0 2 (by omega)] at hi
          rw [less_e (A := 9) _ _ (by omega)]
          exact mold _ _ _ (hE i hi) (by omega)
        · rw [e0 3 (by omega)]; exact hL4.md mold (by omega)
        · rw [e0 3 (by omega)] at hi
          rw [less_e (A := 10) _ _ (by omega), less_e (A := 11) _ _ (by omega)]
          exact mold _ _ _ (hA i hi) (by omega)
      · have hlt_k : k < st 0 0 := Nat.lt_of_not_le (fun z => c_21 (nI_le z (by omega)))
        have hcc := hi2 k hlt_k
        have hf7 := hcc.2.2.2.2.2.2.1
        have hd7 := hcc.2.2.2.2.2.2.2
        have hxy := cell_in hcc.1 hcc.2.1
        have hck := htd k (Nat.le_refl _) hlt_k
        have hlb : lessC st φ k ≤ 80 := hφ80 _ hxy
        refine lv_aload_n X.1 X.2.1 dX9_lessenAll_24 rfl (lv_at hl 0 rfl) ?_
        refine r_get (C := RX9) (T := TX9) (N := 6) (ref := "Craterclock") X S in_RX9 hxk rfl 1 (by decide) (by decide +kernel) (fun _ h => h) rfl dX9_lessenAll_25 ?_
        refine lv_iload_n X.1 X.2.1 dX9_lessenAll_28 rfl (lv_at hl 3 rfl) ?_
        refine call_rp (run_V X S (m_get l G fk L1 3 (st 0 0) k g1 hL1k hlt_k (by omega)) 1 gX9_lessenAll_Jx4a65c_get_915e3 rfl rfl rfl (by decide +kernel) ⟨(by exact Nat.le_of_ble_eq_true rfl), (by exact Nat.le_of_ble_eq_true rfl)⟩ hL1k.obj rfl rfl rfl hl.1 rfl (by exact Nat.le_of_ble_eq_true rfl) dX9_lessenAll_29 ⟨(by exact Nat.le_of_ble_eq_true rfl), (by exact Nat.le_of_ble_eq_true rfl)⟩) S (fun r_29 H locs hr_29 S => ?_)
        subst hr_29
        refine r_castS X S (nm := "Craterclock$Crater") rfl (by decide +kernel) hck rfl dX9_lessenAll_32 ?_
        refine lv_astore (lv' := [(4, .ref (g1 k)), (0, .ref x), (1, .ref o), (2, .int (nI (cn (goneL st φ) k))), (3, .int (nI k))]) X.1 X.2.1 dX9_lessenAll_35 hl (by decide) rfl (fun ls hl => ?_)
        refine lv_aload X.1 X.2.1 dX9_lessenAll_37 (lv_at hl 0 rfl) ?_
        refine lv_aload_n X.1 X.2.1 dX9_lessenAll_39 rfl (lv_at hl 2 rfl) ?_
        refine lv_aload X.1 X.2.1 dX9_lessenAll_40 (lv_at hl 0 rfl) ?_
        rcases hok with ⟨fl, vv, x0, y0, tx, ty, ho, hfl, ⟨hx0, hy0, htx, hty⟩, hφ⟩ | ⟨sg, sr, vv, sw, sgd, ho, hsg, hsr, hgrd, hsgb, hvv, hφ⟩
        · refine call_ip (run_U X S (m_lossF l G fk o 8 fl 8 (st 0 0) x0 y0 tx ty vv (g1 k) (100 + k) (st 2 k) (st 3 k) (st 4 k) (st 5 k) (st 6 k) (st 7 k) ho hfl hck hcc.1 hcc.2.1 hx0 hy0 htx hty) 1 gX9_lessenAll_X5_lossOf_u214X5 rfl rfl rfl (by decide +kernel) (by decide +kernel) ⟨(by exact Nat.le_of_ble_eq_true rfl), (by exact Nat.le_of_ble_eq_true rfl)⟩ ⟨_, _, ho⟩ rfl rfl rfl hl.1 rfl (by exact Nat.le_of_ble_eq_true rfl) dX9_lessenAll_42 ⟨(by exact Nat.le_of_ble_eq_true rfl), (by exact Nat.le_of_ble_eq_true rfl)⟩) S (fun r_42 H locs hr_42 S => ?_)
          rw [← hφ _ _ hcc.1 hcc.2.1] at hr_42
          subst hr_42
          refine call_i (run_V X S (m_lessen l G fk (g1 k) (100 + k) (st 2 k) (st 3 k) (st 4 k) (st 5 k) (st 6 k) (st 7 k) (lessC st φ k) hck (by omega) (by omega) (by omega)) 1 gX9_lessenAll_X1_lessen rfl rfl rfl (by decide +kernel) ⟨(by exact Nat.le_of_ble_eq_true rfl), (by exact Nat.le_of_ble_eq_true rfl)⟩ ⟨_, _, hck⟩ rfl rfl rfl hl.1 rfl (by exact Nat.le_of_ble_eq_true rfl) dX9_lessenAll_45 ⟨(by exact Nat.le_of_ble_eq_true rfl), (by exact Nat.le_of_ble_eq_true rfl)⟩) S (fun r_45 f_45 H locs hr_45 S => ?_)
          obtain ⟨rfl, e62⟩ := hr_45
          have hm45 : md (fun t => 100 ≤ t ∧ t < 100 + st 0 0) f_5 f_45 := by rw [e62]; exact md_tr hmk (md_put hck) (fun _ q => q) (fun t q => by omega)
          have hd45 : ∀ j, j < k + 1 → f_45 (g1 j) = some (100 + j, eC (st 2 j) (st 3 j) (st 4 j) (st 5 j) (st 6 j) (st 7 j - lessC st φ j)) := fun j hj => by
            rw [e62]
            by_cases q : j = k
            · rw [q]; exact wu_self _ _ _ _
            · exact wu_get hck (hdn j (by omega)) (by omega)
          have ht45 : ∀ j, k + 1 ≤ j → j < st 0 0 → f_45 (g1 j) = some (100 + j, eCs st j) := fun j h1 h2 => by rw [e62]; exact wu_get hck (htd j (by omega) h2) (by omega)
          refine r_eqB (tgt := 54) X dX9_lessenAll_48 (by decide) (fun c_48 => ?_) (fun c_48 => ?_)
          · refine lv_iinc (v := (nI (k + 1))) (lv' := [(3, .int (nI (k + 1))), (4, .ref (g1 k)), (0, .ref x), (1, .ref o), (2, .int (nI (cn (goneL st φ) k)))]) X.1 X.2.1 dX9_lessenAll_54 hl (k := 4) rfl (nI_1 _) (by decide) rfl (fun ls hl => ?_)
            refine lv_goto (tgt := 13) X.1 X.2.1 dX9_lessenAll_57 (by decide) ?_
            have hcn : cn (goneL st φ) (k + 1) = cn (goneL st φ) k := cn_f c_48
            exact ih (k + 1) f_45 H locs ls (by omega) (by omega) hm45 hd45 ht45 S (by rw [hcn]; exact lv_sub hl [2, 3, 4, 0] rfl)
          · refine lv_iinc (v := (nI ((cn (goneL st φ) k) + 1))) (lv' := [(2, .int (nI ((cn (goneL st φ) k) + 1))), (4, .ref (g1 k)), (0, .ref x), (1, .ref o), (3, .int (nI k))]) X.1 X.2.1 dX9_lessenAll_51 hl (k := 3) rfl (nI_1 _) (by decide) rfl (fun ls hl => ?_)
            refine lv_iinc (v := (nI (k + 1))) (lv' := [(3, .int (nI (k + 1))), (2, .int (nI ((cn (goneL st φ) k) + 1))), (4, .ref (g1 k)), (0, .ref x), (1, .ref o)]) X.1 X.2.1 dX9_lessenAll_54 hl (k := 4) rfl (nI_1 _) (by decide) rfl (fun ls hl => ?_)
            refine lv_goto (tgt := 13) X.1 X.2.1 dX9_lessenAll_57 (by decide) ?_
            have hcn : cn (goneL st φ) (k + 1) = cn (goneL st φ) k + 1 := cn_t c_48
            exact ih (k + 1) f_45 H locs ls (by omega) (by omega) hm45 hd45 ht45 S (by rw [hcn]; exact lv_sub hl [3, 4, 1, 0] rfl)
        · refine call_ip (run_U X S (m_lossS l G fk o 8 sg 8 sr 8 (st 0 0) vv (g1 k) (100 + k) sw sgd (st 2 k) (st 3 k) (st 4 k) (st 5 k) (st 6 k) (st 7 k) ho hsg hsr hgrd hck hcc.1 hcc.2.1 (hsgb _ (by omega)) hvv) 1 gX9_lessenAll_X8_lossOf_u214X8 rfl rfl rfl (by decide +kernel) (by decide +kernel) ⟨(by exact Nat.le_of_ble_eq_true rfl), (by exact Nat.le_of_ble_eq_true rfl)⟩ ⟨_, _, ho⟩ rfl rfl rfl hl.1 rfl (by exact Nat.le_of_ble_eq_true rfl) dX9_lessenAll_42 ⟨(by exact Nat.le_of_ble_eq_true rfl), (by exact Nat.le_of_ble_eq_true rfl)⟩) S (fun r_42 H locs hr_42 S => ?_)
          rw [← hφ _ _ hcc.1 hcc.2.1] at hr_42
          subst hr_42
          refine call_i (run_V X S (m_lessen l G fk (g1 k) (100 + k) (st 2 k) (st 3 k) (st 4 k) (st 5 k) (st 6 k) (st 7 k) (lessC st φ k) hck (by omega) (by omega) (by omega)) 1 gX9_lessenAll_X1_lessen rfl rfl rfl (by decide +kernel) ⟨(by exact Nat.le_of_ble_eq_true rfl), (by exact Nat.le_of_ble_eq_true rfl)⟩ ⟨_, _, hck⟩ rfl rfl rfl hl.1 rfl (by exact Nat.le_of_ble_eq_true rfl) dX9_lessenAll_45 ⟨(by exact Nat.le_of_ble_eq_true rfl), (by exact Nat.le_of_ble_eq_true rfl)⟩) S (fun r_45 f_45 H locs hr_45 S => ?_)
          obtain ⟨rfl, e62⟩ := hr_45
          have hm45 : md (fun t => 100 ≤ t ∧ t < 100 + st 0 0) f_5 f_45 := by rw [e62]; exact md_tr hmk (md_put hck) (fun _ q => q) (fun t q => by omega)
          have hd45 : ∀ j, j < k + 1 → f_45 (g1 j) = some (100 + j, eC (st 2 j) (st 3 j) (st 4 j) (st 5 j) (st 6 j) (st 7 j - lessC st φ j)) := fun j hj => by
            rw [e62]
            by_cases q : j = k
            · rw [q]; exact wu_self _ _ _ _
            · exact wu_get hck (hdn j (by omega)) (by omega)
          have ht45 : ∀ j, k + 1 ≤ j → j < st 0 0 → f_45 (g1 j) = some (100 + j, eCs st j) := fun j h1 h2 => by rw [e62]; exact wu_get hck (htd j (by omega) h2) (by omega)
          refine r_eqB (tgt := 54) X dX9_lessenAll_48 (by decide) (fun c_48 => ?_) (fun c_48 => ?_)
          · refine lv_iinc (v := (nI (k + 1))) (lv' := [(3, .int (nI (k + 1))), (4, .ref (g1 k)), (0, .ref x), (1, .ref o), (2, .int (nI (cn (goneL st φ) k)))]) X.1 X.2.1 dX9_lessenAll_54 hl (k := 4) rfl (nI_1 _) (by decide) rfl (fun ls hl => ?_)
            refine lv_goto (tgt := 13) X.1 X.2.1 dX9_lessenAll_57 (by decide) ?_
            have hcn : cn (goneL st φ) (k + 1) = cn (goneL st φ) k := cn_f c_48
            exact ih (k + 1) f_45 H locs ls (by omega) (by omega) hm45 hd45 ht45 S (by rw [hcn]; exact lv_sub hl [2, 3, 4, 0] rfl)
          · refine lv_iinc (v := (nI ((cn (goneL st φ) k) + 1))) (lv' := [(2, .int (nI ((cn (goneL st φ) k) + 1))), (4, .ref (g1 k)), (0, .ref x), (1, .ref o), (3, .int (nI k))]) X.1 X.2.1 dX9_lessenAll_51 hl (k := 3) rfl (nI_1 _) (by decide) rfl (fun ls hl => ?_)
            refine lv_iinc (v := (nI (k + 1))) (lv' := [(3, .int (nI (k + 1))), (2, .int (nI ((cn (goneL st φ) k) + 1))), (4, .ref (g1 k)), (0, .ref x), (1, .ref o)]) X.1 X.2.1 dX9_lessenAll_54 hl (k := 4) rfl (nI_1 _) (by decide) rfl (fun ls hl => ?_)
            refine lv_goto (tgt := 13) X.1 X.2.1 dX9_lessenAll_57 (by decide) ?_
            have hcn : cn (goneL st φ) (k + 1) = cn (goneL st φ) k + 1 := cn_t c_48
            exact ih (k + 1) f_45 H locs ls (by omega) (by omega) hm45 hd45 ht45 S (by rw [hcn]; exact lv_sub hl [3, 4, 1, 0] rfl)
  exact loop (st 0 0 + 1) 0 f_5 _ _ _ (by omega) (by omega) (md_rf _ _) (fun j hj => by omega) (fun j _ hj => hC5 j hj) S (lv_sub hl [2, 3, 1, 0] rfl)
