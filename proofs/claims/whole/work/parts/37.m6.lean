set_option maxRecDepth 100000 in
set_option maxHeartbeats 4000000 in
theorem em_isOne (v : Int32) (σ : Hp) : CtI yX5_isOne wX5_isOne 1 [.int v] σ (bI (0 ≤ v ∧ v ≤ 3)) (σ) := by
  refine CtI.of (by decide) (Nat.le_of_ble_eq_true rfl) (bI_nar _) rfl (fun G hR hE => ?_)
  refine g_il_0 hR dX5_isOne_0 ?_
  refine g_i2l hR dX5_isOne_1 ?_
  refine g_lconst (v := 0) hR dX5_isOne_2 (by decide) ?_
  refine g_ldc2 hR dX5_isOne_3 kl_X5_300 ?_
  refine g_csI hR ciX5_in dX5_isOne_6 ml_X5_43 (Nat.le_of_ble_eq_true rfl) (ev_in v 0 3 rfl rfl σ) rfl (Nat.le_of_ble_eq_true rfl) rfl ?_
  exact hE dX5_isOne_9 (rfl) (rfl)
set_option maxRecDepth 100000 in
set_option maxHeartbeats 4000000 in
theorem em_narrowed (b v : Int32) (σ : Hp) : CtI yX5_narrowed wX5_narrowed 0 [.int b, .int v] σ (narr b v) (σ) := by
  refine CtI.of (by decide) (Nat.le_of_ble_eq_true rfl) rfl rfl (fun G hR hE => ?_)
  refine g_il_0 hR dX5_narrowed_0 ?_
  refine g_bipush_8 hR dX5_narrowed_1 ?_
  refine g_icmp_ne (tgt := 11) hR dX5_narrowed_3 (by decide) (fun h1 => ?_) (fun h1 => ?_)
  · refine g_il_0 hR dX5_narrowed_11 ?_
    refine g_bipush_16 hR dX5_narrowed_12 ?_
    refine g_icmp_ne (tgt := 22) hR dX5_narrowed_14 (by decide) (fun h2 => ?_) (fun h2 => ?_)
    · refine g_il_1 hR dX5_narrowed_22 ?_
      exact hE dX5_narrowed_23 (by unfold narr; rw [if_neg h1, if_neg h2]) (rfl)
    · refine g_il_1 hR dX5_narrowed_17 ?_
      refine g_i2s hR dX5_narrowed_18 ?_
      refine g_goto (tgt := 23) hR dX5_narrowed_19 (by decide) ?_
      exact hE dX5_narrowed_23 (by unfold narr; rw [if_neg h1, if_pos h2]) (rfl)
  · refine g_il_1 hR dX5_narrowed_6 ?_
    refine g_i2b hR dX5_narrowed_7 ?_
    refine g_goto (tgt := 23) hR dX5_narrowed_8 (by decide) ?_
    exact hE dX5_narrowed_23 (by unfold narr; rw [if_pos h1]) (rfl)
set_option maxRecDepth 100000 in
set_option maxHeartbeats 4000000 in
theorem em_wrong {s : Nat} (hs : s < 4) (σ : Hp) : CtI yX5_wrong wX5_wrong 2 [.ref 18, .int (nI s)] σ (if σ 12 s = 0 then -1000006 else 0) (σ) := by
  refine CtI.of (by decide) (Nat.le_of_ble_eq_true rfl) rfl rfl (fun G hR hE => ?_)
  refine g_il_1 hR dX5_wrong_0 ?_
  refine g_csI hR ciX5_isOne dX5_wrong_1 ml_X5_302 (Nat.le_of_ble_eq_true rfl) (em_isOne (nI s) σ) rfl (Nat.le_of_ble_eq_true rfl) rfl ?_
  refine g_if_ne (tgt := 12) hR dX5_wrong_4 (by decide) (fun _ => ?_) (fun hc => absurd hc (bI_pos ⟨nI_pos' (by omega), nI_le (b := 3) (by omega) (by decide)⟩))
  refine g_al_0 hR dX5_wrong_12 ?_
  refine gf_X5_bitsOf hR fl_X5_28 dX5_wrong_13 ?_
  refine g_il_1 hR dX5_wrong_16 ?_
  refine ga_25 hR s hs rfl dX5_wrong_17 ?_
  refine g_if_ne (tgt := 27) hR dX5_wrong_18 (by decide) (fun h => ?_) (fun h => ?_)
  · refine g_iconst_0 hR dX5_wrong_27 ?_
    exact hE dX5_wrong_28 ((if_neg h).symm) (rfl)
  · refine g_ldcw hR dX5_wrong_21 kc_X5_295 ?_
    refine g_goto (tgt := 28) hR dX5_wrong_24 (by decide) ?_
    exact hE dX5_wrong_28 ((if_pos h).symm) (rfl)
set_option maxRecDepth 100000 in
set_option maxHeartbeats 4000000 in
theorem em_wrong_out {a : Int32} (ha : ¬ (0 ≤ a ∧ a ≤ 3)) (σ : Hp) : CtI yX5_wrong wX5_wrong 2 [.ref 18, .int a] σ (-1000001) (σ) := by
  refine CtI.of (by decide) (Nat.le_of_ble_eq_true rfl) rfl rfl (fun G hR hE => ?_)
  refine g_il_1 hR dX5_wrong_0 ?_
  refine g_csI hR ciX5_isOne dX5_wrong_1 ml_X5_302 (Nat.le_of_ble_eq_true rfl) (em_isOne a σ) rfl (Nat.le_of_ble_eq_true rfl) rfl ?_
  refine g_if_ne (tgt := 12) hR dX5_wrong_4 (by decide) (fun hc => absurd (bI_0.mpr ha) hc) (fun _ => ?_)
  refine g_ldc hR dX5_wrong_7 kc_X5_40 ?_
  refine g_goto (tgt := 28) hR dX5_wrong_9 (by decide) ?_
  exact hE dX5_wrong_28 (rfl) (rfl)
set_option maxRecDepth 100000 in
set_option maxHeartbeats 4000000 in
theorem cm_sheet (a b v : Int32) (σ : Hp) : CtI yX5_sheet wX5_sheet 2 [.ref 18, .int a, .int b, .int v] σ (if (0 ≤ a ∧ a ≤ 3) ∧ (b = 0 ∨ b = 8 ∨ b = 16 ∨ b = 32) then (if v < 0 then -1000007 else if 40 < v then -1000001 else if b = 0 then 0 else v) else -1000001) (if (0 ≤ a ∧ a ≤ 3) ∧ (b = 0 ∨ b = 8 ∨ b = 16 ∨ b = 32) then (if v < 0 then fnd σ 14 6 else if 40 < v then fnd σ 14 0 else bset σ 12 (laySh (σ 12) a.toNatClampNeg b (if b = 0 then 0 else v))) else fnd σ 14 0) := by
  refine CtI.of (by decide) (Nat.le_of_ble_eq_true rfl) rfl rfl (fun G hR hE => ?_)
  have bad : ¬ ((0 ≤ a ∧ a ≤ 3) ∧ (b = 0 ∨ b = 8 ∨ b = 16 ∨ b = 32)) → G 29 [some (.ref 18), some (.int a), some (.int b), some (.int v), none] [] σ := by
    intro h
    refine g_al_0 hR dX5_sheet_29 ?_
    refine g_ldc hR dX5_sheet_30 kc_X5_40 ?_
    refine g_cvI hR ciX5_finds dX5_sheet_32 ml_X5_60 (Nat.le_of_ble_eq_true rfl) (by decide) rfl rfl rfl (cm_f0 σ) rfl (Nat.le_of_ble_eq_true rfl) rfl ?_
    exact hE dX5_sheet_35 ((if_neg h).symm) ((if_neg h).symm)
  have good : (0 ≤ a ∧ a ≤ 3) ∧ (b = 0 ∨ b = 8 ∨ b = 16 ∨ b = 32) → G 36 [some (.ref 18), some (.int a), some (.int b), some (.int v), none] [] σ := by
    intro hc
    rw [if_pos hc, if_pos hc] at hE
    obtain ⟨s, hs, rfl⟩ := nle 3 hc.1 (by decide)
    rw [show (nI s).toNatClampNeg = s from nI_clamp (by omega)] at hE
    refine g_il_3 hR dX5_sheet_36 ?_
    refine g_if_ge (tgt := 48) hR dX5_sheet_37 (by decide) (fun h1 => ?_) (fun h1 => ?_)
    · rw [if_neg (Int32.not_lt.mpr h1), if_neg (Int32.not_lt.mpr h1)] at hE
      refine g_il_3 hR dX5_sheet_48 ?_
      refine g_bipush_40 hR dX5_sheet_49 ?_
      refine g_icmp_le (tgt := 61) hR dX5_sheet_51 (by decide) (fun h2 => ?_) (fun h2 => ?_)
      · rw [if_neg (Int32.not_lt.mpr h2), if_neg (Int32.not_lt.mpr h2)] at hE
        generalize hz : (if b = 0 then 0 else v) = z at hE
        have lp : ∀ d j, j + d = 40 → G 86 [some (.ref 18), some (.int (nI s)), some (.int b), some (.int v), some (.int (nI j))] [] (bset σ 12 (zerS (upd (upd (σ 12) s b) (4 + s) z) s j)) := by
          intro d
          induction d with
          | zero =>
            intro j hj
            obtain rfl : j = 40 := by omega
            refine g_il_4 hR dX5_sheet_86 ?_
            refine g_bipush_40 hR dX5_sheet_88 ?_
            refine g_icmp_ge (tgt := 112) hR dX5_sheet_90 (by decide) (fun _ => ?_) (fun hc => absurd (Int32.le_refl _) hc)
            refine g_al_0 hR dX5_sheet_112 ?_
            refine gf_X5_sizeOf hR fl_X5_31 dX5_sheet_113 ?_
            refine g_il_1 hR dX5_sheet_116 ?_
            refine ga_26 hR s (by omega) rfl dX5_sheet_117 ?_
            exact hE dX5_sheet_118 (by rw [bset_s]; unfold zerS; rw [if_neg (by omega), upd_s]) (rfl)
          | succ d ih =>
            intro j hj
            refine g_il_4 hR dX5_sheet_86 ?_
            refine g_bipush_40 hR dX5_sheet_88 ?_
            refine g_icmp_ge (tgt := 112) hR dX5_sheet_90 (by decide) (fun hc => absurd hc (nI_ge (b := 40) (by omega) (by decide))) (fun _ => ?_)
            refine g_al_0 hR dX5_sheet_93 ?_
            refine gf_X5_numbers hR fl_X5_34 dX5_sheet_94 ?_
            refine g_bipush_40 hR dX5_sheet_97 ?_
            refine g_il_1 hR dX5_sheet_99 ?_
            refine g_imul hR dX5_sheet_100 ?_
            refine g_il_4 hR dX5_sheet_101 ?_
            refine g_iadd hR dX5_sheet_103 ?_
            refine g_iconst_0 hR dX5_sheet_104 ?_
            refine gs_27 hR (40 * s + j) (by omega) (ix40' s j) dX5_sheet_105 ?_
            refine g_inc_4 hR dX5_sheet_106 trivial ?_
            refine g_goto (tgt := 86) hR dX5_sheet_109 (by decide) ?_
            rw [hset_e, bset_s, bset_bset, zerS_s]
            exact ih (j + 1) (by omega)
        have key : G 82 [some (.ref 18), some (.int (nI s)), some (.int b), some (.int v), none] [.int z, .int (nI s), .ref 26] (hset σ 12 s b) := by
          refine gs_26 hR s (by omega) rfl dX5_sheet_82 ?_
          refine g_iconst_0 hR dX5_sheet_83 ?_
          refine g_is_4 hR dX5_sheet_84 trivial ?_
          refine g_eq (τ := bset σ 12 (zerS (upd (upd (σ 12) s b) (4 + s) z) s 0)) (by rw [zerS_0, hset_e, hset_e, bset_s, bset_bset]) ?_
          exact lp 40 0 rfl
        refine g_al_0 hR dX5_sheet_61 ?_
        refine gf_X5_bitsOf hR fl_X5_28 dX5_sheet_62 ?_
        refine g_il_1 hR dX5_sheet_65 ?_
        refine g_il_2 hR dX5_sheet_66 ?_
        refine gs_25 hR s (by omega) rfl dX5_sheet_67 ?_
        refine g_al_0 hR dX5_sheet_68 ?_
        refine gf_X5_sizeOf hR fl_X5_31 dX5_sheet_69 ?_
        refine g_il_1 hR dX5_sheet_72 ?_
        refine g_il_2 hR dX5_sheet_73 ?_
        refine g_if_ne (tgt := 81) hR dX5_sheet_74 (by decide) (fun h3 => ?_) (fun h3 => ?_)
        · refine g_il_3 hR dX5_sheet_81 ?_
          rw [if_neg h3] at hz
          exact g_top hz key
        · refine g_iconst_0 hR dX5_sheet_77 ?_
          refine g_goto (tgt := 82) hR dX5_sheet_78 (by decide) ?_
          rw [if_pos h3] at hz
          exact g_top hz key
      · refine g_al_0 hR dX5_sheet_54 ?_
        refine g_ldc hR dX5_sheet_55 kc_X5_40 ?_
        refine g_cvI hR ciX5_finds dX5_sheet_57 ml_X5_60 (Nat.le_of_ble_eq_true rfl) (by decide) rfl rfl rfl (cm_f0 σ) rfl (Nat.le_of_ble_eq_true rfl) rfl ?_
        exact hE dX5_sheet_60 ((if_pos (Int32.not_le.mp h2)).symm) ((if_pos (Int32.not_le.mp h2)).symm)
    · refine g_al_0 hR dX5_sheet_40 ?_
      refine g_ldcw hR dX5_sheet_41 kc_X5_305 ?_
      refine g_cvI hR ciX5_finds dX5_sheet_44 ml_X5_60 (Nat.le_of_ble_eq_true rfl) (by decide) rfl rfl rfl (cm_f6 σ) rfl (Nat.le_of_ble_eq_true rfl) rfl ?_
      exact hE dX5_sheet_47 ((if_pos (Int32.not_le.mp h1)).symm) ((if_pos (Int32.not_le.mp h1)).symm)
  refine g_il_1 hR dX5_sheet_0 ?_
  refine g_csI hR ciX5_isOne dX5_sheet_1 ml_X5_302 (Nat.le_of_ble_eq_true rfl) (em_isOne a σ) rfl (Nat.le_of_ble_eq_true rfl) rfl ?_
  refine g_if_eq (tgt := 29) hR dX5_sheet_4 (by decide) (fun h => ?_) (fun h => ?_)
  · exact bad (fun q => bI_0.mp h q.1)
  · have ha := bI_no h
    refine g_il_2 hR dX5_sheet_7 ?_
    refine g_if_eq (tgt := 36) hR dX5_sheet_8 (by decide) (fun h1 => ?_) (fun h1 => ?_)
    · exact good ⟨ha, Or.inl h1⟩
    · refine g_il_2 hR dX5_sheet_11 ?_
      refine g_bipush_8 hR dX5_sheet_12 ?_
      refine g_icmp_eq (tgt := 36) hR dX5_sheet_14 (by decide) (fun h2 => ?_) (fun h2 => ?_)
      · exact good ⟨ha, Or.inr (Or.inl h2)⟩
      · refine g_il_2 hR dX5_sheet_17 ?_
        refine g_bipush_16 hR dX5_sheet_18 ?_
        refine g_icmp_eq (tgt := 36) hR dX5_sheet_20 (by decide) (fun h3 => ?_) (fun h3 => ?_)
        · exact good ⟨ha, Or.inr (Or.inr (Or.inl h3))⟩
        · refine g_il_2 hR dX5_sheet_23 ?_
          refine g_bipush_32 hR dX5_sheet_24 ?_
          refine g_icmp_eq (tgt := 36) hR dX5_sheet_26 (by decide) (fun h4 => ?_) (fun h4 => ?_)
          · exact good ⟨ha, Or.inr (Or.inr (Or.inr h4))⟩
          · exact bad (fun q => q.2.elim h1 (fun q => q.elim h2 (fun q => q.elim h3 h4)))
set_option maxRecDepth 100000 in
set_option maxHeartbeats 4000000 in
theorem cm_write (a b v : Int32) (σ : Hp) (hSh : Sh (σ 12)) : CtI yX5_write wX5_write 3 [.ref 18, .int a, .int b, .int v] σ (if 0 ≤ a ∧ a ≤ 3 then (if σ 12 a.toNatClampNeg = 0 then -1000006 else if 0 ≤ b ∧ b ≤ σ 12 (4 + a.toNatClampNeg) - 1 then 1 else -1000001) else -1000001) (if 0 ≤ a ∧ a ≤ 3 then (if σ 12 a.toNatClampNeg = 0 then fnd σ 14 5 else if 0 ≤ b ∧ b ≤ σ 12 (4 + a.toNatClampNeg) - 1 then bset σ 12 (upd (σ 12) (8 + (40 * a.toNatClampNeg + b.toNatClampNeg)) (narr (σ 12 a.toNatClampNeg) v)) else fnd σ 14 0) else fnd σ 14 0) := by
  refine CtI.of (by decide) (Nat.le_of_ble_eq_true rfl) rfl rfl (fun G hR hE => ?_)
  by_cases ha : 0 ≤ a ∧ a ≤ 3
  · rw [if_pos ha, if_pos ha] at hE
    obtain ⟨s, hs, rfl⟩ := nle 3 ha (by decide)
    rw [show (nI s).toNatClampNeg = s from nI_clamp (by omega)] at hE
    obtain ⟨⟨z, hz, hT⟩, -⟩ := hSh s (by omega)
    by_cases h0 : σ 12 s = 0
    · rw [if_pos h0, if_pos h0] at hE
      refine g_al_0 hR dX5_write_0 ?_
      refine g_il_1 hR dX5_write_1 ?_
      refine g_cvI hR ciX5_wrong dX5_write_2 ml_X5_181 (Nat.le_of_ble_eq_true rfl) (by decide) rfl rfl rfl ((em_wrong (s := s) (by omega) σ).weak (if_pos h0)) rfl (Nat.le_of_ble_eq_true rfl) rfl ?_
      refine g_is_4 hR dX5_write_5 trivial ?_
      refine g_il_4 hR dX5_write_7 ?_
      refine g_if_eq (tgt := 19) hR dX5_write_9 (by decide) (fun hc => absurd hc ((by decide))) (fun _ => ?_)
      refine g_al_0 hR dX5_write_12 ?_
      refine g_il_4 hR dX5_write_13 ?_
      refine g_cvI hR ciX5_finds dX5_write_15 ml_X5_60 (Nat.le_of_ble_eq_true rfl) (by decide) rfl rfl rfl (cm_f5 σ) rfl (Nat.le_of_ble_eq_true rfl) rfl ?_
      exact hE dX5_write_18 (rfl) (rfl)
    · rw [if_neg h0, if_neg h0] at hE
      refine g_al_0 hR dX5_write_0 ?_
      refine g_il_1 hR dX5_write_1 ?_
      refine g_cvI hR ciX5_wrong dX5_write_2 ml_X5_181 (Nat.le_of_ble_eq_true rfl) (by decide) rfl rfl rfl ((em_wrong (s := s) (by omega) σ).weak (if_neg h0)) rfl (Nat.le_of_ble_eq_true rfl) rfl ?_
      refine g_is_4 hR dX5_write_5 trivial ?_
      refine g_il_4 hR dX5_write_7 ?_
      refine g_if_eq (tgt := 19) hR dX5_write_9 (by decide) (fun _ => ?_) (fun hc => absurd (rfl) hc)
      refine g_il_2 hR dX5_write_19 ?_
      refine g_i2l hR dX5_write_20 ?_
      refine g_lconst (v := 0) hR dX5_write_21 (by decide) ?_
      refine g_al_0 hR dX5_write_22 ?_
      refine gf_X5_sizeOf hR fl_X5_31 dX5_write_23 ?_
      refine g_il_1 hR dX5_write_26 ?_
      refine ga_26 hR s (by omega) rfl dX5_write_27 ?_
      refine g_iconst_1 hR dX5_write_28 ?_
      refine g_isub hR dX5_write_29 ?_
      refine g_i2l hR dX5_write_30 ?_
      refine g_csI hR ciX5_in dX5_write_31 ml_X5_43 (Nat.le_of_ble_eq_true rfl) (ev_in b 0 (σ 12 (4 + s) - 1) rfl rfl σ) rfl (Nat.le_of_ble_eq_true rfl) rfl ?_
      refine g_if_ne (tgt := 44) hR dX5_write_34 (by decide) (fun h => ?_) (fun h => ?_)
      · have hb := bI_no h
        rw [if_pos hb, if_pos hb] at hE
        have hb2 : 0 ≤ b ∧ b < nI z := (piece_cz hz).mp (by rw [← hT]; exact hb)
        obtain ⟨i, hi, rfl⟩ := nlt hb2 (by omega)
        rw [show (nI i).toNatClampNeg = i from nI_clamp (by omega)] at hE
        refine g_al_0 hR dX5_write_44 ?_
        refine gf_X5_numbers hR fl_X5_34 dX5_write_45 ?_
        refine g_bipush_40 hR dX5_write_48 ?_
        refine g_il_1 hR dX5_write_50 ?_
        refine g_imul hR dX5_write_51 ?_
        refine g_il_2 hR dX5_write_52 ?_
        refine g_iadd hR dX5_write_53 ?_
        refine g_al_0 hR dX5_write_54 ?_
        refine gf_X5_bitsOf hR fl_X5_28 dX5_write_55 ?_
        refine g_il_1 hR dX5_write_58 ?_
        refine ga_25 hR s (by omega) rfl dX5_write_59 ?_
        refine g_il_3 hR dX5_write_60 ?_
        refine g_csI hR ciX5_narrowed dX5_write_61 ml_X5_306 (Nat.le_of_ble_eq_true rfl) (em_narrowed (σ 12 s) v σ) rfl (Nat.le_of_ble_eq_true rfl) rfl ?_
        refine gs_27 hR (40 * s + i) (by omega) (ix40' s i) dX5_write_64 ?_
        refine g_iconst_1 hR dX5_write_65 ?_
        exact hE dX5_write_66 (rfl) (rfl)
      · refine g_al_0 hR dX5_write_37 ?_
        refine g_ldc hR dX5_write_38 kc_X5_40 ?_
        refine g_cvI hR ciX5_finds dX5_write_40 ml_X5_60 (Nat.le_of_ble_eq_true rfl) (by decide) rfl rfl rfl (cm_f0 σ) rfl (Nat.le_of_ble_eq_true rfl) rfl ?_
        exact hE dX5_write_43 ((if_neg (bI_0.mp h)).symm) ((if_neg (bI_0.mp h)).symm)
  · rw [if_neg ha, if_neg ha] at hE
    refine g_al_0 hR dX5_write_0 ?_
    refine g_il_1 hR dX5_write_1 ?_
    refine g_cvI hR ciX5_wrong dX5_write_2 ml_X5_181 (Nat.le_of_ble_eq_true rfl) (by decide) rfl rfl rfl (em_wrong_out ha σ) rfl (Nat.le_of_ble_eq_true rfl) rfl ?_
    refine g_is_4 hR dX5_write_5 trivial ?_
    refine g_il_4 hR dX5_write_7 ?_
    refine g_if_eq (tgt := 19) hR dX5_write_9 (by decide) (fun hc => absurd hc ((by decide))) (fun _ => ?_)
    refine g_al_0 hR dX5_write_12 ?_
    refine g_il_4 hR dX5_write_13 ?_
    refine g_cvI hR ciX5_finds dX5_write_15 ml_X5_60 (Nat.le_of_ble_eq_true rfl) (by decide) rfl rfl rfl (cm_f0 σ) rfl (Nat.le_of_ble_eq_true rfl) rfl ?_
    exact hE dX5_write_18 (rfl) (rfl)
set_option maxRecDepth 100000 in
set_option maxHeartbeats 4000000 in
theorem cm_load {n : Nat} {d : Int} (a : Int32) (σ : Hp) (hG : Gd (σ 4) n d) (hSh : Sh (σ 12)) : CtI yX5_load wX5_load 3 [.ref 18, .int a] σ (if 0 ≤ a ∧ a ≤ 3 then (if σ 12 a.toNatClampNeg = 0 then -1000006 else nI (lodN (σ 12) a.toNatClampNeg (lodM (σ 12) a.toNatClampNeg n))) else -1000001) (if 0 ≤ a ∧ a ≤ 3 then (if σ 12 a.toNatClampNeg = 0 then fnd σ 14 5 else bset σ 4 (lodS (σ 4) (σ 12) a.toNatClampNeg (lodN (σ 12) a.toNatClampNeg (lodM (σ 12) a.toNatClampNeg n)))) else fnd σ 14 0) := by
  refine CtI.of (by decide) (Nat.le_of_ble_eq_true rfl) rfl rfl (fun G hR hE => ?_)
  have hn8 := hG.1
  by_cases ha : 0 ≤ a ∧ a ≤ 3
  · rw [if_pos ha, if_pos ha] at hE
    obtain ⟨s, hs, rfl⟩ := nle 3 ha (by decide)
    rw [show (nI s).toNatClampNeg = s from nI_clamp (by omega)] at hE
    obtain ⟨⟨z, hz, hT⟩, -⟩ := hSh s (by omega)
    by_cases h0 : σ 12 s = 0
    · rw [if_pos h0, if_pos h0] at hE
      refine g_al_0 hR dX5_load_0 ?_
      refine g_il_1 hR dX5_load_1 ?_
      refine g_cvI hR ciX5_wrong dX5_load_2 ml_X5_181 (Nat.le_of_ble_eq_true rfl) (by decide) rfl rfl rfl ((em_wrong (s := s) (by omega) σ).weak (if_pos h0)) rfl (Nat.le_of_ble_eq_true rfl) rfl ?_
      refine g_is_2 hR dX5_load_5 trivial ?_
      refine g_il_2 hR dX5_load_6 ?_
      refine g_if_eq (tgt := 16) hR dX5_load_7 (by decide) (fun hc => absurd hc ((by decide))) (fun _ => ?_)
      refine g_al_0 hR dX5_load_10 ?_
      refine g_il_2 hR dX5_load_11 ?_
      refine g_cvI hR ciX5_finds dX5_load_12 ml_X5_60 (Nat.le_of_ble_eq_true rfl) (by decide) rfl rfl rfl (cm_f5 σ) rfl (Nat.le_of_ble_eq_true rfl) rfl ?_
      exact hE dX5_load_15 (rfl) (rfl)
    · rw [if_neg h0, if_neg h0] at hE
      have hM : lodM (σ 12) s n = if n < z then n else z := by unfold lodM; rw [hT, nI_clamp (by omega)]
      generalize hm : lodM (σ 12) s n = M at *
      have hMz : M ≤ z ∧ M ≤ n ∧ (M = z ∨ M = n) := by rw [hM]; split <;> omega
      have lp : ∀ d' j, j + d' = M → lodN (σ 12) s j = j → G 18 [some (.ref 18), some (.int (nI s)), some (.int 0), some (.int (nI j))] [] (bset σ 4 (lodS (σ 4) (σ 12) s j)) := by
        intro d'
        induction d' with
        | zero =>
          intro j hj hl
          obtain rfl : j = M := by omega
          rw [hl] at hE
          have e12 : bset σ 4 (lodS (σ 4) (σ 12) s j) 12 = σ 12 := bset_n (by decide)
          have e41 : bset σ 4 (lodS (σ 4) (σ 12) s j) 4 1 = nI n := by rw [bset_s, lodS_lo (by decide)]; exact hG.2.1
          rcases hMz.2.2 with q | q
          · refine g_il_3 hR dX5_load_18 ?_
            refine g_al_0 hR dX5_load_19 ?_
            refine gf_X5_sizeOf hR fl_X5_31 dX5_load_20 ?_
            refine g_il_1 hR dX5_load_23 ?_
            refine ga_26 hR s (by omega) rfl dX5_load_24 ?_
            refine g_top (show bset σ 4 (lodS (σ 4) (σ 12) s j) 12 (4 + s) = nI z by rw [e12]; exact hT) ?_
            refine g_icmp_ge (tgt := 87) hR dX5_load_25 (by decide) (fun _ => ?_) (fun hc => absurd (nI_le (by omega) (by omega)) hc)
            refine g_il_3 hR dX5_load_87 ?_
            exact hE dX5_load_88 (rfl) (rfl)
          · by_cases q2 : j = z
            · refine g_il_3 hR dX5_load_18 ?_
              refine g_al_0 hR dX5_load_19 ?_
              refine gf_X5_sizeOf hR fl_X5_31 dX5_load_20 ?_
              refine g_il_1 hR dX5_load_23 ?_
              refine ga_26 hR s (by omega) rfl dX5_load_24 ?_
              refine g_top (show bset σ 4 (lodS (σ 4) (σ 12) s j) 12 (4 + s) = nI z by rw [e12]; exact hT) ?_
              refine g_icmp_ge (tgt := 87) hR dX5_load_25 (by decide) (fun _ => ?_) (fun hc => absurd (nI_le (by omega) (by omega)) hc)
              refine g_il_3 hR dX5_load_87 ?_
              exact hE dX5_load_88 (rfl) (rfl)
            · refine g_il_3 hR dX5_load_18 ?_
              refine g_al_0 hR dX5_load_19 ?_
              refine gf_X5_sizeOf hR fl_X5_31 dX5_load_20 ?_
              refine g_il_1 hR dX5_load_23 ?_
              refine ga_26 hR s (by omega) rfl dX5_load_24 ?_
              refine g_top (show bset σ 4 (lodS (σ 4) (σ 12) s j) 12 (4 + s) = nI z by rw [e12]; exact hT) ?_
              refine g_icmp_ge (tgt := 87) hR dX5_load_25 (by decide) (fun hc => absurd hc (nI_ge (by omega) (by omega))) (fun _ => ?_)
              refine g_il_3 hR dX5_load_28 ?_
              refine g_al_0 hR dX5_load_29 ?_
              refine gf_X5_s hR fl_X5_7 dX5_load_30 ?_
              refine g_iconst_1 hR dX5_load_33 ?_
              refine ga_19 hR 1 (by decide) rfl dX5_load_34 ?_
              refine g_top e41 ?_
              refine g_icmp_ge (tgt := 87) hR dX5_load_35 (by decide) (fun _ => ?_) (fun hc => absurd (nI_le (by omega) (by omega)) hc)
              refine g_il_3 hR dX5_load_87 ?_
              exact hE dX5_load_88 (rfl) (rfl)
        | succ d' ih =>
          intro j hj hl
          have e12 : bset σ 4 (lodS (σ 4) (σ 12) s j) 12 = σ 12 := bset_n (by decide)
          have e41 : bset σ 4 (lodS (σ 4) (σ 12) s j) 4 1 = nI n := by rw [bset_s, lodS_lo (by decide)]; exact hG.2.1
          have enum : bset σ 4 (lodS (σ 4) (σ 12) s j) 12 (8 + (40 * s + j)) = num (σ 12) s j := by rw [e12]; rfl
          refine g_il_3 hR dX5_load_18 ?_
          refine g_al_0 hR dX5_load_19 ?_
          refine gf_X5_sizeOf hR fl_X5_31 dX5_load_20 ?_
          refine g_il_1 hR dX5_load_23 ?_
          refine ga_26 hR s (by omega) rfl dX5_load_24 ?_
          refine g_top (show bset σ 4 (lodS (σ 4) (σ 12) s j) 12 (4 + s) = nI z by rw [e12]; exact hT) ?_
          refine g_icmp_ge (tgt := 87) hR dX5_load_25 (by decide) (fun hc => absurd hc (nI_ge (by omega) (by omega))) (fun _ => ?_)
          refine g_il_3 hR dX5_load_28 ?_
          refine g_al_0 hR dX5_load_29 ?_
          refine gf_X5_s hR fl_X5_7 dX5_load_30 ?_
          refine g_iconst_1 hR dX5_load_33 ?_
          refine ga_19 hR 1 (by decide) rfl dX5_load_34 ?_
          refine g_top e41 ?_
          refine g_icmp_ge (tgt := 87) hR dX5_load_35 (by decide) (fun hc => absurd hc (nI_ge (by omega) (by omega))) (fun _ => ?_)
          refine g_al_0 hR dX5_load_38 ?_
          refine gf_X5_numbers hR fl_X5_34 dX5_load_39 ?_
          refine g_bipush_40 hR dX5_load_42 ?_
          refine g_il_1 hR dX5_load_44 ?_
          refine g_imul hR dX5_load_45 ?_
          refine g_il_3 hR dX5_load_46 ?_
          refine g_iadd hR dX5_load_47 ?_
          refine ga_27 hR (40 * s + j) (by omega) (ix40' s j) dX5_load_48 ?_
          refine g_top enum ?_
          refine g_i2l hR dX5_load_49 ?_
          refine g_lconst (v := 1) hR dX5_load_50 (by decide) ?_
          refine g_ldc2 hR dX5_load_51 kl_X5_64 ?_
          refine g_csI hR ciX5_in dX5_load_54 ml_X5_43 (Nat.le_of_ble_eq_true rfl) (ev_in (num (σ 12) s j) 1 99 rfl rfl _) rfl (Nat.le_of_ble_eq_true rfl) rfl ?_
          refine g_if_eq (tgt := 87) hR dX5_load_57 (by decide) (fun h1 => ?_) (fun h1 => ?_)
          · have hno : lodB (σ 12) s j = false := decide_eq_false (bI_0.mp h1)
            rw [lodN_f hl hno M (by omega)] at hE
            refine g_il_3 hR dX5_load_87 ?_
            exact hE dX5_load_88 (rfl) (rfl)
          · have hok : lodB (σ 12) s j = true := decide_eq_true (bI_no h1)
            refine g_al_0 hR dX5_load_60 ?_
            refine gf_X5_s hR fl_X5_7 dX5_load_61 ?_
            refine g_il_3 hR dX5_load_64 ?_
            refine g_iconst_2 hR dX5_load_65 ?_
            refine g_csI hR ciX5_place dX5_load_66 ml_X5_49 (Nat.le_of_ble_eq_true rfl) (em_place j 2 _) rfl (Nat.le_of_ble_eq_true rfl) rfl ?_
            refine g_al_0 hR dX5_load_69 ?_
            refine gf_X5_numbers hR fl_X5_34 dX5_load_70 ?_
            refine g_bipush_40 hR dX5_load_73 ?_
            refine g_il_1 hR dX5_load_75 ?_
            refine g_imul hR dX5_load_76 ?_
            refine g_il_3 hR dX5_load_77 ?_
            refine g_iadd hR dX5_load_78 ?_
            refine ga_27 hR (40 * s + j) (by omega) (ix40' s j) dX5_load_79 ?_
            refine g_top enum ?_
            refine gs_19 hR (6 + (6 * j + 2)) (by omega) rfl dX5_load_80 ?_
            refine g_inc_3 hR dX5_load_81 trivial ?_
            refine g_goto (tgt := 18) hR dX5_load_84 (by decide) ?_
            rw [hset_e, bset_s, bset_bset]
            exact ih (j + 1) (by omega) (lodN_t hl hok)
      refine g_al_0 hR dX5_load_0 ?_
      refine g_il_1 hR dX5_load_1 ?_
      refine g_cvI hR ciX5_wrong dX5_load_2 ml_X5_181 (Nat.le_of_ble_eq_true rfl) (by decide) rfl rfl rfl ((em_wrong (s := s) (by omega) σ).weak (if_neg h0)) rfl (Nat.le_of_ble_eq_true rfl) rfl ?_
      refine g_is_2 hR dX5_load_5 trivial ?_
      refine g_il_2 hR dX5_load_6 ?_
      refine g_if_eq (tgt := 16) hR dX5_load_7 (by decide) (fun _ => ?_) (fun hc => absurd (rfl) hc)
      refine g_iconst_0 hR dX5_load_16 ?_
      refine g_is_3 hR dX5_load_17 trivial ?_
      refine g_eq (τ := bset σ 4 (lodS (σ 4) (σ 12) s 0)) (bset_id σ 4).symm ?_
      exact lp M 0 (by omega) rfl
  · rw [if_neg ha, if_neg ha] at hE
    refine g_al_0 hR dX5_load_0 ?_
    refine g_il_1 hR dX5_load_1 ?_
    refine g_cvI hR ciX5_wrong dX5_load_2 ml_X5_181 (Nat.le_of_ble_eq_true rfl) (by decide) rfl rfl rfl (em_wrong_out ha σ) rfl (Nat.le_of_ble_eq_true rfl) rfl ?_
    refine g_is_2 hR dX5_load_5 trivial ?_
    refine g_il_2 hR dX5_load_6 ?_
    refine g_if_eq (tgt := 16) hR dX5_load_7 (by decide) (fun hc => absurd hc ((by decide))) (fun _ => ?_)
    refine g_al_0 hR dX5_load_10 ?_
    refine g_il_2 hR dX5_load_11 ?_
    refine g_cvI hR ciX5_finds dX5_load_12 ml_X5_60 (Nat.le_of_ble_eq_true rfl) (by decide) rfl rfl rfl (cm_f0 σ) rfl (Nat.le_of_ble_eq_true rfl) rfl ?_
    exact hE dX5_load_15 (rfl) (rfl)
set_option maxRecDepth 100000 in
set_option maxHeartbeats 4000000 in
theorem cm_judge {n : Nat} {d : Int} (a : Int32) (σ : Hp) (hG : Gd (σ 4) n d) (hSh : Sh (σ 12)) : CtI yX5_judge wX5_judge 3 [.ref 18, .int a] σ (if 0 ≤ a ∧ a ≤ 3 then (if σ 12 a.toNatClampNeg = 0 then -1000006 else jdV (fstN (fun j => decide (¬ (j < n ∧ num (σ 12) a.toNatClampNeg j = pf (σ 4) j 1))) (σ 12 (4 + a.toNatClampNeg)).toNatClampNeg)) else -1000001) (if 0 ≤ a ∧ a ≤ 3 then (if σ 12 a.toNatClampNeg = 0 then fnd σ 14 5 else σ) else fnd σ 14 0) := by
  refine CtI.of (by decide) (Nat.le_of_ble_eq_true rfl) rfl rfl (fun G hR hE => ?_)
  have hn8 := hG.1
  by_cases ha : 0 ≤ a ∧ a ≤ 3
  · rw [if_pos ha, if_pos ha] at hE
    obtain ⟨s, hs, rfl⟩ := nle 3 ha (by decide)
    rw [show (nI s).toNatClampNeg = s from nI_clamp (by omega)] at hE
    obtain ⟨⟨z, hz, hT⟩, -⟩ := hSh s (by omega)
    by_cases h0 : σ 12 s = 0
    · rw [if_pos h0, if_pos h0] at hE
      refine g_al_0 hR dX5_judge_0 ?_
      refine g_il_1 hR dX5_judge_1 ?_
      refine g_cvI hR ciX5_wrong dX5_judge_2 ml_X5_181 (Nat.le_of_ble_eq_true rfl) (by decide) rfl rfl rfl ((em_wrong (s := s) (by omega) σ).weak (if_pos h0)) rfl (Nat.le_of_ble_eq_true rfl) rfl ?_
      refine g_is_2 hR dX5_judge_5 trivial ?_
      refine g_il_2 hR dX5_judge_6 ?_
      refine g_if_eq (tgt := 16) hR dX5_judge_7 (by decide) (fun hc => absurd hc ((by decide))) (fun _ => ?_)
      refine g_al_0 hR dX5_judge_10 ?_
      refine g_il_2 hR dX5_judge_11 ?_
      refine g_cvI hR ciX5_finds dX5_judge_12 ml_X5_60 (Nat.le_of_ble_eq_true rfl) (by decide) rfl rfl rfl (cm_f5 σ) rfl (Nat.le_of_ble_eq_true rfl) rfl ?_
      exact hE dX5_judge_15 (rfl) (rfl)
    · rw [if_neg h0, if_neg h0, hT, nI_clamp (by omega)] at hE
      have lp : ∀ d' j, j + d' = z → fstN (fun j => decide (¬ (j < n ∧ num (σ 12) s j = pf (σ 4) j 1))) j = none → G 18 [some (.ref 18), some (.int (nI s)), some (.int 0), some (.int (nI j))] [] σ := by
        intro d'
        induction d' with
        | zero =>
          intro j hj hf
          obtain rfl : j = z := by omega
          rw [hf] at hE
          refine g_il_3 hR dX5_judge_18 ?_
          refine g_al_0 hR dX5_judge_19 ?_
          refine gf_X5_sizeOf hR fl_X5_31 dX5_judge_20 ?_
          refine g_il_1 hR dX5_judge_23 ?_
          refine ga_26 hR s (by omega) rfl dX5_judge_24 ?_
          refine g_top hT ?_
          refine g_icmp_ge (tgt := 68) hR dX5_judge_25 (by decide) (fun _ => ?_) (fun hc => absurd (Int32.le_refl _) hc)
          refine g_iconst_0 hR dX5_judge_68 ?_
          exact hE dX5_judge_69 (rfl) (rfl)
        | succ d' ih =>
          intro j hj hf
          have hit : decide (¬ (j < n ∧ num (σ 12) s j = pf (σ 4) j 1)) = true → G 58 [some (.ref 18), some (.int (nI s)), some (.int 0), some (.int (nI j))] [] σ := by
            intro hd
            have hfst := fstN_first hf hd d'
            rw [show j + 1 + d' = z by omega] at hfst
            rw [hfst] at hE
            refine g_iconst_1 hR dX5_judge_58 ?_
            refine g_il_3 hR dX5_judge_59 ?_
            refine g_iadd hR dX5_judge_60 ?_
            exact hE dX5_judge_61 (by show _ = nI (1 + j); exact nI_add 1 j) (rfl)
          refine g_il_3 hR dX5_judge_18 ?_
          refine g_al_0 hR dX5_judge_19 ?_
          refine gf_X5_sizeOf hR fl_X5_31 dX5_judge_20 ?_
          refine g_il_1 hR dX5_judge_23 ?_
          refine ga_26 hR s (by omega) rfl dX5_judge_24 ?_
          refine g_top hT ?_
          refine g_icmp_ge (tgt := 68) hR dX5_judge_25 (by decide) (fun hc => absurd hc (nI_ge (by omega) (by omega))) (fun _ => ?_)
          refine g_il_3 hR dX5_judge_28 ?_
          refine g_al_0 hR dX5_judge_29 ?_
          refine gf_X5_s hR fl_X5_7 dX5_judge_30 ?_
          refine g_iconst_1 hR dX5_judge_33 ?_
          refine ga_19 hR 1 (by decide) rfl dX5_judge_34 ?_
          refine g_top hG.2.1 ?_
          refine g_icmp_ge (tgt := 58) hR dX5_judge_35 (by decide) (fun h1 => ?_) (fun h1 => ?_)
          · exact hit (decide_eq_true (fun q => by rw [nI_leI (by omega) (by omega)] at h1; omega))
          · have hjn : j < n := by rw [nI_leI (by omega) (by omega)] at h1; omega
            refine g_al_0 hR dX5_judge_38 ?_
            refine gf_X5_numbers hR fl_X5_34 dX5_judge_39 ?_
            refine g_bipush_40 hR dX5_judge_42 ?_
            refine g_il_1 hR dX5_judge_44 ?_
            refine g_imul hR dX5_judge_45 ?_
            refine g_il_3 hR dX5_judge_46 ?_
            refine g_iadd hR dX5_judge_47 ?_
            refine ga_27 hR (40 * s + j) (by omega) (ix40' s j) dX5_judge_48 ?_
            refine g_al_0 hR dX5_judge_49 ?_
            refine g_il_3 hR dX5_judge_50 ?_
            refine g_iconst_1 hR dX5_judge_51 ?_
            refine g_cvI hR ciX5_its dX5_judge_52 ml_X5_73 (Nat.le_of_ble_eq_true rfl) (by decide) rfl rfl rfl (em_its (p := j) (w := 1) (by omega) (by decide) σ) rfl (Nat.le_of_ble_eq_true rfl) rfl ?_
            refine g_icmp_eq (tgt := 62) hR dX5_judge_55 (by decide) (fun h2 => ?_) (fun h2 => ?_)
            · refine g_inc_3 hR dX5_judge_62 trivial ?_
              refine g_goto (tgt := 18) hR dX5_judge_65 (by decide) ?_
              exact ih (j + 1) (by omega) (fstN_none hf (decide_eq_false (fun q => q ⟨hjn, h2⟩)))
            · exact hit (decide_eq_true (fun q => h2 q.2))
      refine g_al_0 hR dX5_judge_0 ?_
      refine g_il_1 hR dX5_judge_1 ?_
      refine g_cvI hR ciX5_wrong dX5_judge_2 ml_X5_181 (Nat.le_of_ble_eq_true rfl) (by decide) rfl rfl rfl ((em_wrong (s := s) (by omega) σ).weak (if_neg h0)) rfl (Nat.le_of_ble_eq_true rfl) rfl ?_
      refine g_is_2 hR dX5_judge_5 trivial ?_
      refine g_il_2 hR dX5_judge_6 ?_
      refine g_if_eq (tgt := 16) hR dX5_judge_7 (by decide) (fun _ => ?_) (fun hc => absurd (rfl) hc)
      refine g_iconst_0 hR dX5_judge_16 ?_
      refine g_is_3 hR dX5_judge_17 trivial ?_
      exact lp z 0 (by omega) rfl
  · rw [if_neg ha, if_neg ha] at hE
    refine g_al_0 hR dX5_judge_0 ?_
    refine g_il_1 hR dX5_judge_1 ?_
    refine g_cvI hR ciX5_wrong dX5_judge_2 ml_X5_181 (Nat.le_of_ble_eq_true rfl) (by decide) rfl rfl rfl (em_wrong_out ha σ) rfl (Nat.le_of_ble_eq_true rfl) rfl ?_
    refine g_is_2 hR dX5_judge_5 trivial ?_
    refine g_il_2 hR dX5_judge_6 ?_
    refine g_if_eq (tgt := 16) hR dX5_judge_7 (by decide) (fun hc => absurd hc ((by decide))) (fun _ => ?_)
    refine g_al_0 hR dX5_judge_10 ?_
    refine g_il_2 hR dX5_judge_11 ?_
    refine g_cvI hR ciX5_finds dX5_judge_12 ml_X5_60 (Nat.le_of_ble_eq_true rfl) (by decide) rfl rfl rfl (cm_f0 σ) rfl (Nat.le_of_ble_eq_true rfl) rfl ?_
    exact hE dX5_judge_15 (rfl) (rfl)
