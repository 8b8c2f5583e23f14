set_option maxRecDepth 100000 in
set_option maxHeartbeats 4000000 in
theorem cm_ball (a : Int32) (σ : Hp) : CtI yX5_ball wX5_ball 2 [.ref 18, .int a] σ (if 0 ≤ a ∧ a ≤ 11 then σ 4 2 else -1000001) (if 0 ≤ a ∧ a ≤ 11 then bset σ 4 (upd (σ 4) 2 a) else fnd σ 14 0) := by
  refine CtI.of (by decide) (Nat.le_of_ble_eq_true rfl) rfl rfl (fun G hR hE => ?_)
  refine g_il_1 hR dX5_ball_0 ?_
  refine g_csI hR ciX5_isPlace dX5_ball_1 ml_X5_53 (Nat.le_of_ble_eq_true rfl) (em_isPlace a σ) rfl (Nat.le_of_ble_eq_true rfl) rfl ?_
  refine g_if_eq (tgt := 16) hR dX5_ball_4 (by decide) (fun h => ?_) (fun h => ?_)
  · refine g_al_0 hR dX5_ball_16 ?_
    refine g_ldc hR dX5_ball_17 kc_X5_40 ?_
    refine g_cvI hR ciX5_finds dX5_ball_19 ml_X5_60 (Nat.le_of_ble_eq_true rfl) (by decide) rfl rfl rfl (cm_f0 σ) rfl (Nat.le_of_ble_eq_true rfl) rfl ?_
    exact hE dX5_ball_22 ((if_neg (bI_0.mp h)).symm) ((if_neg (bI_0.mp h)).symm)
  · refine g_al_0 hR dX5_ball_7 ?_
    refine g_iconst_2 hR dX5_ball_8 ?_
    refine g_il_1 hR dX5_ball_9 ?_
    refine g_cvI hR ciX5_becomes dX5_ball_10 ml_X5_57 (Nat.le_of_ble_eq_true rfl) (by decide) rfl rfl rfl (em_becomes (j := 2) (by decide) a σ) rfl (Nat.le_of_ble_eq_true rfl) rfl ?_
    refine g_goto (tgt := 22) hR dX5_ball_13 (by decide) ?_
    exact hE dX5_ball_22 ((if_pos (bI_no h)).symm) ((if_pos (bI_no h)).symm)
set_option maxRecDepth 100000 in
set_option maxHeartbeats 4000000 in
theorem cm_drag (a : Int32) (σ : Hp) : CtI yX5_drag wX5_drag 1 [.ref 18, .int a] σ (if 0 ≤ a ∧ a ≤ 99 then σ 4 3 else -1000001) (if 0 ≤ a ∧ a ≤ 99 then bset σ 4 (upd (σ 4) 3 a) else fnd σ 14 0) := by
  refine CtI.of (by decide) (Nat.le_of_ble_eq_true rfl) rfl rfl (fun G hR hE => ?_)
  refine g_il_1 hR dX5_drag_0 ?_
  refine g_i2l hR dX5_drag_1 ?_
  refine g_lconst (v := 0) hR dX5_drag_2 (by decide) ?_
  refine g_ldc2 hR dX5_drag_3 kl_X5_64 ?_
  refine g_csI hR ciX5_in dX5_drag_6 ml_X5_43 (Nat.le_of_ble_eq_true rfl) (ev_in a 0 99 rfl rfl σ) rfl (Nat.le_of_ble_eq_true rfl) rfl ?_
  refine g_if_eq (tgt := 21) hR dX5_drag_9 (by decide) (fun h => ?_) (fun h => ?_)
  · refine g_al_0 hR dX5_drag_21 ?_
    refine g_ldc hR dX5_drag_22 kc_X5_40 ?_
    refine g_cvI hR ciX5_finds dX5_drag_24 ml_X5_60 (Nat.le_of_ble_eq_true rfl) (by decide) rfl rfl rfl (cm_f0 σ) rfl (Nat.le_of_ble_eq_true rfl) rfl ?_
    exact hE dX5_drag_27 ((if_neg (bI_0.mp h)).symm) ((if_neg (bI_0.mp h)).symm)
  · refine g_al_0 hR dX5_drag_12 ?_
    refine g_iconst_3 hR dX5_drag_13 ?_
    refine g_il_1 hR dX5_drag_14 ?_
    refine g_cvI hR ciX5_becomes dX5_drag_15 ml_X5_57 (Nat.le_of_ble_eq_true rfl) (by decide) rfl rfl rfl (em_becomes (j := 3) (by decide) a σ) rfl (Nat.le_of_ble_eq_true rfl) rfl ?_
    refine g_goto (tgt := 27) hR dX5_drag_18 (by decide) ?_
    exact hE dX5_drag_27 ((if_pos (bI_no h)).symm) ((if_pos (bI_no h)).symm)
set_option maxRecDepth 100000 in
set_option maxHeartbeats 4000000 in
theorem cm_wind {n : Nat} (a b : Int32) (σ : Hp) (hn8 : n ≤ 8) (hn : σ 4 1 = nI n) : CtI yX5_wind wX5_wind 2 [.ref 18, .int a, .int b] σ (if (0 ≤ a ∧ a ≤ 6) ∧ 0 ≤ b ∧ b ≤ 11 then (if n = 8 then -1000002 else nI n) else -1000001) (if (0 ≤ a ∧ a ≤ 6) ∧ 0 ≤ b ∧ b ≤ 11 then (if n = 8 then fnd σ 14 1 else bset σ 4 (addS (σ 4) n a b)) else fnd σ 14 0) := by
  refine CtI.of (by decide) (Nat.le_of_ble_eq_true rfl) rfl rfl (fun G hR hE => ?_)
  have bad : ¬ ((0 ≤ a ∧ a ≤ 6) ∧ 0 ≤ b ∧ b ≤ 11) → G 14 [some (.ref 18), some (.int a), some (.int b)] [] σ := by
    intro h
    refine g_al_0 hR dX5_wind_14 ?_
    refine g_ldc hR dX5_wind_15 kc_X5_40 ?_
    refine g_cvI hR ciX5_finds dX5_wind_17 ml_X5_60 (Nat.le_of_ble_eq_true rfl) (by decide) rfl rfl rfl (cm_f0 σ) rfl (Nat.le_of_ble_eq_true rfl) rfl ?_
    exact hE dX5_wind_20 ((if_neg h).symm) ((if_neg h).symm)
  refine g_il_1 hR dX5_wind_0 ?_
  refine g_csI hR ciX5_isKind dX5_wind_1 ml_X5_66 (Nat.le_of_ble_eq_true rfl) (em_isKind a σ) rfl (Nat.le_of_ble_eq_true rfl) rfl ?_
  refine g_if_eq (tgt := 14) hR dX5_wind_4 (by decide) (fun h => ?_) (fun h => ?_)
  · exact bad (fun q => bI_0.mp h q.1)
  · refine g_il_2 hR dX5_wind_7 ?_
    refine g_csI hR ciX5_isPlace dX5_wind_8 ml_X5_53 (Nat.le_of_ble_eq_true rfl) (em_isPlace b σ) rfl (Nat.le_of_ble_eq_true rfl) rfl ?_
    refine g_if_ne (tgt := 21) hR dX5_wind_11 (by decide) (fun h2 => ?_) (fun h2 => ?_)
    · have hc := And.intro (bI_no h) (bI_no h2)
      rw [if_pos hc, if_pos hc] at hE
      refine g_al_0 hR dX5_wind_21 ?_
      refine gf_X5_s hR fl_X5_7 dX5_wind_22 ?_
      refine g_iconst_1 hR dX5_wind_25 ?_
      refine ga_19 hR 1 (by decide) rfl dX5_wind_26 ?_
      refine g_top hn ?_
      refine g_bipush_8 hR dX5_wind_27 ?_
      refine g_icmp_ne (tgt := 41) hR dX5_wind_29 (by decide) (fun h3 => ?_) (fun h3 => ?_)
      · have h8 : ¬ n = 8 := by rintro rfl; exact h3 rfl
        rw [if_neg h8, if_neg h8] at hE
        refine g_al_0 hR dX5_wind_41 ?_
        refine g_il_1 hR dX5_wind_42 ?_
        refine g_il_2 hR dX5_wind_43 ?_
        refine g_cvI hR ciX5_adds dX5_wind_44 ml_X5_70 (Nat.le_of_ble_eq_true rfl) (by decide) rfl rfl rfl (em_adds (n := n) (by omega) a b σ hn) rfl (Nat.le_of_ble_eq_true rfl) rfl ?_
        exact hE dX5_wind_47 (rfl) (rfl)
      · have h8 : n = 8 := (nI_eq (b := 8) (by omega) (by decide)).mp h3
        rw [if_pos h8, if_pos h8] at hE
        refine g_al_0 hR dX5_wind_32 ?_
        refine g_ldc hR dX5_wind_33 kc_X5_69 ?_
        refine g_cvI hR ciX5_finds dX5_wind_35 ml_X5_60 (Nat.le_of_ble_eq_true rfl) (by decide) rfl rfl rfl (cm_f1 σ) rfl (Nat.le_of_ble_eq_true rfl) rfl ?_
        refine g_goto (tgt := 47) hR dX5_wind_38 (by decide) ?_
        exact hE dX5_wind_47 (rfl) (rfl)
    · exact bad (fun q => bI_0.mp h2 q.2)
set_option maxRecDepth 100000 in
set_option maxHeartbeats 4000000 in
theorem cm_of {n : Nat} {d : Int} (a b : Int32) (σ : Hp) (hG : Gd (σ 4) n d) : CtI yX5_of wX5_of 4 [.ref 18, .int a, .int b] σ (if (0 ≤ a ∧ a < σ 4 1) ∧ 0 ≤ b ∧ b ≤ 9 then ofV (σ 4) n a b else -1000001) (if (0 ≤ a ∧ a < σ 4 1) ∧ 0 ≤ b ∧ b ≤ 9 then σ else fnd σ 14 0) := by
  refine CtI.of (by decide) (Nat.le_of_ble_eq_true rfl) rfl rfl (fun G hR hE => ?_)
  have hn8 := hG.1
  have bad : ¬ ((0 ≤ a ∧ a < σ 4 1) ∧ 0 ≤ b ∧ b ≤ 9) → G 20 [some (.ref 18), some (.int a), some (.int b)] [] σ := by
    intro h
    refine g_al_0 hR dX5_of_20 ?_
    refine g_ldc hR dX5_of_21 kc_X5_40 ?_
    refine g_cvI hR ciX5_finds dX5_of_23 ml_X5_60 (Nat.le_of_ble_eq_true rfl) (by decide) rfl rfl rfl (cm_f0 σ) rfl (Nat.le_of_ble_eq_true rfl) rfl ?_
    exact hE dX5_of_26 ((if_neg h).symm) ((if_neg h).symm)
  refine g_al_0 hR dX5_of_0 ?_
  refine g_il_1 hR dX5_of_1 ?_
  refine g_cvI hR ciX5_isPiece dX5_of_2 ml_X5_95 (Nat.le_of_ble_eq_true rfl) (by decide) rfl rfl rfl (em_isPiece a hn8 σ hG.2.1) rfl (Nat.le_of_ble_eq_true rfl) rfl ?_
  refine g_if_eq (tgt := 20) hR dX5_of_5 (by decide) (fun h => ?_) (fun h => ?_)
  · exact bad (fun q => bI_0.mp h q.1)
  · refine g_il_2 hR dX5_of_8 ?_
    refine g_i2l hR dX5_of_9 ?_
    refine g_lconst (v := 0) hR dX5_of_10 (by decide) ?_
    refine g_ldc2 hR dX5_of_11 kl_X5_98 ?_
    refine g_csI hR ciX5_in dX5_of_14 ml_X5_43 (Nat.le_of_ble_eq_true rfl) (ev_in b 0 9 rfl rfl σ) rfl (Nat.le_of_ble_eq_true rfl) rfl ?_
    refine g_if_ne (tgt := 27) hR dX5_of_17 (by decide) (fun h2 => ?_) (fun h2 => ?_)
    · have hc := And.intro (bI_no h) (bI_no h2)
      rw [if_pos hc, if_pos hc] at hE
      obtain ⟨p, hp, rfl⟩ := nlt (n := n) (by rw [← hG.2.1]; exact hc.1) (by omega)
      obtain ⟨w, hw, rfl⟩ := nle 9 hc.2 (by decide)
      have ec : (nI p).toNatClampNeg = p := nI_clamp (by omega)
      unfold ofV at hE
      rw [ec] at hE
      rcases (show w < 6 ∨ w = 6 ∨ w = 7 ∨ w = 8 ∨ w = 9 by omega) with h6 | rfl | rfl | rfl | rfl
      · have n6 : ∀ m, 6 ≤ m → m < 1000 → ¬ nI w = nI m := fun m h1 h2 e => by rw [nI_eq (by omega) (by omega)] at e; omega
        rw [if_neg (show ¬ nI w = 6 from n6 6 (by decide) (by decide)), if_neg (show ¬ nI w = 7 from n6 7 (by decide) (by decide)), if_neg (show ¬ nI w = 8 from n6 8 (by decide) (by decide)), if_neg (show ¬ nI w = 9 from n6 9 (by decide) (by decide)), nI_clamp (by omega)] at hE
        refine g_il_2 hR dX5_of_27 ?_
        refine g_tout (tgt := 86) hR dX5_of_28 (by rw [i_n (by omega)]; omega) (by decide) ?_
        refine g_al_0 hR dX5_of_86 ?_
        refine g_il_1 hR dX5_of_87 ?_
        refine g_il_2 hR dX5_of_88 ?_
        refine g_cvI hR ciX5_its dX5_of_89 ml_X5_73 (Nat.le_of_ble_eq_true rfl) (by decide) rfl rfl rfl (em_its (p := p) (by omega) h6 σ) rfl (Nat.le_of_ble_eq_true rfl) rfl ?_
        exact hE dX5_of_92 (rfl) (rfl)
      · refine g_il_2 hR dX5_of_27 ?_
        refine g_tin (off := 32) (tgt := 60) hR dX5_of_28 (by decide) (by decide) (by decide) (by decide) ?_
        refine g_al_0 hR dX5_of_60 ?_
        refine g_il_1 hR dX5_of_61 ?_
        refine g_cvI hR ciX5_pullsOf dX5_of_62 ml_X5_89 (Nat.le_of_ble_eq_true rfl) (by decide) rfl rfl rfl (em_pullsOf (p := p) (by omega) σ hG) rfl (Nat.le_of_ble_eq_true rfl) rfl ?_
        exact hE dX5_of_65 (rfl) (rfl)
      · refine g_il_2 hR dX5_of_27 ?_
        refine g_tin (off := 38) (tgt := 66) hR dX5_of_28 (by decide) (by decide) (by decide) (by decide) ?_
        refine g_al_0 hR dX5_of_66 ?_
        refine g_il_1 hR dX5_of_67 ?_
        refine g_cvI hR ciX5_lastsOf dX5_of_68 ml_X5_100 (Nat.le_of_ble_eq_true rfl) (by decide) rfl rfl rfl (em_lastsOf (p := p) (by omega) σ) rfl (Nat.le_of_ble_eq_true rfl) rfl ?_
        exact hE dX5_of_71 (rfl) (rfl)
      · refine g_il_2 hR dX5_of_27 ?_
        refine g_tin (off := 44) (tgt := 72) hR dX5_of_28 (by decide) (by decide) (by decide) (by decide) ?_
        refine g_al_0 hR dX5_of_72 ?_
        refine g_il_1 hR dX5_of_73 ?_
        refine g_iconst_1 hR dX5_of_74 ?_
        refine g_iadd hR dX5_of_75 ?_
        refine g_top (nI_1 p) ?_
        refine g_cvI hR ciX5_longFrom dX5_of_76 ml_X5_92 (Nat.le_of_ble_eq_true rfl) (by decide) rfl rfl rfl (em_longFrom (q := p + 1) (by omega) hn8 σ hG.2.1) rfl (Nat.le_of_ble_eq_true rfl) rfl ?_
        exact hE dX5_of_79 (rfl) (rfl)
      · refine g_il_2 hR dX5_of_27 ?_
        refine g_tin (off := 52) (tgt := 80) hR dX5_of_28 (by decide) (by decide) (by decide) (by decide) ?_
        refine g_al_0 hR dX5_of_80 ?_
        refine g_il_1 hR dX5_of_81 ?_
        refine g_cvI hR ciX5_feltOf dX5_of_82 ml_X5_103 (Nat.le_of_ble_eq_true rfl) (by decide) rfl rfl rfl (em_feltOf hp σ hG) rfl (Nat.le_of_ble_eq_true rfl) rfl ?_
        exact hE dX5_of_85 (rfl) (rfl)
    · exact bad (fun q => bI_0.mp h2 q.2)
set_option maxRecDepth 100000 in
set_option maxHeartbeats 4000000 in
theorem em_isPart {w : Nat} (hw : w < 6) (v : Int32) (σ : Hp) : CtI yX5_isPart wX5_isPart 2 [.int (nI w), .int v] σ (bI (flT w ≤ v ∧ v ≤ fmT w)) (σ) := by
  refine CtI.of (by decide) (Nat.le_of_ble_eq_true rfl) (bI_nar _) rfl (fun G hR hE => ?_)
  rcases (show w = 0 ∨ w = 1 ∨ w = 2 ∨ w = 3 ∨ w = 4 ∨ w = 5 by omega) with rfl | rfl | rfl | rfl | rfl | rfl
  · refine g_il_0 hR dX5_isPart_0 ?_
    refine g_tin (off := 31) (tgt := 32) hR dX5_isPart_1 (by decide) (by decide) (by decide) (by decide) ?_
    refine g_il_1 hR dX5_isPart_32 ?_
    refine g_csI hR ciX5_isKind dX5_isPart_33 ml_X5_66 (Nat.le_of_ble_eq_true rfl) (em_isKind v σ) rfl (Nat.le_of_ble_eq_true rfl) rfl ?_
    exact hE dX5_isPart_36 (rfl) (rfl)
  · refine g_il_0 hR dX5_isPart_0 ?_
    refine g_tin (off := 36) (tgt := 37) hR dX5_isPart_1 (by decide) (by decide) (by decide) (by decide) ?_
    refine g_il_1 hR dX5_isPart_37 ?_
    refine g_csI hR ciX5_isPlace dX5_isPart_38 ml_X5_53 (Nat.le_of_ble_eq_true rfl) (em_isPlace v σ) rfl (Nat.le_of_ble_eq_true rfl) rfl ?_
    exact hE dX5_isPart_41 (rfl) (rfl)
  · refine g_il_0 hR dX5_isPart_0 ?_
    refine g_tin (off := 41) (tgt := 42) hR dX5_isPart_1 (by decide) (by decide) (by decide) (by decide) ?_
    refine g_il_1 hR dX5_isPart_42 ?_
    refine g_i2l hR dX5_isPart_43 ?_
    refine g_lconst (v := 1) hR dX5_isPart_44 (by decide) ?_
    refine g_ldc2 hR dX5_isPart_45 kl_X5_64 ?_
    refine g_csI hR ciX5_in dX5_isPart_48 ml_X5_43 (Nat.le_of_ble_eq_true rfl) (ev_in v 1 99 rfl rfl σ) rfl (Nat.le_of_ble_eq_true rfl) rfl ?_
    exact hE dX5_isPart_51 (rfl) (rfl)
  · refine g_il_0 hR dX5_isPart_0 ?_
    refine g_tin (off := 51) (tgt := 52) hR dX5_isPart_1 (by decide) (by decide) (by decide) (by decide) ?_
    refine g_il_1 hR dX5_isPart_52 ?_
    refine g_i2l hR dX5_isPart_53 ?_
    refine g_lconst (v := 0) hR dX5_isPart_54 (by decide) ?_
    refine g_ldc2 hR dX5_isPart_55 kl_X5_98 ?_
    refine g_csI hR ciX5_in dX5_isPart_58 ml_X5_43 (Nat.le_of_ble_eq_true rfl) (ev_in v 0 9 rfl rfl σ) rfl (Nat.le_of_ble_eq_true rfl) rfl ?_
    exact hE dX5_isPart_61 (rfl) (rfl)
  · refine g_il_0 hR dX5_isPart_0 ?_
    refine g_tout (tgt := 62) hR dX5_isPart_1 (by decide) (by decide) ?_
    refine g_il_0 hR dX5_isPart_62 ?_
    refine g_i2l hR dX5_isPart_63 ?_
    refine g_ldc2 hR dX5_isPart_64 kl_X5_106 ?_
    refine g_ldc2 hR dX5_isPart_67 kl_X5_108 ?_
    refine g_csI hR ciX5_in dX5_isPart_70 ml_X5_43 (Nat.le_of_ble_eq_true rfl) (ev_in 4 4 5 rfl rfl σ) rfl (Nat.le_of_ble_eq_true rfl) rfl ?_
    refine g_if_eq (tgt := 92) hR dX5_isPart_73 (by decide) (fun hc => absurd hc (bI_pos ⟨by decide, by decide⟩)) (fun _ => ?_)
    refine g_il_1 hR dX5_isPart_76 ?_
    refine g_i2l hR dX5_isPart_77 ?_
    refine g_lconst (v := 0) hR dX5_isPart_78 (by decide) ?_
    refine g_ldc2 hR dX5_isPart_79 kl_X5_110 ?_
    refine g_csI hR ciX5_in dX5_isPart_82 ml_X5_43 (Nat.le_of_ble_eq_true rfl) (ev_in v 0 9999 rfl rfl σ) rfl (Nat.le_of_ble_eq_true rfl) rfl ?_
    refine g_if_eq (tgt := 92) hR dX5_isPart_85 (by decide) (fun h1 => ?_) (fun h1 => ?_)
    · refine g_iconst_0 hR dX5_isPart_92 ?_
      exact hE dX5_isPart_93 (h1.symm) (rfl)
    · refine g_iconst_1 hR dX5_isPart_88 ?_
      refine g_goto (tgt := 93) hR dX5_isPart_89 (by decide) ?_
      exact hE dX5_isPart_93 (bI_n0 h1) (rfl)
  · refine g_il_0 hR dX5_isPart_0 ?_
    refine g_tout (tgt := 62) hR dX5_isPart_1 (by decide) (by decide) ?_
    refine g_il_0 hR dX5_isPart_62 ?_
    refine g_i2l hR dX5_isPart_63 ?_
    refine g_ldc2 hR dX5_isPart_64 kl_X5_106 ?_
    refine g_ldc2 hR dX5_isPart_67 kl_X5_108 ?_
    refine g_csI hR ciX5_in dX5_isPart_70 ml_X5_43 (Nat.le_of_ble_eq_true rfl) (ev_in 5 4 5 rfl rfl σ) rfl (Nat.le_of_ble_eq_true rfl) rfl ?_
    refine g_if_eq (tgt := 92) hR dX5_isPart_73 (by decide) (fun hc => absurd hc (bI_pos ⟨by decide, by decide⟩)) (fun _ => ?_)
    refine g_il_1 hR dX5_isPart_76 ?_
    refine g_i2l hR dX5_isPart_77 ?_
    refine g_lconst (v := 0) hR dX5_isPart_78 (by decide) ?_
    refine g_ldc2 hR dX5_isPart_79 kl_X5_110 ?_
    refine g_csI hR ciX5_in dX5_isPart_82 ml_X5_43 (Nat.le_of_ble_eq_true rfl) (ev_in v 0 9999 rfl rfl σ) rfl (Nat.le_of_ble_eq_true rfl) rfl ?_
    refine g_if_eq (tgt := 92) hR dX5_isPart_85 (by decide) (fun h1 => ?_) (fun h1 => ?_)
    · refine g_iconst_0 hR dX5_isPart_92 ?_
      exact hE dX5_isPart_93 (h1.symm) (rfl)
    · refine g_iconst_1 hR dX5_isPart_88 ?_
      refine g_goto (tgt := 93) hR dX5_isPart_89 (by decide) ?_
      exact hE dX5_isPart_93 (bI_n0 h1) (rfl)
set_option maxRecDepth 100000 in
set_option maxHeartbeats 4000000 in
theorem em_isPart_out {w : Int32} (hw : ¬ (0 ≤ w ∧ w ≤ 5)) (v : Int32) (σ : Hp) : CtI yX5_isPart wX5_isPart 2 [.int w, .int v] σ (0) (σ) := by
  refine CtI.of (by decide) (Nat.le_of_ble_eq_true rfl) rfl rfl (fun G hR hE => ?_)
  have e0 : (0 : Int32).toInt = 0 := rfl
  have e5 : (5 : Int32).toInt = 5 := rfl
  have e4 : (4 : Int32).toInt = 4 := rfl
  have h2 := hw
  rw [i_le, i_le] at h2
  refine g_il_0 hR dX5_isPart_0 ?_
  refine g_tout (tgt := 62) hR dX5_isPart_1 (by omega) (by decide) ?_
  refine g_il_0 hR dX5_isPart_62 ?_
  refine g_i2l hR dX5_isPart_63 ?_
  refine g_ldc2 hR dX5_isPart_64 kl_X5_106 ?_
  refine g_ldc2 hR dX5_isPart_67 kl_X5_108 ?_
  refine g_csI hR ciX5_in dX5_isPart_70 ml_X5_43 (Nat.le_of_ble_eq_true rfl) (ev_in w 4 5 rfl rfl σ) rfl (Nat.le_of_ble_eq_true rfl) rfl ?_
  refine g_if_eq (tgt := 92) hR dX5_isPart_73 (by decide) (fun _ => ?_) (fun hc => absurd (bI_0.mpr (fun q => hw ⟨Int32.le_trans (by decide) q.1, q.2⟩)) hc)
  refine g_iconst_0 hR dX5_isPart_92 ?_
  exact hE dX5_isPart_93 (rfl) (rfl)
set_option maxRecDepth 100000 in
set_option maxHeartbeats 4000000 in
theorem cm_change {n : Nat} {d : Int} (a b v : Int32) (σ : Hp) (hG : Gd (σ 4) n d) : CtI yX5_change wX5_change 3 [.ref 18, .int a, .int b, .int v] σ (if (0 ≤ a ∧ a < σ 4 1) ∧ (0 ≤ b ∧ b ≤ 5) ∧ flT b.toNatClampNeg ≤ v ∧ v ≤ fmT b.toNatClampNeg then pf (σ 4) a.toNatClampNeg b.toNatClampNeg else -1000001) (if (0 ≤ a ∧ a < σ 4 1) ∧ (0 ≤ b ∧ b ≤ 5) ∧ flT b.toNatClampNeg ≤ v ∧ v ≤ fmT b.toNatClampNeg then bset σ 4 (pset (σ 4) a.toNatClampNeg b.toNatClampNeg v) else fnd σ 14 0) := by
  refine CtI.of (by decide) (Nat.le_of_ble_eq_true rfl) rfl rfl (fun G hR hE => ?_)
  have hn8 := hG.1
  have bad : ¬ ((0 ≤ a ∧ a < σ 4 1) ∧ (0 ≤ b ∧ b ≤ 5) ∧ flT b.toNatClampNeg ≤ v ∧ v ≤ fmT b.toNatClampNeg) → G 29 [some (.ref 18), some (.int a), some (.int b), some (.int v)] [] σ := by
    intro h
    refine g_al_0 hR dX5_change_29 ?_
    refine g_ldc hR dX5_change_30 kc_X5_40 ?_
    refine g_cvI hR ciX5_finds dX5_change_32 ml_X5_60 (Nat.le_of_ble_eq_true rfl) (by decide) rfl rfl rfl (cm_f0 σ) rfl (Nat.le_of_ble_eq_true rfl) rfl ?_
    exact hE dX5_change_35 ((if_neg h).symm) ((if_neg h).symm)
  by_cases hb : 0 ≤ b ∧ b ≤ 5
  · obtain ⟨w, hw, rfl⟩ := nle 5 hb (by decide)
    have ew : (nI w).toNatClampNeg = w := nI_clamp (by omega)
    rw [ew] at hE bad
    refine g_al_0 hR dX5_change_0 ?_
    refine g_il_1 hR dX5_change_1 ?_
    refine g_cvI hR ciX5_isPiece dX5_change_2 ml_X5_95 (Nat.le_of_ble_eq_true rfl) (by decide) rfl rfl rfl (em_isPiece a hn8 σ hG.2.1) rfl (Nat.le_of_ble_eq_true rfl) rfl ?_
    refine g_if_eq (tgt := 29) hR dX5_change_5 (by decide) (fun h => ?_) (fun h => ?_)
    · exact bad (fun q => bI_0.mp h q.1)
    · refine g_il_2 hR dX5_change_8 ?_
      refine g_il_3 hR dX5_change_9 ?_
      refine g_csI hR ciX5_isPart dX5_change_10 ml_X5_112 (Nat.le_of_ble_eq_true rfl) (em_isPart (w := w) (by omega) v σ) rfl (Nat.le_of_ble_eq_true rfl) rfl ?_
      refine g_if_eq (tgt := 29) hR dX5_change_13 (by decide) (fun h2 => ?_) (fun h2 => ?_)
      · exact bad (fun q => bI_0.mp h2 q.2.2)
      · have hc := And.intro (bI_no h) (And.intro hb (bI_no h2))
        rw [if_pos hc, if_pos hc] at hE
        obtain ⟨p, hp, rfl⟩ := nlt (n := n) (by rw [← hG.2.1]; exact hc.1) (by omega)
        have ec : (nI p).toNatClampNeg = p := nI_clamp (by omega)
        rw [ec] at hE
        refine g_al_0 hR dX5_change_16 ?_
        refine g_il_1 hR dX5_change_17 ?_
        refine g_il_2 hR dX5_change_18 ?_
        refine g_csI hR ciX5_place dX5_change_19 ml_X5_49 (Nat.le_of_ble_eq_true rfl) (em_place p w σ) rfl (Nat.le_of_ble_eq_true rfl) rfl ?_
        refine g_il_3 hR dX5_change_22 ?_
        refine g_cvI hR ciX5_becomes dX5_change_23 ml_X5_57 (Nat.le_of_ble_eq_true rfl) (by decide) rfl rfl rfl (em_becomes (j := 6 + (6 * p + w)) (by omega) v σ) rfl (Nat.le_of_ble_eq_true rfl) rfl ?_
        refine g_goto (tgt := 35) hR dX5_change_26 (by decide) ?_
        exact hE dX5_change_35 (rfl) (rfl)
  · refine g_al_0 hR dX5_change_0 ?_
    refine g_il_1 hR dX5_change_1 ?_
    refine g_cvI hR ciX5_isPiece dX5_change_2 ml_X5_95 (Nat.le_of_ble_eq_true rfl) (by decide) rfl rfl rfl (em_isPiece a hn8 σ hG.2.1) rfl (Nat.le_of_ble_eq_true rfl) rfl ?_
    refine g_if_eq (tgt := 29) hR dX5_change_5 (by decide) (fun h => ?_) (fun h => ?_)
    · exact bad (fun q => hb q.2.1)
    · refine g_il_2 hR dX5_change_8 ?_
      refine g_il_3 hR dX5_change_9 ?_
      refine g_csI hR ciX5_isPart dX5_change_10 ml_X5_112 (Nat.le_of_ble_eq_true rfl) (em_isPart_out hb v σ) rfl (Nat.le_of_ble_eq_true rfl) rfl ?_
      refine g_if_eq (tgt := 29) hR dX5_change_13 (by decide) (fun _ => ?_) (fun hc => absurd ((show (0 : Int32) = 0 from rfl)) hc)
      exact bad (fun q => hb q.2.1)
set_option maxRecDepth 100000 in
set_option maxHeartbeats 4000000 in
theorem cm_lend {n : Nat} {d : Int} (a : Int32) (σ : Hp) (hG : Gd (σ 4) n d) : CtI yX5_lend wX5_lend 2 [.ref 18, .int a] σ (if 1 ≤ a ∧ a ≤ 99 then (if n = 0 then -1000005 else pf (σ 4) (n - 1) 2) else -1000001) (if 1 ≤ a ∧ a ≤ 99 then (if n = 0 then fnd σ 14 4 else bset σ 4 (cutS (σ 4) (n - 1) a)) else fnd σ 14 0) := by
  refine CtI.of (by decide) (Nat.le_of_ble_eq_true rfl) rfl rfl (fun G hR hE => ?_)
  have hn8 := hG.1
  refine g_il_1 hR dX5_lend_0 ?_
  refine g_i2l hR dX5_lend_1 ?_
  refine g_lconst (v := 1) hR dX5_lend_2 (by decide) ?_
  refine g_ldc2 hR dX5_lend_3 kl_X5_64 ?_
  refine g_csI hR ciX5_in dX5_lend_6 ml_X5_43 (Nat.le_of_ble_eq_true rfl) (ev_in a 1 99 rfl rfl σ) rfl (Nat.le_of_ble_eq_true rfl) rfl ?_
  refine g_if_ne (tgt := 19) hR dX5_lend_9 (by decide) (fun h => ?_) (fun h => ?_)
  · rw [if_pos (bI_no h), if_pos (bI_no h)] at hE
    refine g_al_0 hR dX5_lend_19 ?_
    refine gf_X5_s hR fl_X5_7 dX5_lend_20 ?_
    refine g_iconst_1 hR dX5_lend_23 ?_
    refine ga_19 hR 1 (by decide) rfl dX5_lend_24 ?_
    refine g_top hG.2.1 ?_
    cases n with
    | zero =>
      rw [if_pos rfl, if_pos rfl] at hE
      refine g_if_ne (tgt := 35) hR dX5_lend_25 (by decide) (fun hc => absurd (rfl) hc) (fun _ => ?_)
      refine g_al_0 hR dX5_lend_28 ?_
      refine g_ldc hR dX5_lend_29 kc_X5_116 ?_
      refine g_cvI hR ciX5_finds dX5_lend_31 ml_X5_60 (Nat.le_of_ble_eq_true rfl) (by decide) rfl rfl rfl (cm_f4 σ) rfl (Nat.le_of_ble_eq_true rfl) rfl ?_
      exact hE dX5_lend_34 (rfl) (rfl)
    | succ m =>
      rw [if_neg (by omega), if_neg (by omega), show m + 1 - 1 = m by omega] at hE
      refine g_if_ne (tgt := 35) hR dX5_lend_25 (by decide) (fun _ => ?_) (fun hc => absurd hc (nI_ne0 (by omega) (by omega)))
      refine g_al_0 hR dX5_lend_35 ?_
      refine gf_X5_s hR fl_X5_7 dX5_lend_36 ?_
      refine g_iconst_1 hR dX5_lend_39 ?_
      refine ga_19 hR 1 (by decide) rfl dX5_lend_40 ?_
      refine g_top hG.2.1 ?_
      refine g_iconst_1 hR dX5_lend_41 ?_
      refine g_isub hR dX5_lend_42 ?_
      refine g_top (nI_pred m) ?_
      refine g_is_2 hR dX5_lend_43 trivial ?_
      refine g_al_0 hR dX5_lend_44 ?_
      refine g_il_2 hR dX5_lend_45 ?_
      refine g_iconst_2 hR dX5_lend_46 ?_
      refine g_cvI hR ciX5_its dX5_lend_47 ml_X5_73 (Nat.le_of_ble_eq_true rfl) (by decide) rfl rfl rfl (em_its (p := m) (w := 2) (by omega) (by decide) σ) rfl (Nat.le_of_ble_eq_true rfl) rfl ?_
      refine g_is_3 hR dX5_lend_50 trivial ?_
      refine g_il_3 hR dX5_lend_51 ?_
      refine g_il_1 hR dX5_lend_52 ?_
      refine g_icmp_le (tgt := 71) hR dX5_lend_53 (by decide) (fun h2 => ?_) (fun h2 => ?_)
      · have lp : ∀ d j, j + d = 10 → G 84 [some (.ref 18), some (.int a), some (.int (nI m)), some (.int (pf (σ 4) m 2)), some (.int (nI j))] [] (bset σ 4 (espN (upd (σ 4) 1 (nI m)) (nI m) j)) := by
          intro d'
          induction d' with
          | zero =>
            intro j hj
            obtain rfl : j = 10 := by omega
            refine g_il_4 hR dX5_lend_84 ?_
            refine g_bipush_10 hR dX5_lend_86 ?_
            refine g_icmp_ge (tgt := 135) hR dX5_lend_88 (by decide) (fun _ => ?_) (fun hc => absurd (Int32.le_refl _) hc)
            refine g_il_3 hR dX5_lend_135 ?_
            exact hE dX5_lend_136 (rfl) (by unfold cutS; rw [if_neg (Int32.not_lt.mpr h2)])
          | succ d' ih =>
            intro j hj
            have e0 := ih (j + 1) (by omega)
            rw [espN, esp1] at e0
            generalize espN (upd (σ 4) 1 (nI m)) (nI m) j = T at *
            have e54 : 54 + nI j = nI (54 + j) := nI_add 54 j
            refine g_il_4 hR dX5_lend_84 ?_
            refine g_bipush_10 hR dX5_lend_86 ?_
            refine g_icmp_ge (tgt := 135) hR dX5_lend_88 (by decide) (fun hc => absurd hc (nI_ge (b := 10) (by omega) (by decide))) (fun _ => ?_)
            refine g_al_0 hR dX5_lend_91 ?_
            refine gf_X5_s hR fl_X5_7 dX5_lend_92 ?_
            refine g_bipush_54 hR dX5_lend_95 ?_
            refine g_il_4 hR dX5_lend_97 ?_
            refine g_iadd hR dX5_lend_99 ?_
            refine g_al_0 hR dX5_lend_100 ?_
            refine gf_X5_s hR fl_X5_7 dX5_lend_101 ?_
            refine g_bipush_54 hR dX5_lend_104 ?_
            refine g_il_4 hR dX5_lend_106 ?_
            refine g_iadd hR dX5_lend_108 ?_
            refine ga_19 hR (54 + j) (by omega) e54 dX5_lend_109 ?_
            refine g_il_2 hR dX5_lend_110 ?_
            refine g_icmp_ne (tgt := 118) hR dX5_lend_111 (by decide) (fun h3 => ?_) (fun h3 => ?_)
            · rw [bset_s] at h3
              rw [if_neg h3] at e0
              refine g_al_0 hR dX5_lend_118 ?_
              refine gf_X5_s hR fl_X5_7 dX5_lend_119 ?_
              refine g_bipush_54 hR dX5_lend_122 ?_
              refine g_il_4 hR dX5_lend_124 ?_
              refine g_iadd hR dX5_lend_126 ?_
              refine ga_19 hR (54 + j) (by omega) e54 dX5_lend_127 ?_
              refine gs_19 hR (54 + j) (by omega) e54 dX5_lend_128 ?_
              refine g_inc_4 hR dX5_lend_129 trivial ?_
              refine g_goto (tgt := 84) hR dX5_lend_132 (by decide) ?_
              rw [hset_e, bset_s, bset_bset, upd_id]
              exact e0
            · rw [bset_s] at h3
              rw [if_pos h3] at e0
              refine g_iconst_m1 hR dX5_lend_114 ?_
              refine g_goto (tgt := 128) hR dX5_lend_115 (by decide) ?_
              refine gs_19 hR (54 + j) (by omega) e54 dX5_lend_128 ?_
              refine g_inc_4 hR dX5_lend_129 trivial ?_
              refine g_goto (tgt := 84) hR dX5_lend_132 (by decide) ?_
              rw [hset_e, bset_s, bset_bset]
              exact e0
        refine g_al_0 hR dX5_lend_71 ?_
        refine gf_X5_s hR fl_X5_7 dX5_lend_72 ?_
        refine g_iconst_1 hR dX5_lend_75 ?_
        refine g_dup2 hR dX5_lend_76 rfl rfl ?_
        refine ga_19 hR 1 (by decide) rfl dX5_lend_77 ?_
        refine g_iconst_1 hR dX5_lend_78 ?_
        refine g_isub hR dX5_lend_79 ?_
        refine gs_19 hR 1 (by decide) rfl dX5_lend_80 ?_
        refine g_iconst_0 hR dX5_lend_81 ?_
        refine g_is_4 hR dX5_lend_82 trivial ?_
        refine g_eq (τ := bset σ 4 (espN (upd (σ 4) 1 (nI m)) (nI m) 0)) (by rw [hset_e, hG.2.1, nI_pred]; rfl) ?_
        exact lp 10 0 rfl
      · refine g_al_0 hR dX5_lend_56 ?_
        refine gf_X5_s hR fl_X5_7 dX5_lend_57 ?_
        refine g_il_2 hR dX5_lend_60 ?_
        refine g_iconst_2 hR dX5_lend_61 ?_
        refine g_csI hR ciX5_place dX5_lend_62 ml_X5_49 (Nat.le_of_ble_eq_true rfl) (em_place m 2 σ) rfl (Nat.le_of_ble_eq_true rfl) rfl ?_
        refine g_il_3 hR dX5_lend_65 ?_
        refine g_il_1 hR dX5_lend_66 ?_
        refine g_isub hR dX5_lend_67 ?_
        refine gs_19 hR (6 + (6 * m + 2)) (by omega) rfl dX5_lend_68 ?_
        refine g_il_3 hR dX5_lend_69 ?_
        exact hE dX5_lend_70 (rfl) (by unfold cutS; rw [if_pos (Int32.not_le.mp h2)]; rfl)
  · refine g_al_0 hR dX5_lend_12 ?_
    refine g_ldc hR dX5_lend_13 kc_X5_40 ?_
    refine g_cvI hR ciX5_finds dX5_lend_15 ml_X5_60 (Nat.le_of_ble_eq_true rfl) (by decide) rfl rfl rfl (cm_f0 σ) rfl (Nat.le_of_ble_eq_true rfl) rfl ?_
    exact hE dX5_lend_18 ((if_neg (bI_0.mp h)).symm) ((if_neg (bI_0.mp h)).symm)
set_option maxRecDepth 100000 in
set_option maxHeartbeats 4000000 in
theorem cm_felt {n : Nat} {d : Int} (a : Int32) (σ : Hp) (hG : Gd (σ 4) n d) : CtI yX5_felt wX5_felt 5 [.ref 18, .int a] σ (if 0 ≤ a ∧ a ≤ 11 then tooF (σ 4) n a else -1000001) (if 0 ≤ a ∧ a ≤ 11 then σ else fnd σ 14 0) := by
  refine CtI.of (by decide) (Nat.le_of_ble_eq_true rfl) rfl rfl (fun G hR hE => ?_)
  refine g_il_1 hR dX5_felt_0 ?_
  refine g_csI hR ciX5_isPlace dX5_felt_1 ml_X5_53 (Nat.le_of_ble_eq_true rfl) (em_isPlace a σ) rfl (Nat.le_of_ble_eq_true rfl) rfl ?_
  refine g_if_eq (tgt := 15) hR dX5_felt_4 (by decide) (fun h => ?_) (fun h => ?_)
  · refine g_al_0 hR dX5_felt_15 ?_
    refine g_ldc hR dX5_felt_16 kc_X5_40 ?_
    refine g_cvI hR ciX5_finds dX5_felt_18 ml_X5_60 (Nat.le_of_ble_eq_true rfl) (by decide) rfl rfl rfl (cm_f0 σ) rfl (Nat.le_of_ble_eq_true rfl) rfl ?_
    exact hE dX5_felt_21 ((if_neg (bI_0.mp h)).symm) ((if_neg (bI_0.mp h)).symm)
  · refine g_al_0 hR dX5_felt_7 ?_
    refine g_il_1 hR dX5_felt_8 ?_
    refine g_cvI hR ciX5_feltAt dX5_felt_9 ml_X5_117 (Nat.le_of_ble_eq_true rfl) (by decide) rfl rfl rfl (em_feltAt a σ hG) rfl (Nat.le_of_ble_eq_true rfl) rfl ?_
    refine g_goto (tgt := 21) hR dX5_felt_12 (by decide) ?_
    exact hE dX5_felt_21 ((if_pos (bI_no h)).symm) ((if_pos (bI_no h)).symm)
set_option maxRecDepth 100000 in
set_option maxHeartbeats 4000000 in
theorem cm_go {n : Nat} {d : Int} (a : Int32) (σ : Hp) (hG : Gd (σ 4) n d) (hd : d ≤ 40000) : CtI yX5_go wX5_go 7 [.ref 18, .int a] σ (if 1 ≤ a ∧ a ≤ 60 then daysF (σ 4) n a.toNatClampNeg 2 else -1000001) (if 1 ≤ a ∧ a ≤ 60 then bset σ 4 (daysF (σ 4) n a.toNatClampNeg) else fnd σ 14 0) := by
  refine CtI.of (by decide) (Nat.le_of_ble_eq_true rfl) rfl rfl (fun G hR hE => ?_)
  refine g_il_1 hR dX5_go_0 ?_
  refine g_i2l hR dX5_go_1 ?_
  refine g_lconst (v := 1) hR dX5_go_2 (by decide) ?_
  refine g_ldc2 hR dX5_go_3 kl_X5_137 ?_
  refine g_csI hR ciX5_in dX5_go_6 ml_X5_43 (Nat.le_of_ble_eq_true rfl) (ev_in a 1 60 rfl rfl σ) rfl (Nat.le_of_ble_eq_true rfl) rfl ?_
  refine g_if_ne (tgt := 19) hR dX5_go_9 (by decide) (fun h => ?_) (fun h => ?_)
  · have hc := bI_no h
    rw [if_pos hc, if_pos hc] at hE
    obtain ⟨c, hc2, rfl⟩ := nle 60 ⟨Int32.le_trans (by decide) hc.1, hc.2⟩ (by decide)
    rw [show (nI c).toNatClampNeg = c from nI_clamp (by omega)] at hE
    refine g_al_0 hR dX5_go_19 ?_
    refine gf_X5_s hR fl_X5_7 dX5_go_20 ?_
    refine g_iconst_0 hR dX5_go_23 ?_
    refine ga_19 hR 0 (by decide) rfl dX5_go_24 ?_
    refine g_il_1 hR dX5_go_25 ?_
    refine g_iadd hR dX5_go_26 ?_
    refine g_ldc hR dX5_go_27 kc_X5_123 ?_
    refine g_icmp_le (tgt := 39) hR dX5_go_29 (by decide) (fun _ => ?_) (fun hc => absurd (day_c2 hG hd hc2) hc)
    refine g_al_0 hR dX5_go_39 ?_
    refine g_il_1 hR dX5_go_40 ?_
    refine g_cvV hR ciX5_goesOn dX5_go_41 ml_X5_139 (Nat.le_of_ble_eq_true rfl) (by decide) rfl rfl rfl (em_goesOn (n := n) (c := c) σ hG (by omega) (by omega)) rfl (Nat.le_of_ble_eq_true rfl) rfl ?_
    refine g_al_0 hR dX5_go_44 ?_
    refine gf_X5_s hR fl_X5_7 dX5_go_45 ?_
    refine g_iconst_2 hR dX5_go_48 ?_
    refine ga_19 hR 2 (by decide) rfl dX5_go_49 ?_
    exact hE dX5_go_50 (by rw [bset_s]) (rfl)
  · refine g_al_0 hR dX5_go_12 ?_
    refine g_ldc hR dX5_go_13 kc_X5_40 ?_
    refine g_cvI hR ciX5_finds dX5_go_15 ml_X5_60 (Nat.le_of_ble_eq_true rfl) (by decide) rfl rfl rfl (cm_f0 σ) rfl (Nat.le_of_ble_eq_true rfl) rfl ?_
    exact hE dX5_go_18 ((if_neg (bI_0.mp h)).symm) ((if_neg (bI_0.mp h)).symm)
set_option maxRecDepth 100000 in
set_option maxHeartbeats 4000000 in
theorem cm_now {n : Nat} {d : Int} (a : Int32) (σ : Hp) (hG : Gd (σ 4) n d) (hd : d < 1000000) : CtI yX5_now wX5_now 5 [.ref 18, .int a] σ (nowV (σ 4) n a) (if 0 ≤ a ∧ a ≤ 7 then σ else fnd σ 14 0) := by
  refine CtI.of (by decide) (Nat.le_of_ble_eq_true rfl) rfl rfl (fun G hR hE => ?_)
  have hn8 := hG.1
  rcases w07 a with rfl | rfl | rfl | rfl | rfl | rfl | rfl | rfl | ⟨h1, h2⟩
  · refine g_il_1 hR dX5_now_0 ?_
    refine g_tin (off := 47) (tgt := 48) hR dX5_now_1 (by decide) (by decide) (by decide) (by decide) ?_
    refine g_al_0 hR dX5_now_48 ?_
    refine gf_X5_s hR fl_X5_7 dX5_now_49 ?_
    refine g_iconst_0 hR dX5_now_52 ?_
    refine ga_19 hR 0 (by decide) rfl dX5_now_53 ?_
    exact hE dX5_now_54 (rfl) (rfl)
  · refine g_il_1 hR dX5_now_0 ?_
    refine g_tin (off := 54) (tgt := 55) hR dX5_now_1 (by decide) (by decide) (by decide) (by decide) ?_
    refine g_al_0 hR dX5_now_55 ?_
    refine gf_X5_s hR fl_X5_7 dX5_now_56 ?_
    refine g_iconst_2 hR dX5_now_59 ?_
    refine ga_19 hR 2 (by decide) rfl dX5_now_60 ?_
    exact hE dX5_now_61 (rfl) (rfl)
  · refine g_il_1 hR dX5_now_0 ?_
    refine g_tin (off := 61) (tgt := 62) hR dX5_now_1 (by decide) (by decide) (by decide) (by decide) ?_
    refine g_al_0 hR dX5_now_62 ?_
    refine g_iconst_1 hR dX5_now_63 ?_
    refine g_cvI hR ciX5_pull dX5_now_64 ml_X5_124 (Nat.le_of_ble_eq_true rfl) (by decide) rfl rfl rfl (em_pullUp σ hG hd) rfl (Nat.le_of_ble_eq_true rfl) rfl ?_
    exact hE dX5_now_67 (rfl) (rfl)
  · refine g_il_1 hR dX5_now_0 ?_
    refine g_tin (off := 67) (tgt := 68) hR dX5_now_1 (by decide) (by decide) (by decide) (by decide) ?_
    refine g_al_0 hR dX5_now_68 ?_
    refine g_iconst_m1 hR dX5_now_69 ?_
    refine g_cvI hR ciX5_pull dX5_now_70 ml_X5_124 (Nat.le_of_ble_eq_true rfl) (by decide) rfl rfl rfl (em_pullDn σ hG hd) rfl (Nat.le_of_ble_eq_true rfl) rfl ?_
    exact hE dX5_now_73 (rfl) (rfl)
  · refine g_il_1 hR dX5_now_0 ?_
    refine g_tin (off := 73) (tgt := 74) hR dX5_now_1 (by decide) (by decide) (by decide) (by decide) ?_
    refine g_al_0 hR dX5_now_74 ?_
    refine g_iconst_0 hR dX5_now_75 ?_
    refine g_cvI hR ciX5_longFrom dX5_now_76 ml_X5_92 (Nat.le_of_ble_eq_true rfl) (by decide) rfl rfl rfl (em_longFrom (q := 0) (by omega) hn8 σ hG.2.1) rfl (Nat.le_of_ble_eq_true rfl) rfl ?_
    exact hE dX5_now_79 (rfl) (rfl)
  · refine g_il_1 hR dX5_now_0 ?_
    refine g_tin (off := 79) (tgt := 80) hR dX5_now_1 (by decide) (by decide) (by decide) (by decide) ?_
    refine g_al_0 hR dX5_now_80 ?_
    refine gf_X5_s hR fl_X5_7 dX5_now_81 ?_
    refine g_iconst_4 hR dX5_now_84 ?_
    refine ga_19 hR 4 (by decide) rfl dX5_now_85 ?_
    exact hE dX5_now_86 (rfl) (rfl)
  · refine g_il_1 hR dX5_now_0 ?_
    refine g_tin (off := 86) (tgt := 87) hR dX5_now_1 (by decide) (by decide) (by decide) (by decide) ?_
    refine g_al_0 hR dX5_now_87 ?_
    refine g_cvI hR ciX5_drawn dX5_now_88 ml_X5_142 (Nat.le_of_ble_eq_true rfl) (by decide) rfl rfl rfl (em_drawn hn8 σ hG.2.1) rfl (Nat.le_of_ble_eq_true rfl) rfl ?_
    exact hE dX5_now_91 (rfl) (rfl)
  · refine g_il_1 hR dX5_now_0 ?_
    refine g_tin (off := 91) (tgt := 92) hR dX5_now_1 (by decide) (by decide) (by decide) (by decide) ?_
    refine g_al_0 hR dX5_now_92 ?_
    refine g_cvI hR ciX5_mostFelt dX5_now_93 ml_X5_146 (Nat.le_of_ble_eq_true rfl) (by decide) rfl rfl rfl (em_mostFelt σ hG) rfl (Nat.le_of_ble_eq_true rfl) rfl ?_
    exact hE dX5_now_96 (rfl) (rfl)
  · have ne := ne07 h1
    refine g_il_1 hR dX5_now_0 ?_
    refine g_tout (tgt := 97) hR dX5_now_1 (h2) (by decide) ?_
    refine g_al_0 hR dX5_now_97 ?_
    refine g_ldc hR dX5_now_98 kc_X5_40 ?_
    refine g_cvI hR ciX5_finds dX5_now_100 ml_X5_60 (Nat.le_of_ble_eq_true rfl) (by decide) rfl rfl rfl (cm_f0 σ) rfl (Nat.le_of_ble_eq_true rfl) rfl ?_
    exact hE dX5_now_103 (by unfold nowV; rw [if_neg (show ¬ a = 0 from ne 0 (by decide)), if_neg (show ¬ a = 1 from ne 1 (by decide)), if_neg (show ¬ a = 2 from ne 2 (by decide)), if_neg (show ¬ a = 3 from ne 3 (by decide)), if_neg (show ¬ a = 4 from ne 4 (by decide)), if_neg (show ¬ a = 5 from ne 5 (by decide)), if_neg (show ¬ a = 6 from ne 6 (by decide)), if_neg (show ¬ a = 7 from ne 7 (by decide))]) ((if_neg h1).symm)
set_option maxRecDepth 100000 in
set_option maxHeartbeats 4000000 in
theorem cm_seed (a : Int32) (σ : Hp) : CtI yX5_seed wX5_seed 1 [.ref 18, .int a] σ (σ 4 5) (bset σ 4 (upd (σ 4) 5 a)) := by
  refine CtI.of (by decide) (Nat.le_of_ble_eq_true rfl) rfl rfl (fun G hR hE => ?_)
  refine g_al_0 hR dX5_seed_0 ?_
  refine g_iconst_5 hR dX5_seed_1 ?_
  refine g_il_1 hR dX5_seed_2 ?_
  refine g_cvI hR ciX5_becomes dX5_seed_3 ml_X5_57 (Nat.le_of_ble_eq_true rfl) (by decide) rfl rfl rfl (em_becomes (j := 5) (by decide) a σ) rfl (Nat.le_of_ble_eq_true rfl) rfl ?_
  exact hE dX5_seed_6 (rfl) (rfl)
set_option maxRecDepth 100000 in
set_option maxHeartbeats 4000000 in
theorem cm_wipe (σ : Hp) : CtI yX5_wipe wX5_wipe 0 [.ref 18] σ (σ 8 1) (bset σ 8 (upd (σ 8) 1 0)) := by
  refine CtI.of (by decide) (Nat.le_of_ble_eq_true rfl) rfl rfl (fun G hR hE => ?_)
  refine g_al_0 hR dX5_wipe_0 ?_
  refine gf_X5_taped hR fl_X5_197 dX5_wipe_1 ?_
  refine g_is_1 hR dX5_wipe_4 trivial ?_
  refine g_al_0 hR dX5_wipe_5 ?_
  refine g_iconst_0 hR dX5_wipe_6 ?_
  refine pf_X5_taped hR fl_X5_197 dX5_wipe_7 ?_
  refine g_il_1 hR dX5_wipe_10 ?_
  exact hE dX5_wipe_11 (rfl) (rfl)
set_option maxRecDepth 100000 in
set_option maxHeartbeats 4000000 in
theorem cm_image (σ : Hp) : CtI yX5_image wX5_image 0 [.ref 18] σ (1) (bset (bset σ 5 (cpN (σ 4) (σ 5) 64)) 8 (upd (σ 8) 0 1)) := by
  refine CtI.of (by decide) (Nat.le_of_ble_eq_true rfl) rfl rfl (fun G hR hE => ?_)
  have lp : ∀ d j, j + d = 64 → G 2 [some (.ref 18), some (.int (nI j))] [] (bset σ 5 (cpN (σ 4) (σ 5) j)) := by
    intro d
    induction d with
    | zero =>
      intro j hj
      obtain rfl : j = 64 := by omega
      refine g_il_1 hR dX5_image_2 ?_
      refine g_bipush_64 hR dX5_image_3 ?_
      refine g_icmp_ge (tgt := 26) hR dX5_image_5 (by decide) (fun _ => ?_) (fun hc => absurd (Int32.le_refl _) hc)
      refine g_al_0 hR dX5_image_26 ?_
      refine g_iconst_1 hR dX5_image_27 ?_
      refine pf_X5_isKept hR fl_X5_309 dX5_image_28 (by decide) ?_
      refine g_iconst_1 hR dX5_image_31 ?_
      exact hE dX5_image_32 (rfl) (by rw [hset_e, bset_n (show 8 ≠ 5 by decide)])
    | succ d ih =>
      intro j hj
      refine g_il_1 hR dX5_image_2 ?_
      refine g_bipush_64 hR dX5_image_3 ?_
      refine g_icmp_ge (tgt := 26) hR dX5_image_5 (by decide) (fun hc => absurd hc (nI_ge (b := 64) (by omega) (by decide))) (fun _ => ?_)
      refine g_al_0 hR dX5_image_8 ?_
      refine gf_X5_keptS hR fl_X5_13 dX5_image_9 ?_
      refine g_il_1 hR dX5_image_12 ?_
      refine g_al_0 hR dX5_image_13 ?_
      refine gf_X5_s hR fl_X5_7 dX5_image_14 ?_
      refine g_il_1 hR dX5_image_17 ?_
      refine ga_19 hR j (by omega) rfl dX5_image_18 ?_
      refine gs_20 hR j (by omega) rfl dX5_image_19 ?_
      refine g_inc_1 hR dX5_image_20 trivial ?_
      refine g_goto (tgt := 2) hR dX5_image_23 (by decide) ?_
      rw [bset_n (show 4 ≠ 5 by decide), hset_e, bset_s, bset_bset, cpN_s]
      exact ih (j + 1) (by omega)
  refine g_iconst_0 hR dX5_image_0 ?_
  refine g_is_1 hR dX5_image_1 trivial ?_
  refine g_eq (τ := bset σ 5 (cpN (σ 4) (σ 5) 0)) (by rw [cpN_0, bset_id]) ?_
  exact lp 64 0 rfl
set_option maxRecDepth 100000 in
set_option maxHeartbeats 4000000 in
theorem cm_undo (σ : Hp) : CtI yX5_undo wX5_undo 1 [.ref 18] σ (if σ 8 0 = 0 then -1000004 else σ 5 0) (if σ 8 0 = 0 then fnd σ 14 3 else bset σ 4 (cpN (σ 5) (σ 4) 64)) := by
  refine CtI.of (by decide) (Nat.le_of_ble_eq_true rfl) rfl rfl (fun G hR hE => ?_)
  have lp : ∀ d j, j + d = 64 → ¬ σ 8 0 = 0 → G 16 [some (.ref 18), some (.int (nI j))] [] (bset σ 4 (cpN (σ 5) (σ 4) j)) := by
    intro d
    induction d with
    | zero =>
      intro j hj h
      obtain rfl : j = 64 := by omega
      refine g_il_1 hR dX5_undo_16 ?_
      refine g_bipush_64 hR dX5_undo_17 ?_
      refine g_icmp_ge (tgt := 40) hR dX5_undo_19 (by decide) (fun _ => ?_) (fun hc => absurd (Int32.le_refl _) hc)
      refine g_al_0 hR dX5_undo_40 ?_
      refine gf_X5_s hR fl_X5_7 dX5_undo_41 ?_
      refine g_iconst_0 hR dX5_undo_44 ?_
      refine ga_19 hR 0 (by decide) rfl dX5_undo_45 ?_
      exact hE dX5_undo_46 (by rw [if_neg h, bset_s]; rfl) ((if_neg h).symm)
    | succ d ih =>
      intro j hj h
      refine g_il_1 hR dX5_undo_16 ?_
      refine g_bipush_64 hR dX5_undo_17 ?_
      refine g_icmp_ge (tgt := 40) hR dX5_undo_19 (by decide) (fun hc => absurd hc (nI_ge (b := 64) (by omega) (by decide))) (fun _ => ?_)
      refine g_al_0 hR dX5_undo_22 ?_
      refine gf_X5_s hR fl_X5_7 dX5_undo_23 ?_
      refine g_il_1 hR dX5_undo_26 ?_
      refine g_al_0 hR dX5_undo_27 ?_
      refine gf_X5_keptS hR fl_X5_13 dX5_undo_28 ?_
      refine g_il_1 hR dX5_undo_31 ?_
      refine ga_20 hR j (by omega) rfl dX5_undo_32 ?_
      refine gs_19 hR j (by omega) rfl dX5_undo_33 ?_
      refine g_inc_1 hR dX5_undo_34 trivial ?_
      refine g_goto (tgt := 16) hR dX5_undo_37 (by decide) ?_
      rw [bset_n (show 5 ≠ 4 by decide), hset_e, bset_s, bset_bset, cpN_s]
      exact ih (j + 1) (by omega) h
  refine g_al_0 hR dX5_undo_0 ?_
  refine gf_X5_isKept hR fl_X5_309 dX5_undo_1 ?_
  refine g_if_ne (tgt := 14) hR dX5_undo_4 (by decide) (fun h => ?_) (fun h => ?_)
  · refine g_iconst_0 hR dX5_undo_14 ?_
    refine g_is_1 hR dX5_undo_15 trivial ?_
    refine g_eq (τ := bset σ 4 (cpN (σ 5) (σ 4) 0)) (by rw [cpN_0, bset_id]) ?_
    exact lp 64 0 rfl h
  · refine g_al_0 hR dX5_undo_7 ?_
    refine g_ldc hR dX5_undo_8 kc_X5_162 ?_
    refine g_cvI hR ciX5_finds dX5_undo_10 ml_X5_60 (Nat.le_of_ble_eq_true rfl) (by decide) rfl rfl rfl (cm_f3 σ) rfl (Nat.le_of_ble_eq_true rfl) rfl ?_
    exact hE dX5_undo_13 ((if_pos h).symm) ((if_pos h).symm)
set_option maxRecDepth 100000 in
set_option maxHeartbeats 4000000 in
theorem cm_tear (σ : Hp) : CtI yX5_tear wX5_tear 0 [.ref 18] σ (if σ 8 0 = 0 then 0 else 1) (bset σ 8 (upd (σ 8) 0 0)) := by
  refine CtI.of (by decide) (Nat.le_of_ble_eq_true rfl) rfl rfl (fun G hR hE => ?_)
  refine g_al_0 hR dX5_tear_0 ?_
  refine gf_X5_isKept hR fl_X5_309 dX5_tear_1 ?_
  refine g_if_eq (tgt := 11) hR dX5_tear_4 (by decide) (fun h => ?_) (fun h => ?_)
  · refine g_iconst_0 hR dX5_tear_11 ?_
    refine g_is_1 hR dX5_tear_12 trivial ?_
    refine g_al_0 hR dX5_tear_13 ?_
    refine g_iconst_0 hR dX5_tear_14 ?_
    refine pf_X5_isKept hR fl_X5_309 dX5_tear_15 (by decide) ?_
    refine g_il_1 hR dX5_tear_18 ?_
    exact hE dX5_tear_19 ((if_pos h).symm) (rfl)
  · refine g_iconst_1 hR dX5_tear_7 ?_
    refine g_goto (tgt := 12) hR dX5_tear_8 (by decide) ?_
    refine g_is_1 hR dX5_tear_12 trivial ?_
    refine g_al_0 hR dX5_tear_13 ?_
    refine g_iconst_0 hR dX5_tear_14 ?_
    refine pf_X5_isKept hR fl_X5_309 dX5_tear_15 (by decide) ?_
    refine g_il_1 hR dX5_tear_18 ?_
    exact hE dX5_tear_19 ((if_neg h).symm) (rfl)
set_option maxRecDepth 100000 in
set_option maxHeartbeats 4000000 in
theorem em_isSpot (v : Int32) (σ : Hp) : CtI yX5_isSpot wX5_isSpot 1 [.int v] σ (bI (0 ≤ v ∧ v ≤ 9)) (σ) := by
  refine CtI.of (by decide) (Nat.le_of_ble_eq_true rfl) (bI_nar _) rfl (fun G hR hE => ?_)
  refine g_il_0 hR dX5_isSpot_0 ?_
  refine g_i2l hR dX5_isSpot_1 ?_
  refine g_lconst (v := 0) hR dX5_isSpot_2 (by decide) ?_
  refine g_ldc2 hR dX5_isSpot_3 kl_X5_98 ?_
  refine g_csI hR ciX5_in dX5_isSpot_6 ml_X5_43 (Nat.le_of_ble_eq_true rfl) (ev_in v 0 9 rfl rfl σ) rfl (Nat.le_of_ble_eq_true rfl) rfl ?_
  exact hE dX5_isSpot_9 (rfl) (rfl)
set_option maxRecDepth 100000 in
set_option maxHeartbeats 4000000 in
theorem cm_hold {n : Nat} (a b : Int32) (σ : Hp) (hn8 : n ≤ 8) (hn : σ 4 1 = nI n) : CtI yX5_hold wX5_hold 2 [.ref 18, .int a, .int b] σ (if (0 ≤ a ∧ a ≤ 9) ∧ (b = -1 ∨ 0 ≤ b ∧ b < σ 4 1) then 1 else -1000001) (if (0 ≤ a ∧ a ≤ 9) ∧ (b = -1 ∨ 0 ≤ b ∧ b < σ 4 1) then bset σ 4 (upd (σ 4) (54 + a.toNatClampNeg) b) else fnd σ 14 0) := by
  refine CtI.of (by decide) (Nat.le_of_ble_eq_true rfl) rfl rfl (fun G hR hE => ?_)
  have bad : ¬ ((0 ≤ a ∧ a ≤ 9) ∧ (b = -1 ∨ 0 ≤ b ∧ b < σ 4 1)) → G 20 [some (.ref 18), some (.int a), some (.int b)] [] σ := by
    intro h
    refine g_al_0 hR dX5_hold_20 ?_
    refine g_ldc hR dX5_hold_21 kc_X5_40 ?_
    refine g_cvI hR ciX5_finds dX5_hold_23 ml_X5_60 (Nat.le_of_ble_eq_true rfl) (by decide) rfl rfl rfl (cm_f0 σ) rfl (Nat.le_of_ble_eq_true rfl) rfl ?_
    exact hE dX5_hold_26 ((if_neg h).symm) ((if_neg h).symm)
  have good : (0 ≤ a ∧ a ≤ 9) ∧ (b = -1 ∨ 0 ≤ b ∧ b < σ 4 1) → G 27 [some (.ref 18), some (.int a), some (.int b)] [] σ := by
    intro hc
    rw [if_pos hc, if_pos hc] at hE
    obtain ⟨i, hi, rfl⟩ := nle 9 hc.1 (by decide)
    rw [show (nI i).toNatClampNeg = i from nI_clamp (by omega)] at hE
    refine g_al_0 hR dX5_hold_27 ?_
    refine gf_X5_s hR fl_X5_7 dX5_hold_28 ?_
    refine g_bipush_54 hR dX5_hold_31 ?_
    refine g_il_1 hR dX5_hold_33 ?_
    refine g_iadd hR dX5_hold_34 ?_
    refine g_il_2 hR dX5_hold_35 ?_
    refine gs_19 hR (54 + i) (by omega) (nI_add 54 i) dX5_hold_36 ?_
    refine g_iconst_1 hR dX5_hold_37 ?_
    exact hE dX5_hold_38 (rfl) (rfl)
  refine g_il_1 hR dX5_hold_0 ?_
  refine g_csI hR ciX5_isSpot dX5_hold_1 ml_X5_292 (Nat.le_of_ble_eq_true rfl) (em_isSpot a σ) rfl (Nat.le_of_ble_eq_true rfl) rfl ?_
  refine g_if_eq (tgt := 20) hR dX5_hold_4 (by decide) (fun h => ?_) (fun h => ?_)
  · exact bad (fun q => bI_0.mp h q.1)
  · refine g_il_2 hR dX5_hold_7 ?_
    refine g_iconst_m1 hR dX5_hold_8 ?_
    refine g_icmp_eq (tgt := 27) hR dX5_hold_9 (by decide) (fun h2 => ?_) (fun h2 => ?_)
    · exact good ⟨bI_no h, Or.inl h2⟩
    · refine g_al_0 hR dX5_hold_12 ?_
      refine g_il_2 hR dX5_hold_13 ?_
      refine g_cvI hR ciX5_isPiece dX5_hold_14 ml_X5_95 (Nat.le_of_ble_eq_true rfl) (by decide) rfl rfl rfl (em_isPiece b hn8 σ hn) rfl (Nat.le_of_ble_eq_true rfl) rfl ?_
      refine g_if_ne (tgt := 27) hR dX5_hold_17 (by decide) (fun h3 => ?_) (fun h3 => ?_)
      · exact good ⟨bI_no h, Or.inr (bI_no h3)⟩
      · exact bad (fun q => q.2.elim h2 (bI_0.mp h3))
set_option maxRecDepth 100000 in
set_option maxHeartbeats 4000000 in
theorem em_heldSpots (σ : Hp) : CtI yX5_heldSpots wX5_heldSpots 0 [.ref 18] σ (nI (cntN (fun i => decide (¬ σ 4 (54 + i) < 0)) 10)) (σ) := by
  refine CtI.of (by decide) (Nat.le_of_ble_eq_true rfl) rfl rfl (fun G hR hE => ?_)
  have lp : ∀ d j, j + d = 10 → G 4 [some (.ref 18), some (.int (nI (cntN (fun i => decide (¬ σ 4 (54 + i) < 0)) j))), some (.int (nI j))] [] σ := by
    intro d
    induction d with
    | zero =>
      intro j hj
      obtain rfl : j = 10 := by omega
      refine g_il_2 hR dX5_heldSpots_4 ?_
      refine g_bipush_10 hR dX5_heldSpots_5 ?_
      refine g_icmp_ge (tgt := 36) hR dX5_heldSpots_7 (by decide) (fun _ => ?_) (fun hc => absurd (Int32.le_refl _) hc)
      refine g_il_1 hR dX5_heldSpots_36 ?_
      exact hE dX5_heldSpots_37 (rfl) (rfl)
    | succ d ih =>
      intro j hj
      refine g_il_2 hR dX5_heldSpots_4 ?_
      refine g_bipush_10 hR dX5_heldSpots_5 ?_
      refine g_icmp_ge (tgt := 36) hR dX5_heldSpots_7 (by decide) (fun hc => absurd hc (nI_ge (b := 10) (by omega) (by decide))) (fun _ => ?_)
      refine g_il_1 hR dX5_heldSpots_10 ?_
      refine g_al_0 hR dX5_heldSpots_11 ?_
      refine gf_X5_s hR fl_X5_7 dX5_heldSpots_12 ?_
      refine g_bipush_54 hR dX5_heldSpots_15 ?_
      refine g_il_2 hR dX5_heldSpots_17 ?_
      refine g_iadd hR dX5_heldSpots_18 ?_
      refine ga_19 hR (54 + j) (by omega) (nI_add 54 j) dX5_heldSpots_19 ?_
      refine g_if_lt (tgt := 27) hR dX5_heldSpots_20 (by decide) (fun h1 => ?_) (fun h1 => ?_)
      · have := ih (j + 1) (by omega)
        rw [cntN_f (by simp [h1])] at this
        refine g_iconst_0 hR dX5_heldSpots_27 ?_
        refine g_iadd hR dX5_heldSpots_28 ?_
        refine g_top (Int32.add_zero _) ?_
        refine g_is_1 hR dX5_heldSpots_29 trivial ?_
        refine g_inc_2 hR dX5_heldSpots_30 trivial ?_
        refine g_goto (tgt := 4) hR dX5_heldSpots_33 (by decide) ?_
        exact this
      · have := ih (j + 1) (by omega)
        rw [cntN_t (by simp [h1])] at this
        refine g_iconst_1 hR dX5_heldSpots_23 ?_
        refine g_goto (tgt := 28) hR dX5_heldSpots_24 (by decide) ?_
        refine g_iadd hR dX5_heldSpots_28 ?_
        refine g_top (nI_1 _) ?_
        refine g_is_1 hR dX5_heldSpots_29 trivial ?_
        refine g_inc_2 hR dX5_heldSpots_30 trivial ?_
        refine g_goto (tgt := 4) hR dX5_heldSpots_33 (by decide) ?_
        exact this
  refine g_iconst_0 hR dX5_heldSpots_0 ?_
  refine g_is_1 hR dX5_heldSpots_1 trivial ?_
  refine g_iconst_0 hR dX5_heldSpots_2 ?_
  refine g_is_2 hR dX5_heldSpots_3 trivial ?_
  exact lp 10 0 rfl
set_option maxRecDepth 100000 in
set_option maxHeartbeats 4000000 in
theorem cm_count {n : Nat} {d : Int} (a : Int32) (σ : Hp) (hG : Gd (σ 4) n d) : CtI yX5_count wX5_count 3 [.ref 18, .int a] σ (cntV (σ 4) (σ 8 1) (nI (cntN (fun i => decide (¬ σ 4 (54 + i) < 0)) 10)) n a) (if 0 ≤ a ∧ a ≤ 7 then σ else fnd σ 14 0) := by
  refine CtI.of (by decide) (Nat.le_of_ble_eq_true rfl) rfl rfl (fun G hR hE => ?_)
  have hn8 := hG.1
  rcases w07 a with rfl | rfl | rfl | rfl | rfl | rfl | rfl | rfl | ⟨h1, h2⟩
  · refine g_il_1 hR dX5_count_0 ?_
    refine g_tin (off := 47) (tgt := 48) hR dX5_count_1 (by decide) (by decide) (by decide) (by decide) ?_
    refine g_al_0 hR dX5_count_48 ?_
    refine gf_X5_s hR fl_X5_7 dX5_count_49 ?_
    refine g_iconst_0 hR dX5_count_52 ?_
    refine ga_19 hR 0 (by decide) rfl dX5_count_53 ?_
    exact hE dX5_count_54 (rfl) (rfl)
  · refine g_il_1 hR dX5_count_0 ?_
    refine g_tin (off := 54) (tgt := 55) hR dX5_count_1 (by decide) (by decide) (by decide) (by decide) ?_
    refine g_al_0 hR dX5_count_55 ?_
    refine gf_X5_s hR fl_X5_7 dX5_count_56 ?_
    refine g_iconst_1 hR dX5_count_59 ?_
    refine ga_19 hR 1 (by decide) rfl dX5_count_60 ?_
    exact hE dX5_count_61 (rfl) (rfl)
  · refine g_il_1 hR dX5_count_0 ?_
    refine g_tin (off := 61) (tgt := 62) hR dX5_count_1 (by decide) (by decide) (by decide) (by decide) ?_
    refine g_al_0 hR dX5_count_62 ?_
    refine gf_X5_s hR fl_X5_7 dX5_count_63 ?_
    refine g_iconst_2 hR dX5_count_66 ?_
    refine ga_19 hR 2 (by decide) rfl dX5_count_67 ?_
    exact hE dX5_count_68 (rfl) (rfl)
  · refine g_il_1 hR dX5_count_0 ?_
    refine g_tin (off := 68) (tgt := 69) hR dX5_count_1 (by decide) (by decide) (by decide) (by decide) ?_
    refine g_al_0 hR dX5_count_69 ?_
    refine g_iconst_0 hR dX5_count_70 ?_
    refine g_cvI hR ciX5_longFrom dX5_count_71 ml_X5_92 (Nat.le_of_ble_eq_true rfl) (by decide) rfl rfl rfl (em_longFrom (q := 0) (by omega) hn8 σ hG.2.1) rfl (Nat.le_of_ble_eq_true rfl) rfl ?_
    exact hE dX5_count_74 (rfl) (rfl)
  · refine g_il_1 hR dX5_count_0 ?_
    refine g_tin (off := 74) (tgt := 75) hR dX5_count_1 (by decide) (by decide) (by decide) (by decide) ?_
    refine g_al_0 hR dX5_count_75 ?_
    refine gf_X5_s hR fl_X5_7 dX5_count_76 ?_
    refine g_iconst_4 hR dX5_count_79 ?_
    refine ga_19 hR 4 (by decide) rfl dX5_count_80 ?_
    exact hE dX5_count_81 (rfl) (rfl)
  · refine g_il_1 hR dX5_count_0 ?_
    refine g_tin (off := 81) (tgt := 82) hR dX5_count_1 (by decide) (by decide) (by decide) (by decide) ?_
    refine g_al_0 hR dX5_count_82 ?_
    refine gf_X5_taped hR fl_X5_197 dX5_count_83 ?_
    exact hE dX5_count_86 (rfl) (rfl)
  · refine g_il_1 hR dX5_count_0 ?_
    refine g_tin (off := 86) (tgt := 87) hR dX5_count_1 (by decide) (by decide) (by decide) (by decide) ?_
    refine g_al_0 hR dX5_count_87 ?_
    refine gf_X5_s hR fl_X5_7 dX5_count_88 ?_
    refine g_iconst_5 hR dX5_count_91 ?_
    refine ga_19 hR 5 (by decide) rfl dX5_count_92 ?_
    exact hE dX5_count_93 (rfl) (rfl)
  · refine g_il_1 hR dX5_count_0 ?_
    refine g_tin (off := 93) (tgt := 94) hR dX5_count_1 (by decide) (by decide) (by decide) (by decide) ?_
    refine g_al_0 hR dX5_count_94 ?_
    refine g_cvI hR ciX5_heldSpots dX5_count_95 ml_X5_312 (Nat.le_of_ble_eq_true rfl) (by decide) rfl rfl rfl (em_heldSpots σ) rfl (Nat.le_of_ble_eq_true rfl) rfl ?_
    exact hE dX5_count_98 (rfl) (rfl)
  · refine g_il_1 hR dX5_count_0 ?_
    refine g_tout (tgt := 99) hR dX5_count_1 (h2) (by decide) ?_
    refine g_al_0 hR dX5_count_99 ?_
    refine g_ldc hR dX5_count_100 kc_X5_40 ?_
    refine g_cvI hR ciX5_finds dX5_count_102 ml_X5_60 (Nat.le_of_ble_eq_true rfl) (by decide) rfl rfl rfl (cm_f0 σ) rfl (Nat.le_of_ble_eq_true rfl) rfl ?_
    exact hE dX5_count_105 ((cntV_out h1).symm) ((if_neg h1).symm)
set_option maxRecDepth 100000 in
set_option maxHeartbeats 4000000 in
theorem cm_status (a : Int32) (σ : Hp) : CtI yX5_status wX5_status 1 [.ref 18, .int a] σ (if -1 ≤ a ∧ a ≤ 6 then (if a < 0 then sumN (σ 14) 7 else σ 14 a.toNatClampNeg) else -1000001) (if -1 ≤ a ∧ a ≤ 6 then σ else fnd σ 14 0) := by
  refine CtI.of (by decide) (Nat.le_of_ble_eq_true rfl) rfl rfl (fun G hR hE => ?_)
  refine g_il_1 hR dX5_status_0 ?_
  refine g_i2l hR dX5_status_1 ?_
  refine g_ldc2 hR dX5_status_2 kl_X5_315 ?_
  refine g_ldc2 hR dX5_status_5 kl_X5_47 ?_
  refine g_csI hR ciX5_in dX5_status_8 ml_X5_43 (Nat.le_of_ble_eq_true rfl) (ev_in a (-1) 6 rfl rfl σ) rfl (Nat.le_of_ble_eq_true rfl) rfl ?_
  refine g_if_ne (tgt := 21) hR dX5_status_11 (by decide) (fun h => ?_) (fun h => ?_)
  · have hc := bI_no h
    rw [if_pos hc, if_pos hc] at hE
    by_cases h2 : a < 0
    · rw [if_pos h2] at hE
      have lp : ∀ d j, j + d = 7 → G 25 [some (.ref 18), some (.int a), some (.int (sumN (σ 14) j)), some (.int (nI j))] [] σ := by
        intro d
        induction d with
        | zero =>
          intro j hj
          obtain rfl : j = 7 := by omega
          refine g_il_3 hR dX5_status_25 ?_
          refine g_bipush_7 hR dX5_status_26 ?_
          refine g_icmp_ge (tgt := 59) hR dX5_status_28 (by decide) (fun _ => ?_) (fun hc => absurd (Int32.le_refl _) hc)
          refine g_il_2 hR dX5_status_59 ?_
          exact hE dX5_status_60 (rfl) (rfl)
        | succ d ih =>
          intro j hj
          refine g_il_3 hR dX5_status_25 ?_
          refine g_bipush_7 hR dX5_status_26 ?_
          refine g_icmp_ge (tgt := 59) hR dX5_status_28 (by decide) (fun hc => absurd hc (nI_ge (b := 7) (by omega) (by decide))) (fun _ => ?_)
          refine g_il_2 hR dX5_status_31 ?_
          refine g_il_1 hR dX5_status_32 ?_
          refine g_if_lt (tgt := 41) hR dX5_status_33 (by decide) (fun _ => ?_) (fun hc => absurd (h2) hc)
          refine g_al_0 hR dX5_status_41 ?_
          refine gf_X5_statuses hR fl_X5_22 dX5_status_42 ?_
          refine g_il_3 hR dX5_status_45 ?_
          refine ga_23 hR j (by omega) rfl dX5_status_46 ?_
          refine g_goto (tgt := 51) hR dX5_status_47 (by decide) ?_
          refine g_iadd hR dX5_status_51 ?_
          refine g_is_2 hR dX5_status_52 trivial ?_
          refine g_inc_3 hR dX5_status_53 trivial ?_
          refine g_goto (tgt := 25) hR dX5_status_56 (by decide) ?_
          exact ih (j + 1) (by omega)
      refine g_iconst_0 hR dX5_status_21 ?_
      refine g_is_2 hR dX5_status_22 trivial ?_
      refine g_iconst_0 hR dX5_status_23 ?_
      refine g_is_3 hR dX5_status_24 trivial ?_
      exact lp 7 0 rfl
    · rw [if_neg h2] at hE
      obtain ⟨i, hi, rfl⟩ := nle 6 ⟨Int32.not_lt.mp h2, hc.2⟩ (by decide)
      rw [show (nI i).toNatClampNeg = i from nI_clamp (by omega)] at hE
      have lp : ∀ d j, j + d = 7 → G 25 [some (.ref 18), some (.int (nI i)), some (.int (if i < j then σ 14 i else 0)), some (.int (nI j))] [] σ := by
        intro d
        induction d with
        | zero =>
          intro j hj
          obtain rfl : j = 7 := by omega
          rw [if_pos (by omega)]
          refine g_il_3 hR dX5_status_25 ?_
          refine g_bipush_7 hR dX5_status_26 ?_
          refine g_icmp_ge (tgt := 59) hR dX5_status_28 (by decide) (fun _ => ?_) (fun hc => absurd (Int32.le_refl _) hc)
          refine g_il_2 hR dX5_status_59 ?_
          exact hE dX5_status_60 (rfl) (rfl)
        | succ d ih =>
          intro j hj
          have e0 := ih (j + 1) (by omega)
          refine g_il_3 hR dX5_status_25 ?_
          refine g_bipush_7 hR dX5_status_26 ?_
          refine g_icmp_ge (tgt := 59) hR dX5_status_28 (by decide) (fun hc => absurd hc (nI_ge (b := 7) (by omega) (by decide))) (fun _ => ?_)
          refine g_il_2 hR dX5_status_31 ?_
          refine g_il_1 hR dX5_status_32 ?_
          refine g_if_lt (tgt := 41) hR dX5_status_33 (by decide) (fun hc => absurd hc (h2)) (fun _ => ?_)
          refine g_il_3 hR dX5_status_36 ?_
          refine g_il_1 hR dX5_status_37 ?_
          refine g_icmp_ne (tgt := 50) hR dX5_status_38 (by decide) (fun h3 => ?_) (fun h3 => ?_)
          · have h4 : ¬ j = i := fun e => h3 (by rw [e])
            rw [show (if i < j + 1 then σ 14 i else 0) = (if i < j then σ 14 i else 0) by by_cases q : i < j <;> simp [q] <;> omega] at e0
            refine g_iconst_0 hR dX5_status_50 ?_
            refine g_iadd hR dX5_status_51 ?_
            refine g_top (Int32.add_zero _) ?_
            refine g_is_2 hR dX5_status_52 trivial ?_
            refine g_inc_3 hR dX5_status_53 trivial ?_
            refine g_goto (tgt := 25) hR dX5_status_56 (by decide) ?_
            exact e0
          · have h4 : j = i := (nI_eq (by omega) (by omega)).mp h3
            subst h4
            rw [if_pos (by omega)] at e0
            rw [if_neg (by omega)]
            refine g_al_0 hR dX5_status_41 ?_
            refine gf_X5_statuses hR fl_X5_22 dX5_status_42 ?_
            refine g_il_3 hR dX5_status_45 ?_
            refine ga_23 hR j (by omega) rfl dX5_status_46 ?_
            refine g_goto (tgt := 51) hR dX5_status_47 (by decide) ?_
            refine g_iadd hR dX5_status_51 ?_
            refine g_top (Int32.zero_add _) ?_
            refine g_is_2 hR dX5_status_52 trivial ?_
            refine g_inc_3 hR dX5_status_53 trivial ?_
            refine g_goto (tgt := 25) hR dX5_status_56 (by decide) ?_
            exact e0
      refine g_iconst_0 hR dX5_status_21 ?_
      refine g_is_2 hR dX5_status_22 trivial ?_
      refine g_iconst_0 hR dX5_status_23 ?_
      refine g_is_3 hR dX5_status_24 trivial ?_
      exact lp 7 0 rfl
  · refine g_al_0 hR dX5_status_14 ?_
    refine g_ldc hR dX5_status_15 kc_X5_40 ?_
    refine g_cvI hR ciX5_finds dX5_status_17 ml_X5_60 (Nat.le_of_ble_eq_true rfl) (by decide) rfl rfl rfl (cm_f0 σ) rfl (Nat.le_of_ble_eq_true rfl) rfl ?_
    exact hE dX5_status_20 ((if_neg (bI_0.mp h)).symm) ((if_neg (bI_0.mp h)).symm)
