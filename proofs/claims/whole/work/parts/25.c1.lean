set_option maxRecDepth 100000 in
set_option maxHeartbeats 4000000 in
theorem cx_finding {j : Nat} (hj : j < 7) (f : Int32) (hf : -1000001 - f = nI j) (σ : Hp) : CtI yX4_finding wX4_finding 0 [.ref 0, .int f] σ (f) (fnd σ 13 j) := by
  refine CtI.of (by decide) (Nat.le_of_ble_eq_true rfl) rfl rfl (fun G hR hE => ?_)
  refine g_ldc hR dX4_finding_0 kc_X4_57 ?_
  refine g_il_1 hR dX4_finding_2 ?_
  refine g_isub hR dX4_finding_3 ?_
  refine g_top hf ?_
  refine g_is_2 hR dX4_finding_4 trivial ?_
  refine g_il_2 hR dX4_finding_5 ?_
  refine g_if_lt (tgt := 25) hR dX4_finding_6 (by decide) (fun hc => absurd hc (nI_pos (by omega))) (fun _ => ?_)
  refine g_il_2 hR dX4_finding_9 ?_
  refine g_bipush_7 hR dX4_finding_10 ?_
  refine g_icmp_ge (tgt := 25) hR dX4_finding_12 (by decide) (fun hc => absurd hc (nI_ge (b := 7) hj (by decide))) (fun _ => ?_)
  refine g_al_0 hR dX4_finding_15 ?_
  refine gf_X4_findingsTold hR fl_X4_49 dX4_finding_16 ?_
  refine g_il_2 hR dX4_finding_19 ?_
  refine g_dup2 hR dX4_finding_20 rfl rfl ?_
  refine ga_17 hR j hj rfl dX4_finding_21 ?_
  refine g_iconst_1 hR dX4_finding_22 ?_
  refine g_iadd hR dX4_finding_23 ?_
  refine gs_17 hR j hj rfl dX4_finding_24 ?_
  refine g_il_1 hR dX4_finding_25 ?_
  exact hE dX4_finding_26 (rfl) (rfl)
theorem cx_f0 (σ : Hp) : CtI yX4_finding wX4_finding 0 [.ref 0, .int (-1000001)] σ (-1000001) (fnd σ 13 0) := cx_finding (by decide) _ fd0 σ
theorem cx_f1 (σ : Hp) : CtI yX4_finding wX4_finding 0 [.ref 0, .int (-1000002)] σ (-1000002) (fnd σ 13 1) := cx_finding (by decide) _ fd1 σ
theorem cx_f2 (σ : Hp) : CtI yX4_finding wX4_finding 0 [.ref 0, .int (-1000003)] σ (-1000003) (fnd σ 13 2) := cx_finding (by decide) _ fd2 σ
theorem cx_f3 (σ : Hp) : CtI yX4_finding wX4_finding 0 [.ref 0, .int (-1000004)] σ (-1000004) (fnd σ 13 3) := cx_finding (by decide) _ fd3 σ
theorem cx_f4 (σ : Hp) : CtI yX4_finding wX4_finding 0 [.ref 0, .int (-1000005)] σ (-1000005) (fnd σ 13 4) := cx_finding (by decide) _ fd4 σ
theorem cx_f5 (σ : Hp) : CtI yX4_finding wX4_finding 0 [.ref 0, .int (-1000006)] σ (-1000006) (fnd σ 13 5) := cx_finding (by decide) _ fd5 σ
theorem cx_f6 (σ : Hp) : CtI yX4_finding wX4_finding 0 [.ref 0, .int (-1000007)] σ (-1000007) (fnd σ 13 6) := cx_finding (by decide) _ fd6 σ
set_option maxRecDepth 100000 in
set_option maxHeartbeats 4000000 in
theorem cx_ball (a : Int32) (σ : Hp) : CtI yX4_ball wX4_ball 2 [.ref 0, .int a] σ (if 0 ≤ a ∧ a ≤ 11 then σ 0 2 else -1000001) (if 0 ≤ a ∧ a ≤ 11 then bset σ 0 (upd (σ 0) 2 a) else fnd σ 13 0) := by
  refine CtI.of (by decide) (Nat.le_of_ble_eq_true rfl) rfl rfl (fun G hR hE => ?_)
  refine g_il_1 hR dX4_ball_0 ?_
  refine g_csI hR ciX4_isPlace dX4_ball_1 ml_X4_53 (Nat.le_of_ble_eq_true rfl) (ev_isPlace a σ) rfl (Nat.le_of_ble_eq_true rfl) rfl ?_
  refine g_if_ne (tgt := 14) hR dX4_ball_4 (by decide) (fun h => ?_) (fun h => ?_)
  · refine g_al_0 hR dX4_ball_14 ?_
    refine gf_X4_current hR fl_X4_12 dX4_ball_15 ?_
    refine gf_X3_at hR z0 fl_X4_62 dX4_ball_18 ?_
    refine g_is_2 hR dX4_ball_21 trivial ?_
    refine g_al_0 hR dX4_ball_22 ?_
    refine gf_X4_current hR fl_X4_12 dX4_ball_23 ?_
    refine g_il_1 hR dX4_ball_26 ?_
    refine pf_X3_at hR z0 fl_X4_62 dX4_ball_27 ?_
    refine g_il_2 hR dX4_ball_30 ?_
    exact hE dX4_ball_31 ((if_pos (bI_no h)).symm) ((if_pos (bI_no h)).symm)
  · refine g_al_0 hR dX4_ball_7 ?_
    refine g_ldc hR dX4_ball_8 kc_X4_57 ?_
    refine g_cvI hR ciX4_finding dX4_ball_10 ml_X4_58 (Nat.le_of_ble_eq_true rfl) (by decide) rfl rfl rfl (cx_f0 σ) rfl (Nat.le_of_ble_eq_true rfl) rfl ?_
    exact hE dX4_ball_13 ((if_neg (bI_0.mp h)).symm) ((if_neg (bI_0.mp h)).symm)
set_option maxRecDepth 100000 in
set_option maxHeartbeats 4000000 in
theorem cx_drag (a : Int32) (σ : Hp) : CtI yX4_drag wX4_drag 1 [.ref 0, .int a] σ (if 0 ≤ a ∧ a ≤ 99 then σ 0 3 else -1000001) (if 0 ≤ a ∧ a ≤ 99 then bset σ 0 (upd (σ 0) 3 a) else fnd σ 13 0) := by
  refine CtI.of (by decide) (Nat.le_of_ble_eq_true rfl) rfl rfl (fun G hR hE => ?_)
  refine g_il_1 hR dX4_drag_0 ?_
  refine g_iconst_0 hR dX4_drag_1 ?_
  refine g_bipush_99 hR dX4_drag_2 ?_
  refine g_csI hR ciX4_isWithin dX4_drag_4 ml_X4_66 (Nat.le_of_ble_eq_true rfl) (ev_isWithin a 0 99 σ) rfl (Nat.le_of_ble_eq_true rfl) rfl ?_
  refine g_if_ne (tgt := 17) hR dX4_drag_7 (by decide) (fun h => ?_) (fun h => ?_)
  · refine g_al_0 hR dX4_drag_17 ?_
    refine gf_X4_current hR fl_X4_12 dX4_drag_18 ?_
    refine gf_X3_drag hR z0 fl_X4_70 dX4_drag_21 ?_
    refine g_is_2 hR dX4_drag_24 trivial ?_
    refine g_al_0 hR dX4_drag_25 ?_
    refine gf_X4_current hR fl_X4_12 dX4_drag_26 ?_
    refine g_il_1 hR dX4_drag_29 ?_
    refine pf_X3_drag hR z0 fl_X4_70 dX4_drag_30 ?_
    refine g_il_2 hR dX4_drag_33 ?_
    exact hE dX4_drag_34 ((if_pos (bI_no h)).symm) ((if_pos (bI_no h)).symm)
  · refine g_al_0 hR dX4_drag_10 ?_
    refine g_ldc hR dX4_drag_11 kc_X4_57 ?_
    refine g_cvI hR ciX4_finding dX4_drag_13 ml_X4_58 (Nat.le_of_ble_eq_true rfl) (by decide) rfl rfl rfl (cx_f0 σ) rfl (Nat.le_of_ble_eq_true rfl) rfl ?_
    exact hE dX4_drag_16 ((if_neg (bI_0.mp h)).symm) ((if_neg (bI_0.mp h)).symm)
set_option maxRecDepth 100000 in
set_option maxHeartbeats 4000000 in
theorem cx_wind {n : Nat} (a b : Int32) (σ : Hp) (hn8 : n ≤ 8) (hn : σ 0 1 = nI n) : CtI yX4_wind wX4_wind 2 [.ref 0, .int a, .int b] σ (if (0 ≤ a ∧ a ≤ 6) ∧ 0 ≤ b ∧ b ≤ 11 then (if n = 8 then -1000002 else nI n) else -1000001) (if (0 ≤ a ∧ a ≤ 6) ∧ 0 ≤ b ∧ b ≤ 11 then (if n = 8 then fnd σ 13 1 else bset σ 0 (addS (σ 0) n a b)) else fnd σ 13 0) := by
  refine CtI.of (by decide) (Nat.le_of_ble_eq_true rfl) rfl rfl (fun G hR hE => ?_)
  have bad : ¬ ((0 ≤ a ∧ a ≤ 6) ∧ 0 ≤ b ∧ b ≤ 11) → G 14 [some (.ref 0), some (.int a), some (.int b)] [] σ := by
    intro h
    refine g_al_0 hR dX4_wind_14 ?_
    refine g_ldc hR dX4_wind_15 kc_X4_57 ?_
    refine g_cvI hR ciX4_finding dX4_wind_17 ml_X4_58 (Nat.le_of_ble_eq_true rfl) (by decide) rfl rfl rfl (cx_f0 σ) rfl (Nat.le_of_ble_eq_true rfl) rfl ?_
    exact hE dX4_wind_20 ((if_neg h).symm) ((if_neg h).symm)
  refine g_il_1 hR dX4_wind_0 ?_
  refine g_csI hR ciX4_isKind dX4_wind_1 ml_X4_73 (Nat.le_of_ble_eq_true rfl) (ev_isKind a σ) rfl (Nat.le_of_ble_eq_true rfl) rfl ?_
  refine g_if_eq (tgt := 14) hR dX4_wind_4 (by decide) (fun h => ?_) (fun h => ?_)
  · exact bad (fun q => bI_0.mp h q.1)
  · refine g_il_2 hR dX4_wind_7 ?_
    refine g_csI hR ciX4_isPlace dX4_wind_8 ml_X4_53 (Nat.le_of_ble_eq_true rfl) (ev_isPlace b σ) rfl (Nat.le_of_ble_eq_true rfl) rfl ?_
    refine g_if_ne (tgt := 21) hR dX4_wind_11 (by decide) (fun h2 => ?_) (fun h2 => ?_)
    · have hc := And.intro (bI_no h) (bI_no h2)
      rw [if_pos hc, if_pos hc] at hE
      refine g_al_0 hR dX4_wind_21 ?_
      refine gf_X4_current hR fl_X4_12 dX4_wind_22 ?_
      refine g_cvI hR ciX3_isFull dX4_wind_25 ml_X4_76 (Nat.le_of_ble_eq_true rfl) (by omega) (lay_w z0) rfl rfl (ev_isFull (k := 0) z0 σ) rfl (Nat.le_of_ble_eq_true rfl) rfl ?_
      refine g_if_eq (tgt := 38) hR dX4_wind_28 (by decide) (fun h3 => ?_) (fun h3 => ?_)
      · have h8 : ¬ n = 8 := by rintro rfl; exact bI_0.mp h3 (by rw [hn]; exact Int32.le_refl _)
        rw [if_neg h8, if_neg h8] at hE
        refine g_al_0 hR dX4_wind_38 ?_
        refine gf_X4_current hR fl_X4_12 dX4_wind_39 ?_
        refine g_il_1 hR dX4_wind_42 ?_
        refine g_il_2 hR dX4_wind_43 ?_
        refine g_cvI hR ciX3_addPiece dX4_wind_44 ml_X4_81 (Nat.le_of_ble_eq_true rfl) (by omega) (lay_w z0) rfl rfl (ev_addPiece (k := 0) (n := n) z0 (by omega) a b σ hn) rfl (Nat.le_of_ble_eq_true rfl) rfl ?_
        exact hE dX4_wind_47 (rfl) (rfl)
      · have h8 : n = 8 := by have := bI_no h3; rw [hn, i_le, i_n (by omega)] at this; have e8 : (8 : Int32).toInt = 8 := rfl; omega
        rw [if_pos h8, if_pos h8] at hE
        refine g_al_0 hR dX4_wind_31 ?_
        refine g_ldc hR dX4_wind_32 kc_X4_80 ?_
        refine g_cvI hR ciX4_finding dX4_wind_34 ml_X4_58 (Nat.le_of_ble_eq_true rfl) (by decide) rfl rfl rfl (cx_f1 σ) rfl (Nat.le_of_ble_eq_true rfl) rfl ?_
        exact hE dX4_wind_37 (rfl) (rfl)
    · exact bad (fun q => bI_0.mp h2 q.2)
set_option maxRecDepth 100000 in
set_option maxHeartbeats 4000000 in
theorem cx_of {n : Nat} {d : Int} (a b : Int32) (σ : Hp) (hG : Gd (σ 0) n d) (hd : d < 1000000) : CtI yX4_of wX4_of 4 [.ref 0, .int a, .int b] σ (if (0 ≤ a ∧ a < σ 0 1) ∧ 0 ≤ b ∧ b ≤ 9 then ofV (σ 0) n a b else -1000001) (if (0 ≤ a ∧ a < σ 0 1) ∧ 0 ≤ b ∧ b ≤ 9 then σ else fnd σ 13 0) := by
  refine CtI.of (by decide) (Nat.le_of_ble_eq_true rfl) rfl rfl (fun G hR hE => ?_)
  have hn8 := hG.1
  have bad : ¬ ((0 ≤ a ∧ a < σ 0 1) ∧ 0 ≤ b ∧ b ≤ 9) → G 21 [some (.ref 0), some (.int a), some (.int b)] [] σ := by
    intro h
    refine g_al_0 hR dX4_of_21 ?_
    refine g_ldc hR dX4_of_22 kc_X4_57 ?_
    refine g_cvI hR ciX4_finding dX4_of_24 ml_X4_58 (Nat.le_of_ble_eq_true rfl) (by decide) rfl rfl rfl (cx_f0 σ) rfl (Nat.le_of_ble_eq_true rfl) rfl ?_
    exact hE dX4_of_27 ((if_neg h).symm) ((if_neg h).symm)
  refine g_al_0 hR dX4_of_0 ?_
  refine gf_X4_current hR fl_X4_12 dX4_of_1 ?_
  refine g_il_1 hR dX4_of_4 ?_
  refine g_cvI hR ciX3_hasPiece dX4_of_5 ml_X4_85 (Nat.le_of_ble_eq_true rfl) (by omega) (lay_w z0) rfl rfl (ev_hasPiece (k := 0) z0 a σ) rfl (Nat.le_of_ble_eq_true rfl) rfl ?_
  refine g_if_eq (tgt := 21) hR dX4_of_8 (by decide) (fun h => ?_) (fun h => ?_)
  · exact bad (fun q => bI_0.mp h q.1)
  · refine g_il_2 hR dX4_of_11 ?_
    refine g_iconst_0 hR dX4_of_12 ?_
    refine g_bipush_9 hR dX4_of_13 ?_
    refine g_csI hR ciX4_isWithin dX4_of_15 ml_X4_66 (Nat.le_of_ble_eq_true rfl) (ev_isWithin b 0 9 σ) rfl (Nat.le_of_ble_eq_true rfl) rfl ?_
    refine g_if_ne (tgt := 28) hR dX4_of_18 (by decide) (fun h2 => ?_) (fun h2 => ?_)
    · have hc := And.intro (bI_no h) (bI_no h2)
      rw [if_pos hc, if_pos hc] at hE
      obtain ⟨p, hp, rfl⟩ := nlt (n := n) (by rw [← hG.2.1]; exact hc.1) (by omega)
      obtain ⟨w, hw, rfl⟩ := nle 9 hc.2 (by decide)
      have ec : (nI p).toNatClampNeg = p := nI_clamp (by omega)
      unfold ofV at hE
      rw [ec] at hE
      rcases (show w < 6 ∨ w = 6 ∨ w = 7 ∨ w = 8 ∨ w = 9 by omega) with h6 | rfl | rfl | rfl | rfl
      · have n6 : ∀ m, 6 ≤ m → m < 1000 → ¬ nI w = nI m := fun m h1 h2 e => by rw [nI_eq (by omega) (by omega)] at e; omega
        rw [if_neg (show ¬ nI w = 6 from n6 6 (by decide) (by decide)), if_neg (show ¬ nI w = 7 from n6 7 (by decide) (by decide)), if_neg (show ¬ nI w = 8 from n6 8 (by decide) (by decide)), if_neg (show ¬ nI w = 9 from n6 9 (by decide) (by decide)), nI_clamp (by omega)] at hE
        refine g_al_0 hR dX4_of_28 ?_
        refine gf_X4_current hR fl_X4_12 dX4_of_29 ?_
        refine g_il_1 hR dX4_of_32 ?_
        refine g_il_2 hR dX4_of_33 ?_
        refine g_cvI hR ciX3_tell dX4_of_34 ml_X4_88 (Nat.le_of_ble_eq_true rfl) (by omega) (lay_w z0) rfl rfl (ev_tell0 (k := 0) z0 (show p < 8 by omega) h6 σ) rfl (Nat.le_of_ble_eq_true rfl) rfl ?_
        exact hE dX4_of_37 (rfl) (rfl)
      · refine g_al_0 hR dX4_of_28 ?_
        refine gf_X4_current hR fl_X4_12 dX4_of_29 ?_
        refine g_il_1 hR dX4_of_32 ?_
        refine g_il_2 hR dX4_of_33 ?_
        refine g_cvI hR ciX3_tell dX4_of_34 ml_X4_88 (Nat.le_of_ble_eq_true rfl) (by omega) (lay_w z0) rfl rfl (ev_tell6 (k := 0) z0 (show p < 8 by omega) σ hG hd) rfl (Nat.le_of_ble_eq_true rfl) rfl ?_
        exact hE dX4_of_37 (rfl) (rfl)
      · refine g_al_0 hR dX4_of_28 ?_
        refine gf_X4_current hR fl_X4_12 dX4_of_29 ?_
        refine g_il_1 hR dX4_of_32 ?_
        refine g_il_2 hR dX4_of_33 ?_
        refine g_cvI hR ciX3_tell dX4_of_34 ml_X4_88 (Nat.le_of_ble_eq_true rfl) (by omega) (lay_w z0) rfl rfl (ev_tell7 (k := 0) z0 (show p < 8 by omega) σ) rfl (Nat.le_of_ble_eq_true rfl) rfl ?_
        exact hE dX4_of_37 (rfl) (rfl)
      · refine g_al_0 hR dX4_of_28 ?_
        refine gf_X4_current hR fl_X4_12 dX4_of_29 ?_
        refine g_il_1 hR dX4_of_32 ?_
        refine g_il_2 hR dX4_of_33 ?_
        refine g_cvI hR ciX3_tell dX4_of_34 ml_X4_88 (Nat.le_of_ble_eq_true rfl) (by omega) (lay_w z0) rfl rfl (ev_tell8 (k := 0) z0 hp σ hG) rfl (Nat.le_of_ble_eq_true rfl) rfl ?_
        exact hE dX4_of_37 (rfl) (rfl)
      · refine g_al_0 hR dX4_of_28 ?_
        refine gf_X4_current hR fl_X4_12 dX4_of_29 ?_
        refine g_il_1 hR dX4_of_32 ?_
        refine g_il_2 hR dX4_of_33 ?_
        refine g_cvI hR ciX3_tell dX4_of_34 ml_X4_88 (Nat.le_of_ble_eq_true rfl) (by omega) (lay_w z0) rfl rfl (ev_tell9 (k := 0) z0 hp σ hG hd) rfl (Nat.le_of_ble_eq_true rfl) rfl ?_
        exact hE dX4_of_37 (rfl) (rfl)
    · exact bad (fun q => bI_0.mp h2 q.2)
