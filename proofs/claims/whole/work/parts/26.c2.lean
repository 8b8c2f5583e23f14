set_option maxRecDepth 100000 in
set_option maxHeartbeats 4000000 in
theorem cx_change {n : Nat} {d : Int} (a b v : Int32) (σ : Hp) (hG : Gd (σ 0) n d) : CtI yX4_change wX4_change 2 [.ref 0, .int a, .int b, .int v] σ (if (0 ≤ a ∧ a < σ 0 1) ∧ (0 ≤ b ∧ b ≤ 5) ∧ flT b.toNatClampNeg ≤ v ∧ v ≤ fmT b.toNatClampNeg then pf (σ 0) a.toNatClampNeg b.toNatClampNeg else -1000001) (if (0 ≤ a ∧ a < σ 0 1) ∧ (0 ≤ b ∧ b ≤ 5) ∧ flT b.toNatClampNeg ≤ v ∧ v ≤ fmT b.toNatClampNeg then bset σ 0 (pset (σ 0) a.toNatClampNeg b.toNatClampNeg v) else fnd σ 13 0) := by
  refine CtI.of (by decide) (Nat.le_of_ble_eq_true rfl) rfl rfl (fun G hR hE => ?_)
  have hn8 := hG.1
  have bad : ¬ ((0 ≤ a ∧ a < σ 0 1) ∧ (0 ≤ b ∧ b ≤ 5) ∧ flT b.toNatClampNeg ≤ v ∧ v ≤ fmT b.toNatClampNeg) → G 19 [some (.ref 0), some (.int a), some (.int b), some (.int v), none] [] σ := by
    intro h
    refine g_al_0 hR dX4_change_19 ?_
    refine g_ldc hR dX4_change_20 kc_X4_57 ?_
    refine g_cvI hR ciX4_finding dX4_change_22 ml_X4_58 (Nat.le_of_ble_eq_true rfl) (by decide) rfl rfl rfl (cx_f0 σ) rfl (Nat.le_of_ble_eq_true rfl) rfl ?_
    exact hE dX4_change_25 ((if_neg h).symm) ((if_neg h).symm)
  by_cases hb : 0 ≤ b ∧ b ≤ 5
  · obtain ⟨w, hw, rfl⟩ := nle 5 hb (by decide)
    have ew : (nI w).toNatClampNeg = w := nI_clamp (by omega)
    rw [ew] at hE bad
    refine g_al_0 hR dX4_change_0 ?_
    refine gf_X4_current hR fl_X4_12 dX4_change_1 ?_
    refine g_il_1 hR dX4_change_4 ?_
    refine g_cvI hR ciX3_hasPiece dX4_change_5 ml_X4_85 (Nat.le_of_ble_eq_true rfl) (by omega) (lay_w z0) rfl rfl (ev_hasPiece (k := 0) z0 a σ) rfl (Nat.le_of_ble_eq_true rfl) rfl ?_
    refine g_if_eq (tgt := 19) hR dX4_change_8 (by decide) (fun h => ?_) (fun h => ?_)
    · exact bad (fun q => bI_0.mp h q.1)
    · refine g_il_2 hR dX4_change_11 ?_
      refine g_il_3 hR dX4_change_12 ?_
      refine g_csI hR ciX4_isFactValue dX4_change_13 ml_X4_91 (Nat.le_of_ble_eq_true rfl) (ev_isFV w v (by omega) σ) rfl (Nat.le_of_ble_eq_true rfl) rfl ?_
      refine g_if_ne (tgt := 26) hR dX4_change_16 (by decide) (fun h2 => ?_) (fun h2 => ?_)
      · have hc := And.intro (bI_no h) (And.intro hb (bI_no h2))
        rw [if_pos hc, if_pos hc] at hE
        obtain ⟨p, hp, rfl⟩ := nlt (n := n) (by rw [← hG.2.1]; exact hc.1) (by omega)
        have ec : (nI p).toNatClampNeg = p := nI_clamp (by omega)
        rw [ec] at hE
        refine g_al_0 hR dX4_change_26 ?_
        refine gf_X4_current hR fl_X4_12 dX4_change_27 ?_
        refine g_il_1 hR dX4_change_30 ?_
        refine g_il_2 hR dX4_change_31 ?_
        refine g_cvI hR ciX3_fact dX4_change_32 ml_X4_95 (Nat.le_of_ble_eq_true rfl) (by omega) (lay_w z0) rfl rfl (ev_fact (k := 0) (p := p) (w := w) z0 (by omega) (by omega) σ) rfl (Nat.le_of_ble_eq_true rfl) rfl ?_
        refine g_is_4 hR dX4_change_35 trivial ?_
        refine g_al_0 hR dX4_change_37 ?_
        refine gf_X4_current hR fl_X4_12 dX4_change_38 ?_
        refine g_il_1 hR dX4_change_41 ?_
        refine g_il_2 hR dX4_change_42 ?_
        refine g_il_3 hR dX4_change_43 ?_
        refine g_cvV hR ciX3_setFact dX4_change_44 ml_X4_98 (Nat.le_of_ble_eq_true rfl) (by omega) (lay_w z0) rfl rfl (ev_setFact (k := 0) (p := p) (w := w) z0 (by omega) (by omega) v σ) rfl (Nat.le_of_ble_eq_true rfl) rfl ?_
        refine g_il_4 hR dX4_change_47 ?_
        exact hE dX4_change_49 (rfl) (rfl)
      · exact bad (fun q => bI_0.mp h2 q.2.2)
  · refine g_al_0 hR dX4_change_0 ?_
    refine gf_X4_current hR fl_X4_12 dX4_change_1 ?_
    refine g_il_1 hR dX4_change_4 ?_
    refine g_cvI hR ciX3_hasPiece dX4_change_5 ml_X4_85 (Nat.le_of_ble_eq_true rfl) (by omega) (lay_w z0) rfl rfl (ev_hasPiece (k := 0) z0 a σ) rfl (Nat.le_of_ble_eq_true rfl) rfl ?_
    refine g_if_eq (tgt := 19) hR dX4_change_8 (by decide) (fun h => ?_) (fun h => ?_)
    · exact bad (fun q => hb q.2.1)
    · refine g_il_2 hR dX4_change_11 ?_
      refine g_il_3 hR dX4_change_12 ?_
      refine g_csI hR ciX4_isFactValue dX4_change_13 ml_X4_91 (Nat.le_of_ble_eq_true rfl) (ev_isFV_out b v hb σ) rfl (Nat.le_of_ble_eq_true rfl) rfl ?_
      refine g_if_ne (tgt := 26) hR dX4_change_16 (by decide) (fun hc => absurd ((show (0 : Int32) = 0 from rfl)) hc) (fun _ => ?_)
      exact bad (fun q => hb q.2.1)
set_option maxRecDepth 100000 in
set_option maxHeartbeats 4000000 in
theorem cx_lend {n : Nat} {d : Int} (a : Int32) (σ : Hp) (hG : Gd (σ 0) n d) : CtI yX4_lend wX4_lend 2 [.ref 0, .int a] σ (if 1 ≤ a ∧ a ≤ 99 then (if n = 0 then -1000005 else pf (σ 0) (n - 1) 2) else -1000001) (if 1 ≤ a ∧ a ≤ 99 then (if n = 0 then fnd σ 13 4 else bset σ 0 (cutS (σ 0) (n - 1) a)) else fnd σ 13 0) := by
  refine CtI.of (by decide) (Nat.le_of_ble_eq_true rfl) rfl rfl (fun G hR hE => ?_)
  have hn8 := hG.1
  refine g_il_1 hR dX4_lend_0 ?_
  refine g_iconst_1 hR dX4_lend_1 ?_
  refine g_bipush_99 hR dX4_lend_2 ?_
  refine g_csI hR ciX4_isWithin dX4_lend_4 ml_X4_66 (Nat.le_of_ble_eq_true rfl) (ev_isWithin a 1 99 σ) rfl (Nat.le_of_ble_eq_true rfl) rfl ?_
  refine g_if_ne (tgt := 17) hR dX4_lend_7 (by decide) (fun h => ?_) (fun h => ?_)
  · rw [if_pos (bI_no h), if_pos (bI_no h)] at hE
    refine g_al_0 hR dX4_lend_17 ?_
    refine gf_X4_current hR fl_X4_12 dX4_lend_18 ?_
    refine gf_X3_pieceCount hR z0 fl_X4_102 dX4_lend_21 ?_
    refine g_top hG.2.1 ?_
    cases n with
    | zero =>
      rw [if_pos rfl, if_pos rfl] at hE
      refine g_if_ne (tgt := 34) hR dX4_lend_24 (by decide) (fun hc => absurd (rfl) hc) (fun _ => ?_)
      refine g_al_0 hR dX4_lend_27 ?_
      refine g_ldc hR dX4_lend_28 kc_X4_105 ?_
      refine g_cvI hR ciX4_finding dX4_lend_30 ml_X4_58 (Nat.le_of_ble_eq_true rfl) (by decide) rfl rfl rfl (cx_f4 σ) rfl (Nat.le_of_ble_eq_true rfl) rfl ?_
      exact hE dX4_lend_33 (rfl) (rfl)
    | succ m =>
      rw [if_neg (by omega), if_neg (by omega), show m + 1 - 1 = m by omega] at hE
      refine g_if_ne (tgt := 34) hR dX4_lend_24 (by decide) (fun _ => ?_) (fun hc => absurd hc (nI_ne0 (by omega) (by omega)))
      refine g_al_0 hR dX4_lend_34 ?_
      refine gf_X4_current hR fl_X4_12 dX4_lend_35 ?_
      refine g_il_1 hR dX4_lend_38 ?_
      refine g_cvI hR ciX3_cutOutermost dX4_lend_39 ml_X4_106 (Nat.le_of_ble_eq_true rfl) (by omega) (lay_w z0) rfl rfl (ev_cut (k := 0) (n := m) z0 (by omega) a σ hG.2.1) rfl (Nat.le_of_ble_eq_true rfl) rfl ?_
      exact hE dX4_lend_42 (rfl) (rfl)
  · refine g_al_0 hR dX4_lend_10 ?_
    refine g_ldc hR dX4_lend_11 kc_X4_57 ?_
    refine g_cvI hR ciX4_finding dX4_lend_13 ml_X4_58 (Nat.le_of_ble_eq_true rfl) (by decide) rfl rfl rfl (cx_f0 σ) rfl (Nat.le_of_ble_eq_true rfl) rfl ?_
    exact hE dX4_lend_16 ((if_neg (bI_0.mp h)).symm) ((if_neg (bI_0.mp h)).symm)
set_option maxRecDepth 100000 in
set_option maxHeartbeats 4000000 in
theorem cx_felt {n : Nat} {d : Int} (a : Int32) (σ : Hp) (hG : Gd (σ 0) n d) (hd : d < 1000000) : CtI yX4_felt wX4_felt 5 [.ref 0, .int a] σ (if 0 ≤ a ∧ a ≤ 11 then tooF (σ 0) n a else -1000001) (if 0 ≤ a ∧ a ≤ 11 then σ else fnd σ 13 0) := by
  refine CtI.of (by decide) (Nat.le_of_ble_eq_true rfl) rfl rfl (fun G hR hE => ?_)
  refine g_il_1 hR dX4_felt_0 ?_
  refine g_csI hR ciX4_isPlace dX4_felt_1 ml_X4_53 (Nat.le_of_ble_eq_true rfl) (ev_isPlace a σ) rfl (Nat.le_of_ble_eq_true rfl) rfl ?_
  refine g_if_ne (tgt := 14) hR dX4_felt_4 (by decide) (fun h => ?_) (fun h => ?_)
  · refine g_al_0 hR dX4_felt_14 ?_
    refine gf_X4_current hR fl_X4_12 dX4_felt_15 ?_
    refine g_il_1 hR dX4_felt_18 ?_
    refine g_cvI hR ciX3_feltTo dX4_felt_19 ml_X4_109 (Nat.le_of_ble_eq_true rfl) (by omega) (lay_w z0) rfl rfl (ev_feltTo (k := 0) z0 a σ hG hd) rfl (Nat.le_of_ble_eq_true rfl) rfl ?_
    exact hE dX4_felt_22 ((if_pos (bI_no h)).symm) ((if_pos (bI_no h)).symm)
  · refine g_al_0 hR dX4_felt_7 ?_
    refine g_ldc hR dX4_felt_8 kc_X4_57 ?_
    refine g_cvI hR ciX4_finding dX4_felt_10 ml_X4_58 (Nat.le_of_ble_eq_true rfl) (by decide) rfl rfl rfl (cx_f0 σ) rfl (Nat.le_of_ble_eq_true rfl) rfl ?_
    exact hE dX4_felt_13 ((if_neg (bI_0.mp h)).symm) ((if_neg (bI_0.mp h)).symm)
set_option maxRecDepth 100000 in
set_option maxHeartbeats 4000000 in
theorem cx_go {n : Nat} {d : Int} (a : Int32) (σ : Hp) (hG : Gd (σ 0) n d) (hd : d ≤ 40000) : CtI yX4_go wX4_go 6 [.ref 0, .int a] σ (if 1 ≤ a ∧ a ≤ 60 then daysF (σ 0) n a.toNatClampNeg 2 else -1000001) (if 1 ≤ a ∧ a ≤ 60 then daysT σ 0 n a.toNatClampNeg else fnd σ 13 0) := by
  refine CtI.of (by decide) (Nat.le_of_ble_eq_true rfl) rfl rfl (fun G hR hE => ?_)
  refine g_il_1 hR dX4_go_0 ?_
  refine g_iconst_1 hR dX4_go_1 ?_
  refine g_bipush_60 hR dX4_go_2 ?_
  refine g_csI hR ciX4_isWithin dX4_go_4 ml_X4_66 (Nat.le_of_ble_eq_true rfl) (ev_isWithin a 1 60 σ) rfl (Nat.le_of_ble_eq_true rfl) rfl ?_
  refine g_if_ne (tgt := 17) hR dX4_go_7 (by decide) (fun h => ?_) (fun h => ?_)
  · have hc := bI_no h
    rw [if_pos hc, if_pos hc] at hE
    obtain ⟨c, hc2, rfl⟩ := nle 60 ⟨Int32.le_trans (by decide) hc.1, hc.2⟩ (by decide)
    rw [show (nI c).toNatClampNeg = c from nI_clamp (by omega)] at hE
    refine g_al_0 hR dX4_go_17 ?_
    refine gf_X4_current hR fl_X4_12 dX4_go_18 ?_
    refine gf_X3_day hR z0 fl_X4_112 dX4_go_21 ?_
    refine g_ldc hR dX4_go_24 kc_X4_115 ?_
    refine g_il_1 hR dX4_go_26 ?_
    refine g_isub hR dX4_go_27 ?_
    refine g_icmp_le (tgt := 38) hR dX4_go_28 (by decide) (fun _ => ?_) (fun hc => absurd (day_c hG hd hc2) hc)
    refine g_al_0 hR dX4_go_38 ?_
    refine gf_X4_current hR fl_X4_12 dX4_go_39 ?_
    refine g_il_1 hR dX4_go_42 ?_
    refine g_cvV hR ciX3_passDays dX4_go_43 ml_X4_116 (Nat.le_of_ble_eq_true rfl) (by omega) (lay_w z0) rfl rfl (ev_passDays (k := 0) (n := n) (c := c) z0 σ hG (by omega) (by omega)) rfl (Nat.le_of_ble_eq_true rfl) rfl ?_
    refine g_al_0 hR dX4_go_46 ?_
    refine gf_X4_current hR fl_X4_12 dX4_go_47 ?_
    refine gf_X3_at hR z0 fl_X4_62 dX4_go_50 ?_
    exact hE dX4_go_53 (by rw [daysT_k]) (rfl)
  · refine g_al_0 hR dX4_go_10 ?_
    refine g_ldc hR dX4_go_11 kc_X4_57 ?_
    refine g_cvI hR ciX4_finding dX4_go_13 ml_X4_58 (Nat.le_of_ble_eq_true rfl) (by decide) rfl rfl rfl (cx_f0 σ) rfl (Nat.le_of_ble_eq_true rfl) rfl ?_
    exact hE dX4_go_16 ((if_neg (bI_0.mp h)).symm) ((if_neg (bI_0.mp h)).symm)
set_option maxRecDepth 100000 in
set_option maxHeartbeats 4000000 in
theorem cx_now {n : Nat} {d : Int} (a : Int32) (σ : Hp) (hG : Gd (σ 0) n d) (hd : d < 1000000) : CtI yX4_now wX4_now 5 [.ref 0, .int a] σ (nowV (σ 0) n a) (if a = 2 ∨ a = 3 then wghT σ 0 (upF (σ 0) n) (dnF (σ 0) n) else if 0 ≤ a ∧ a ≤ 7 then σ else fnd σ 13 0) := by
  refine CtI.of (by decide) (Nat.le_of_ble_eq_true rfl) rfl rfl (fun G hR hE => ?_)
  have hn8 := hG.1
  rcases w07 a with rfl | rfl | rfl | rfl | rfl | rfl | rfl | rfl | ⟨h1, h2⟩
  · refine g_il_1 hR dX4_now_0 ?_
    refine g_tin (off := 47) (tgt := 48) hR dX4_now_1 (by decide) (by decide) (by decide) (by decide) ?_
    refine g_al_0 hR dX4_now_48 ?_
    refine gf_X4_current hR fl_X4_12 dX4_now_49 ?_
    refine gf_X3_day hR z0 fl_X4_112 dX4_now_52 ?_
    exact hE dX4_now_55 (rfl) (rfl)
  · refine g_il_1 hR dX4_now_0 ?_
    refine g_tin (off := 55) (tgt := 56) hR dX4_now_1 (by decide) (by decide) (by decide) (by decide) ?_
    refine g_al_0 hR dX4_now_56 ?_
    refine gf_X4_current hR fl_X4_12 dX4_now_57 ?_
    refine gf_X3_at hR z0 fl_X4_62 dX4_now_60 ?_
    exact hE dX4_now_63 (rfl) (rfl)
  · refine g_il_1 hR dX4_now_0 ?_
    refine g_tin (off := 63) (tgt := 64) hR dX4_now_1 (by decide) (by decide) (by decide) (by decide) ?_
    refine g_al_0 hR dX4_now_64 ?_
    refine gf_X4_current hR fl_X4_12 dX4_now_65 ?_
    refine g_cvV hR ciX3_weigh dX4_now_68 ml_X4_120 (Nat.le_of_ble_eq_true rfl) (by omega) (lay_w z0) rfl rfl (ev_weigh (k := 0) z0 σ hG hd) rfl (Nat.le_of_ble_eq_true rfl) rfl ?_
    refine g_al_0 hR dX4_now_71 ?_
    refine gf_X4_current hR fl_X4_12 dX4_now_72 ?_
    refine gf_X3_up hR z0 fl_X4_123 dX4_now_75 ?_
    exact hE dX4_now_78 (wgh_u (k := 0)) (rfl)
  · refine g_il_1 hR dX4_now_0 ?_
    refine g_tin (off := 78) (tgt := 79) hR dX4_now_1 (by decide) (by decide) (by decide) (by decide) ?_
    refine g_al_0 hR dX4_now_79 ?_
    refine gf_X4_current hR fl_X4_12 dX4_now_80 ?_
    refine g_cvV hR ciX3_weigh dX4_now_83 ml_X4_120 (Nat.le_of_ble_eq_true rfl) (by omega) (lay_w z0) rfl rfl (ev_weigh (k := 0) z0 σ hG hd) rfl (Nat.le_of_ble_eq_true rfl) rfl ?_
    refine g_al_0 hR dX4_now_86 ?_
    refine gf_X4_current hR fl_X4_12 dX4_now_87 ?_
    refine gf_X3_down hR z0 fl_X4_126 dX4_now_90 ?_
    exact hE dX4_now_93 (wgh_d (k := 0)) (rfl)
  · refine g_il_1 hR dX4_now_0 ?_
    refine g_tin (off := 93) (tgt := 94) hR dX4_now_1 (by decide) (by decide) (by decide) (by decide) ?_
    refine g_al_0 hR dX4_now_94 ?_
    refine gf_X4_current hR fl_X4_12 dX4_now_95 ?_
    refine g_iconst_m1 hR dX4_now_98 ?_
    refine g_cvI hR ciX3_longOutside dX4_now_99 ml_X4_129 (Nat.le_of_ble_eq_true rfl) (by omega) (lay_w z0) rfl rfl (ev_longOut (k := 0) (q := 0) z0 (by omega) hn8 (-1) (by decide) σ hG.2.1) rfl (Nat.le_of_ble_eq_true rfl) rfl ?_
    exact hE dX4_now_102 (rfl) (rfl)
  · refine g_il_1 hR dX4_now_0 ?_
    refine g_tin (off := 102) (tgt := 103) hR dX4_now_1 (by decide) (by decide) (by decide) (by decide) ?_
    refine g_al_0 hR dX4_now_103 ?_
    refine gf_X4_current hR fl_X4_12 dX4_now_104 ?_
    refine gf_X3_wentOff hR z0 fl_X4_132 dX4_now_107 ?_
    exact hE dX4_now_110 (rfl) (rfl)
  · refine g_il_1 hR dX4_now_0 ?_
    refine g_tin (off := 110) (tgt := 111) hR dX4_now_1 (by decide) (by decide) (by decide) (by decide) ?_
    refine g_al_0 hR dX4_now_111 ?_
    refine gf_X4_current hR fl_X4_12 dX4_now_112 ?_
    refine g_cvI hR ciX3_placeSet dX4_now_115 ml_X4_135 (Nat.le_of_ble_eq_true rfl) (by omega) (lay_w z0) rfl rfl (ev_placeSet (k := 0) z0 hn8 σ hG.2.1) rfl (Nat.le_of_ble_eq_true rfl) rfl ?_
    exact hE dX4_now_118 (rfl) (rfl)
  · refine g_il_1 hR dX4_now_0 ?_
    refine g_tin (off := 118) (tgt := 119) hR dX4_now_1 (by decide) (by decide) (by decide) (by decide) ?_
    refine g_al_0 hR dX4_now_119 ?_
    refine gf_X4_current hR fl_X4_12 dX4_now_120 ?_
    refine g_cvI hR ciX3_mostFelt dX4_now_123 ml_X4_139 (Nat.le_of_ble_eq_true rfl) (by omega) (lay_w z0) rfl rfl (ev_mostFelt (k := 0) z0 σ hG hd) rfl (Nat.le_of_ble_eq_true rfl) rfl ?_
    exact hE dX4_now_126 (rfl) (rfl)
  · have ne : ∀ m : Nat, m ≤ 7 → ¬ a = nI m := fun m hm e => h1 (by rw [e]; exact ⟨nI_pos' (by omega), nI_le (b := 7) hm (by decide)⟩)
    refine g_il_1 hR dX4_now_0 ?_
    refine g_tout (tgt := 127) hR dX4_now_1 (h2) (by decide) ?_
    refine g_al_0 hR dX4_now_127 ?_
    refine g_ldc hR dX4_now_128 kc_X4_57 ?_
    refine g_cvI hR ciX4_finding dX4_now_130 ml_X4_58 (Nat.le_of_ble_eq_true rfl) (by decide) rfl rfl rfl (cx_f0 σ) rfl (Nat.le_of_ble_eq_true rfl) rfl ?_
    exact hE dX4_now_133 (by unfold nowV; rw [if_neg (show ¬ a = 0 from ne 0 (by decide)), if_neg (show ¬ a = 1 from ne 1 (by decide)), if_neg (show ¬ a = 2 from ne 2 (by decide)), if_neg (show ¬ a = 3 from ne 3 (by decide)), if_neg (show ¬ a = 4 from ne 4 (by decide)), if_neg (show ¬ a = 5 from ne 5 (by decide)), if_neg (show ¬ a = 6 from ne 6 (by decide)), if_neg (show ¬ a = 7 from ne 7 (by decide))]) (by rw [if_neg (fun q => q.elim (ne 2 (by decide)) (ne 3 (by decide))), if_neg h1])
set_option maxRecDepth 100000 in
set_option maxHeartbeats 4000000 in
theorem cx_seed (a : Int32) (σ : Hp) : CtI yX4_seed wX4_seed 0 [.ref 0, .int a] σ (σ 0 5) (bset σ 0 (upd (σ 0) 5 a)) := by
  refine CtI.of (by decide) (Nat.le_of_ble_eq_true rfl) rfl rfl (fun G hR hE => ?_)
  refine g_al_0 hR dX4_seed_0 ?_
  refine gf_X4_current hR fl_X4_12 dX4_seed_1 ?_
  refine gf_X3_z hR z0 fl_X4_176 dX4_seed_4 ?_
  refine g_is_2 hR dX4_seed_7 trivial ?_
  refine g_al_0 hR dX4_seed_8 ?_
  refine gf_X4_current hR fl_X4_12 dX4_seed_9 ?_
  refine g_il_1 hR dX4_seed_12 ?_
  refine pf_X3_z hR z0 fl_X4_176 dX4_seed_13 ?_
  refine g_il_2 hR dX4_seed_16 ?_
  exact hE dX4_seed_17 (rfl) (rfl)
set_option maxRecDepth 100000 in
set_option maxHeartbeats 4000000 in
theorem cx_wipe (σ : Hp) : CtI yX4_wipe wX4_wipe 0 [.ref 0] σ (σ 3 1) (bset σ 3 (upd (σ 3) 1 0)) := by
  refine CtI.of (by decide) (Nat.le_of_ble_eq_true rfl) rfl rfl (fun G hR hE => ?_)
  refine g_al_0 hR dX4_wipe_0 ?_
  refine gf_X4_tape hR fl_X4_29 dX4_wipe_1 ?_
  refine gf_X1_size hR fl_X4_179 dX4_wipe_4 ?_
  refine g_is_1 hR dX4_wipe_7 trivial ?_
  refine g_al_0 hR dX4_wipe_8 ?_
  refine gf_X4_tape hR fl_X4_29 dX4_wipe_9 ?_
  refine g_iconst_0 hR dX4_wipe_12 ?_
  refine pf_X1_size hR fl_X4_179 dX4_wipe_13 ?_
  refine g_il_1 hR dX4_wipe_16 ?_
  exact hE dX4_wipe_17 (rfl) (rfl)
set_option maxRecDepth 100000 in
set_option maxHeartbeats 4000000 in
theorem cx_image (σ : Hp) : CtI yX4_image wX4_image 3 [.ref 0] σ (1) (bset (bset σ 2 (cpW (σ 0) (σ 2))) 3 (upd (σ 3) 0 1)) := by
  refine CtI.of (by decide) (Nat.le_of_ble_eq_true rfl) rfl rfl (fun G hR hE => ?_)
  refine g_al_0 hR dX4_image_0 ?_
  refine gf_X4_kept hR fl_X4_19 dX4_image_1 ?_
  refine g_al_0 hR dX4_image_4 ?_
  refine gf_X4_current hR fl_X4_12 dX4_image_5 ?_
  refine g_cvV hR ciX3_becomeWhole dX4_image_8 ml_X4_185 (Nat.le_of_ble_eq_true rfl) (by omega) (lay_w z2) rfl rfl (ev_becomeWhole (k := 2) (j := 0) z2 z0 (by decide) σ) rfl (Nat.le_of_ble_eq_true rfl) rfl ?_
  refine g_al_0 hR dX4_image_11 ?_
  refine g_iconst_1 hR dX4_image_12 ?_
  refine pf_X4_isKept hR fl_X4_22 dX4_image_13 (by decide) ?_
  refine g_iconst_1 hR dX4_image_16 ?_
  exact hE dX4_image_17 (rfl) (by rw [hset_e, bset_n (show 3 ≠ 2 by decide)])
set_option maxRecDepth 100000 in
set_option maxHeartbeats 4000000 in
theorem cx_undo (σ : Hp) : CtI yX4_undo wX4_undo 3 [.ref 0] σ (if σ 3 0 = 0 then -1000004 else σ 2 0) (if σ 3 0 = 0 then fnd σ 13 3 else bset σ 0 (cpW (σ 2) (σ 0))) := by
  refine CtI.of (by decide) (Nat.le_of_ble_eq_true rfl) rfl rfl (fun G hR hE => ?_)
  refine g_al_0 hR dX4_undo_0 ?_
  refine gf_X4_isKept hR fl_X4_22 dX4_undo_1 ?_
  refine g_if_ne (tgt := 14) hR dX4_undo_4 (by decide) (fun h => ?_) (fun h => ?_)
  · refine g_al_0 hR dX4_undo_14 ?_
    refine gf_X4_current hR fl_X4_12 dX4_undo_15 ?_
    refine g_al_0 hR dX4_undo_18 ?_
    refine gf_X4_kept hR fl_X4_19 dX4_undo_19 ?_
    refine g_cvV hR ciX3_becomeWhole dX4_undo_22 ml_X4_185 (Nat.le_of_ble_eq_true rfl) (by omega) (lay_w z0) rfl rfl (ev_becomeWhole (k := 0) (j := 2) z0 z2 (by decide) σ) rfl (Nat.le_of_ble_eq_true rfl) rfl ?_
    refine g_al_0 hR dX4_undo_25 ?_
    refine gf_X4_current hR fl_X4_12 dX4_undo_26 ?_
    refine gf_X3_day hR z0 fl_X4_112 dX4_undo_29 ?_
    exact hE dX4_undo_32 (by rw [if_neg h, bset_s]; rfl) ((if_neg h).symm)
  · refine g_al_0 hR dX4_undo_7 ?_
    refine g_ldc hR dX4_undo_8 kc_X4_149 ?_
    refine g_cvI hR ciX4_finding dX4_undo_10 ml_X4_58 (Nat.le_of_ble_eq_true rfl) (by decide) rfl rfl rfl (cx_f3 σ) rfl (Nat.le_of_ble_eq_true rfl) rfl ?_
    exact hE dX4_undo_13 ((if_pos h).symm) ((if_pos h).symm)
set_option maxRecDepth 100000 in
set_option maxHeartbeats 4000000 in
theorem cx_tear (σ : Hp) : CtI yX4_tear wX4_tear 0 [.ref 0] σ (if σ 3 0 = 0 then 0 else 1) (bset σ 3 (upd (σ 3) 0 0)) := by
  refine CtI.of (by decide) (Nat.le_of_ble_eq_true rfl) rfl rfl (fun G hR hE => ?_)
  refine g_al_0 hR dX4_tear_0 ?_
  refine gf_X4_isKept hR fl_X4_22 dX4_tear_1 ?_
  refine g_if_eq (tgt := 11) hR dX4_tear_4 (by decide) (fun h => ?_) (fun h => ?_)
  · refine g_iconst_0 hR dX4_tear_11 ?_
    refine g_is_1 hR dX4_tear_12 trivial ?_
    refine g_al_0 hR dX4_tear_13 ?_
    refine g_iconst_0 hR dX4_tear_14 ?_
    refine pf_X4_isKept hR fl_X4_22 dX4_tear_15 (by decide) ?_
    refine g_il_1 hR dX4_tear_18 ?_
    exact hE dX4_tear_19 ((if_pos h).symm) (rfl)
  · refine g_iconst_1 hR dX4_tear_7 ?_
    refine g_goto (tgt := 12) hR dX4_tear_8 (by decide) ?_
    refine g_is_1 hR dX4_tear_12 trivial ?_
    refine g_al_0 hR dX4_tear_13 ?_
    refine g_iconst_0 hR dX4_tear_14 ?_
    refine pf_X4_isKept hR fl_X4_22 dX4_tear_15 (by decide) ?_
    refine g_il_1 hR dX4_tear_18 ?_
    exact hE dX4_tear_19 ((if_neg h).symm) (rfl)
set_option maxRecDepth 100000 in
set_option maxHeartbeats 4000000 in
theorem cx_hold (a b : Int32) (σ : Hp) : CtI yX4_hold wX4_hold 3 [.ref 0, .int a, .int b] σ (if (0 ≤ a ∧ a ≤ 9) ∧ (b = -1 ∨ 0 ≤ b ∧ b < σ 0 1) then 1 else -1000001) (if (0 ≤ a ∧ a ≤ 9) ∧ (b = -1 ∨ 0 ≤ b ∧ b < σ 0 1) then bset σ 0 (upd (σ 0) (54 + a.toNatClampNeg) b) else fnd σ 13 0) := by
  refine CtI.of (by decide) (Nat.le_of_ble_eq_true rfl) rfl rfl (fun G hR hE => ?_)
  have bad : ¬ ((0 ≤ a ∧ a ≤ 9) ∧ (b = -1 ∨ 0 ≤ b ∧ b < σ 0 1)) → G 23 [some (.ref 0), some (.int a), some (.int b)] [] σ := by
    intro h
    refine g_al_0 hR dX4_hold_23 ?_
    refine g_ldc hR dX4_hold_24 kc_X4_57 ?_
    refine g_cvI hR ciX4_finding dX4_hold_26 ml_X4_58 (Nat.le_of_ble_eq_true rfl) (by decide) rfl rfl rfl (cx_f0 σ) rfl (Nat.le_of_ble_eq_true rfl) rfl ?_
    exact hE dX4_hold_29 ((if_neg h).symm) ((if_neg h).symm)
  have good : (0 ≤ a ∧ a ≤ 9) ∧ (b = -1 ∨ 0 ≤ b ∧ b < σ 0 1) → G 30 [some (.ref 0), some (.int a), some (.int b)] [] σ := by
    intro hc
    rw [if_pos hc, if_pos hc] at hE
    obtain ⟨i, hi, rfl⟩ := nle 9 hc.1 (by decide)
    rw [show (nI i).toNatClampNeg = i from nI_clamp (by omega)] at hE
    refine g_al_0 hR dX4_hold_30 ?_
    refine gf_X4_current hR fl_X4_12 dX4_hold_31 ?_
    refine g_il_1 hR dX4_hold_34 ?_
    refine g_il_2 hR dX4_hold_35 ?_
    refine g_cvV hR ciX3_setSpot dX4_hold_36 ml_X4_194 (Nat.le_of_ble_eq_true rfl) (by omega) (lay_w z0) rfl rfl (ev_setSpot (k := 0) (i := i) z0 (by omega) b σ) rfl (Nat.le_of_ble_eq_true rfl) rfl ?_
    refine g_iconst_1 hR dX4_hold_39 ?_
    exact hE dX4_hold_40 (rfl) (rfl)
  refine g_il_1 hR dX4_hold_0 ?_
  refine g_csI hR ciX4_isSpot dX4_hold_1 ml_X4_191 (Nat.le_of_ble_eq_true rfl) (ev_isSpot a σ) rfl (Nat.le_of_ble_eq_true rfl) rfl ?_
  refine g_if_eq (tgt := 23) hR dX4_hold_4 (by decide) (fun h => ?_) (fun h => ?_)
  · exact bad (fun q => bI_0.mp h q.1)
  · refine g_il_2 hR dX4_hold_7 ?_
    refine g_iconst_m1 hR dX4_hold_8 ?_
    refine g_icmp_eq (tgt := 30) hR dX4_hold_9 (by decide) (fun h2 => ?_) (fun h2 => ?_)
    · exact good ⟨bI_no h, Or.inl h2⟩
    · refine g_al_0 hR dX4_hold_12 ?_
      refine gf_X4_current hR fl_X4_12 dX4_hold_13 ?_
      refine g_il_2 hR dX4_hold_16 ?_
      refine g_cvI hR ciX3_hasPiece dX4_hold_17 ml_X4_85 (Nat.le_of_ble_eq_true rfl) (by omega) (lay_w z0) rfl rfl (ev_hasPiece (k := 0) z0 b σ) rfl (Nat.le_of_ble_eq_true rfl) rfl ?_
      refine g_if_ne (tgt := 30) hR dX4_hold_20 (by decide) (fun h3 => ?_) (fun h3 => ?_)
      · exact good ⟨bI_no h, Or.inr (bI_no h3)⟩
      · exact bad (fun q => q.2.elim h2 (bI_0.mp h3))
set_option maxRecDepth 100000 in
set_option maxHeartbeats 4000000 in
theorem cx_count {n : Nat} {d : Int} (a : Int32) (σ : Hp) (hG : Gd (σ 0) n d) : CtI yX4_count wX4_count 2 [.ref 0, .int a] σ (cntV (σ 0) (σ 3 1) (nI (cntN (fun i => decide (¬ σ 0 (54 + i) = -1)) 10)) n a) (if 0 ≤ a ∧ a ≤ 7 then σ else fnd σ 13 0) := by
  refine CtI.of (by decide) (Nat.le_of_ble_eq_true rfl) rfl rfl (fun G hR hE => ?_)
  have hn8 := hG.1
  rcases w07 a with rfl | rfl | rfl | rfl | rfl | rfl | rfl | rfl | ⟨h1, h2⟩
  · refine g_il_1 hR dX4_count_0 ?_
    refine g_tin (off := 47) (tgt := 48) hR dX4_count_1 (by decide) (by decide) (by decide) (by decide) ?_
    refine g_al_0 hR dX4_count_48 ?_
    refine gf_X4_current hR fl_X4_12 dX4_count_49 ?_
    refine gf_X3_day hR z0 fl_X4_112 dX4_count_52 ?_
    exact hE dX4_count_55 (rfl) (rfl)
  · refine g_il_1 hR dX4_count_0 ?_
    refine g_tin (off := 55) (tgt := 56) hR dX4_count_1 (by decide) (by decide) (by decide) (by decide) ?_
    refine g_al_0 hR dX4_count_56 ?_
    refine gf_X4_current hR fl_X4_12 dX4_count_57 ?_
    refine gf_X3_pieceCount hR z0 fl_X4_102 dX4_count_60 ?_
    exact hE dX4_count_63 (rfl) (rfl)
  · refine g_il_1 hR dX4_count_0 ?_
    refine g_tin (off := 63) (tgt := 64) hR dX4_count_1 (by decide) (by decide) (by decide) (by decide) ?_
    refine g_al_0 hR dX4_count_64 ?_
    refine gf_X4_current hR fl_X4_12 dX4_count_65 ?_
    refine gf_X3_at hR z0 fl_X4_62 dX4_count_68 ?_
    exact hE dX4_count_71 (rfl) (rfl)
  · refine g_il_1 hR dX4_count_0 ?_
    refine g_tin (off := 71) (tgt := 72) hR dX4_count_1 (by decide) (by decide) (by decide) (by decide) ?_
    refine g_al_0 hR dX4_count_72 ?_
    refine gf_X4_current hR fl_X4_12 dX4_count_73 ?_
    refine g_iconst_m1 hR dX4_count_76 ?_
    refine g_cvI hR ciX3_longOutside dX4_count_77 ml_X4_129 (Nat.le_of_ble_eq_true rfl) (by omega) (lay_w z0) rfl rfl (ev_longOut (k := 0) (q := 0) z0 (by omega) hn8 (-1) (by decide) σ hG.2.1) rfl (Nat.le_of_ble_eq_true rfl) rfl ?_
    exact hE dX4_count_80 (rfl) (rfl)
  · refine g_il_1 hR dX4_count_0 ?_
    refine g_tin (off := 80) (tgt := 81) hR dX4_count_1 (by decide) (by decide) (by decide) (by decide) ?_
    refine g_al_0 hR dX4_count_81 ?_
    refine gf_X4_current hR fl_X4_12 dX4_count_82 ?_
    refine gf_X3_wentOff hR z0 fl_X4_132 dX4_count_85 ?_
    exact hE dX4_count_88 (rfl) (rfl)
  · refine g_il_1 hR dX4_count_0 ?_
    refine g_tin (off := 88) (tgt := 89) hR dX4_count_1 (by decide) (by decide) (by decide) (by decide) ?_
    refine g_al_0 hR dX4_count_89 ?_
    refine gf_X4_tape hR fl_X4_29 dX4_count_90 ?_
    refine gf_X1_size hR fl_X4_179 dX4_count_93 ?_
    exact hE dX4_count_96 (rfl) (rfl)
  · refine g_il_1 hR dX4_count_0 ?_
    refine g_tin (off := 96) (tgt := 97) hR dX4_count_1 (by decide) (by decide) (by decide) (by decide) ?_
    refine g_al_0 hR dX4_count_97 ?_
    refine gf_X4_current hR fl_X4_12 dX4_count_98 ?_
    refine gf_X3_z hR z0 fl_X4_176 dX4_count_101 ?_
    exact hE dX4_count_104 (rfl) (rfl)
  · refine g_il_1 hR dX4_count_0 ?_
    refine g_tin (off := 104) (tgt := 105) hR dX4_count_1 (by decide) (by decide) (by decide) (by decide) ?_
    refine g_al_0 hR dX4_count_105 ?_
    refine gf_X4_current hR fl_X4_12 dX4_count_106 ?_
    refine g_cvI hR ciX3_spotsHolding dX4_count_109 ml_X4_241 (Nat.le_of_ble_eq_true rfl) (by omega) (lay_w z0) rfl rfl (ev_spotsHolding (k := 0) z0 σ) rfl (Nat.le_of_ble_eq_true rfl) rfl ?_
    exact hE dX4_count_112 (rfl) (rfl)
  · refine g_il_1 hR dX4_count_0 ?_
    refine g_tout (tgt := 113) hR dX4_count_1 (h2) (by decide) ?_
    refine g_al_0 hR dX4_count_113 ?_
    refine g_ldc hR dX4_count_114 kc_X4_57 ?_
    refine g_cvI hR ciX4_finding dX4_count_116 ml_X4_58 (Nat.le_of_ble_eq_true rfl) (by decide) rfl rfl rfl (cx_f0 σ) rfl (Nat.le_of_ble_eq_true rfl) rfl ?_
    exact hE dX4_count_119 ((cntV_out h1).symm) ((if_neg h1).symm)
set_option maxRecDepth 100000 in
set_option maxHeartbeats 4000000 in
theorem cx_status (a : Int32) (σ : Hp) : CtI yX4_status wX4_status 1 [.ref 0, .int a] σ (if -1 ≤ a ∧ a ≤ 6 then (if a < 0 then sumN (σ 13) 7 else σ 13 a.toNatClampNeg) else -1000001) (if -1 ≤ a ∧ a ≤ 6 then σ else fnd σ 13 0) := by
  refine CtI.of (by decide) (Nat.le_of_ble_eq_true rfl) rfl rfl (fun G hR hE => ?_)
  refine g_il_1 hR dX4_status_0 ?_
  refine g_iconst_m1 hR dX4_status_1 ?_
  refine g_bipush_6 hR dX4_status_2 ?_
  refine g_csI hR ciX4_isWithin dX4_status_4 ml_X4_66 (Nat.le_of_ble_eq_true rfl) (ev_isWithin a (-1) 6 σ) rfl (Nat.le_of_ble_eq_true rfl) rfl ?_
  refine g_if_ne (tgt := 17) hR dX4_status_7 (by decide) (fun h => ?_) (fun h => ?_)
  · have hc := bI_no h
    rw [if_pos hc, if_pos hc] at hE
    refine g_il_1 hR dX4_status_17 ?_
    refine g_if_lt (tgt := 28) hR dX4_status_18 (by decide) (fun h2 => ?_) (fun h2 => ?_)
    · rw [if_pos h2] at hE
      have lp : ∀ d j, j + d = 7 → G 32 [some (.ref 0), some (.int a), some (.int (sumN (σ 13) j)), some (.int (nI j))] [] σ := by
        intro d
        induction d with
        | zero =>
          intro j hj
          obtain rfl : j = 7 := by omega
          refine g_il_3 hR dX4_status_32 ?_
          refine g_bipush_7 hR dX4_status_33 ?_
          refine g_icmp_ge (tgt := 53) hR dX4_status_35 (by decide) (fun _ => ?_) (fun hc => absurd (Int32.le_refl _) hc)
          refine g_il_2 hR dX4_status_53 ?_
          exact hE dX4_status_54 (rfl) (rfl)
        | succ d ih =>
          intro j hj
          refine g_il_3 hR dX4_status_32 ?_
          refine g_bipush_7 hR dX4_status_33 ?_
          refine g_icmp_ge (tgt := 53) hR dX4_status_35 (by decide) (fun hc => absurd hc (nI_ge (b := 7) (by omega) (by decide))) (fun _ => ?_)
          refine g_il_2 hR dX4_status_38 ?_
          refine g_al_0 hR dX4_status_39 ?_
          refine gf_X4_findingsTold hR fl_X4_49 dX4_status_40 ?_
          refine g_il_3 hR dX4_status_43 ?_
          refine ga_17 hR j (by omega) rfl dX4_status_44 ?_
          refine g_iadd hR dX4_status_45 ?_
          refine g_is_2 hR dX4_status_46 trivial ?_
          refine g_inc_3 hR dX4_status_47 trivial ?_
          refine g_goto (tgt := 32) hR dX4_status_50 (by decide) ?_
          exact ih (j + 1) (by omega)
      refine g_iconst_0 hR dX4_status_28 ?_
      refine g_is_2 hR dX4_status_29 trivial ?_
      refine g_iconst_0 hR dX4_status_30 ?_
      refine g_is_3 hR dX4_status_31 trivial ?_
      exact lp 7 0 rfl
    · rw [if_neg h2] at hE
      obtain ⟨i, hi, rfl⟩ := nle 6 ⟨Int32.not_lt.mp h2, hc.2⟩ (by decide)
      rw [show (nI i).toNatClampNeg = i from nI_clamp (by omega)] at hE
      refine g_al_0 hR dX4_status_21 ?_
      refine gf_X4_findingsTold hR fl_X4_49 dX4_status_22 ?_
      refine g_il_1 hR dX4_status_25 ?_
      refine ga_17 hR i (by omega) rfl dX4_status_26 ?_
      exact hE dX4_status_27 (rfl) (rfl)
  · refine g_al_0 hR dX4_status_10 ?_
    refine g_ldc hR dX4_status_11 kc_X4_57 ?_
    refine g_cvI hR ciX4_finding dX4_status_13 ml_X4_58 (Nat.le_of_ble_eq_true rfl) (by decide) rfl rfl rfl (cx_f0 σ) rfl (Nat.le_of_ble_eq_true rfl) rfl ?_
    exact hE dX4_status_16 ((if_neg (bI_0.mp h)).symm) ((if_neg (bI_0.mp h)).symm)
