set_option maxRecDepth 100000 in
set_option maxHeartbeats 4000000 in
theorem ev_longOut {k n q : Nat} (hk : k < 3) (hq : q ≤ n) (hn8 : n ≤ 8) (x : Int32) (hx : x = nI q - 1) (σ : Hp) (hn : σ k 1 = nI n) : CtI yX3_longOutside wX3_longOutside 1 [.ref (3 * k + 1), .int x] σ (lngF (σ k) n q) (σ) := by
  refine CtI.of (by decide) (Nat.le_of_ble_eq_true rfl) rfl rfl (fun G hR hE => ?_)
  subst hx
  have lp : ∀ d j, j = q + d → j ≤ n → G 9 [some (.ref (3 * k + 1)), some (.int (nI q - 1)), some (.int (lngF (σ k) n j)), some (.int (nI j - 1))] [] σ := by
    intro d
    induction d with
    | zero =>
      intro j hj hjn
      obtain rfl : j = q := by omega
      refine g_il_3 hR dX3_longOutside_9 ?_
      refine g_il_1 hR dX3_longOutside_10 ?_
      refine g_icmp_le (tgt := 29) hR dX3_longOutside_11 (by decide) (fun _ => ?_) (fun hc => absurd (Int32.le_refl _) hc)
      refine g_il_2 hR dX3_longOutside_29 ?_
      exact hE dX3_longOutside_30 (rfl) (rfl)
    | succ d ih =>
      intro j hj hjn
      have e : nI j - 1 = nI (q + d) := by rw [hj]; exact nI_pred (q + d)
      rw [e]
      refine g_il_3 hR dX3_longOutside_9 ?_
      refine g_il_1 hR dX3_longOutside_10 ?_
      refine g_icmp_le (tgt := 29) hR dX3_longOutside_11 (by decide) (fun hc => absurd hc (pm_nle (by omega) (by omega))) (fun _ => ?_)
      refine g_il_2 hR dX3_longOutside_14 ?_
      refine g_al_0 hR dX3_longOutside_15 ?_
      refine g_il_3 hR dX3_longOutside_16 ?_
      refine g_iconst_2 hR dX3_longOutside_17 ?_
      refine g_cvI hR ciX3_fact dX3_longOutside_18 ml_X3_56 (Nat.le_of_ble_eq_true rfl) (by omega) (lay_w hk) rfl rfl (ev_fact hk (p := q + d) (w := 2) (by omega) (by decide) σ) rfl (Nat.le_of_ble_eq_true rfl) rfl ?_
      refine g_iadd hR dX3_longOutside_21 ?_
      refine g_top (show lngF (σ k) n j + pf (σ k) (q + d) 2 = lngF (σ k) n (q + d) by rw [hj]; exact (lng_step (σ k) (j := q + d) (by omega)).symm) ?_
      refine g_is_2 hR dX3_longOutside_22 trivial ?_
      refine g_ii_3 hR dX3_longOutside_23 (sub1 _) trivial ?_
      refine g_goto (tgt := 9) hR dX3_longOutside_26 (by decide) ?_
      exact ih (q + d) rfl (by omega)
  refine g_iconst_0 hR dX3_longOutside_0 ?_
  refine g_is_2 hR dX3_longOutside_1 trivial ?_
  refine g_al_0 hR dX3_longOutside_2 ?_
  refine gf_X3_pieceCount hR hk fl_X3_27 dX3_longOutside_3 ?_
  refine g_top hn ?_
  refine g_iconst_1 hR dX3_longOutside_6 ?_
  refine g_isub hR dX3_longOutside_7 ?_
  refine g_is_3 hR dX3_longOutside_8 trivial ?_
  have := lp (n - q) n (by omega) (Nat.le_refl n)
  rw [lng_n] at this
  exact this
set_option maxRecDepth 100000 in
set_option maxHeartbeats 4000000 in
theorem ev_lastsOf (v : Int32) (σ : Hp) : CtI yX3_lastsOf wX3_lastsOf 0 [.int v] σ (lasF v) (σ) := by
  refine CtI.of (by decide) (Nat.le_of_ble_eq_true rfl) rfl rfl (fun G hR hE => ?_)
  by_cases h1 : v = 1
  · subst h1
    refine g_il_0 hR dX3_lastsOf_0 ?_
    refine g_look (off := 27) (tgt := 28) hR dX3_lastsOf_1 (by decide) (by decide) (by decide) ?_
    refine g_bipush_30 hR dX3_lastsOf_28 ?_
    exact hE dX3_lastsOf_30 (rfl) (rfl)
  · by_cases h6 : v = 6
    · subst h6
      refine g_il_0 hR dX3_lastsOf_0 ?_
      refine g_look (off := 30) (tgt := 31) hR dX3_lastsOf_1 (by decide) (by decide) (by decide) ?_
      refine g_bipush_10 hR dX3_lastsOf_31 ?_
      exact hE dX3_lastsOf_33 (rfl) (rfl)
    · have e1 : ¬ (1 : Int) = v.toInt := fun e => h1 (i_eq.mpr e.symm)
      have e6 : ¬ (6 : Int) = v.toInt := fun e => h6 (i_eq.mpr e.symm)
      refine g_il_0 hR dX3_lastsOf_0 ?_
      refine g_look (off := 33) (tgt := 34) hR dX3_lastsOf_1 (by decide) (by simp [Op.lookupswitch.offset, e1, e6]) (by decide) ?_
      refine g_iconst_0 hR dX3_lastsOf_34 ?_
      exact hE dX3_lastsOf_35 (by unfold lasF; rw [if_neg h1, if_neg h6]) (rfl)
set_option maxRecDepth 100000 in
set_option maxHeartbeats 4000000 in
theorem ev_givesOf (v : Int32) (σ : Hp) : CtI yX3_givesOf wX3_givesOf 0 [.int v] σ (givF v) (σ) := by
  refine CtI.of (by decide) (Nat.le_of_ble_eq_true rfl) rfl rfl (fun G hR hE => ?_)
  by_cases h3 : v = 3
  · subst h3
    refine g_il_0 hR dX3_givesOf_0 ?_
    refine g_tin (off := 27) (tgt := 28) hR dX3_givesOf_1 (by decide) (by decide) (by decide) (by decide) ?_
    refine g_iconst_2 hR dX3_givesOf_28 ?_
    exact hE dX3_givesOf_29 (rfl) (rfl)
  · by_cases h4 : v = 4
    · subst h4
      refine g_il_0 hR dX3_givesOf_0 ?_
      refine g_tin (off := 29) (tgt := 30) hR dX3_givesOf_1 (by decide) (by decide) (by decide) (by decide) ?_
      refine g_iconst_3 hR dX3_givesOf_30 ?_
      exact hE dX3_givesOf_31 (rfl) (rfl)
    · by_cases h5 : v = 5
      · subst h5
        refine g_il_0 hR dX3_givesOf_0 ?_
        refine g_tin (off := 31) (tgt := 32) hR dX3_givesOf_1 (by decide) (by decide) (by decide) (by decide) ?_
        refine g_iconst_5 hR dX3_givesOf_32 ?_
        exact hE dX3_givesOf_33 (rfl) (rfl)
      · have e3 : ¬ v.toInt = 3 := fun e => h3 (i_eq.mpr e)
        have e4 : ¬ v.toInt = 4 := fun e => h4 (i_eq.mpr e)
        have e5 : ¬ v.toInt = 5 := fun e => h5 (i_eq.mpr e)
        refine g_il_0 hR dX3_givesOf_0 ?_
        refine g_tout (tgt := 34) hR dX3_givesOf_1 (by omega) (by decide) ?_
        refine g_iconst_0 hR dX3_givesOf_34 ?_
        exact hE dX3_givesOf_35 (by unfold givF; rw [if_neg h5, if_neg h3, if_neg h4]) (rfl)
set_option maxRecDepth 100000 in
set_option maxHeartbeats 4000000 in
theorem ev_pullOf {k n p : Nat} {d : Int} (hk : k < 3) (hp : p < 8) (σ : Hp) (hG : Gd (σ k) n d) (hd : d < 1000000) : CtI yX3_pullOf wX3_pullOf 1 [.ref (3 * k + 1), .int (nI p)] σ (pulF (σ k) p) (σ) := by
  refine CtI.of (by decide) (Nat.le_of_ble_eq_true rfl) rfl rfl (fun G hR hE => ?_)
  have key : ∀ x3 x4, G 24 [some (.ref (3 * k + 1)), some (.int (nI p)), some (.int (pf (σ k) p 2)), x3, x4] [.int (bdF (σ k) p)] σ := by
    intro x3 x4
    refine g_is_3 hR dX3_pullOf_24 trivial ?_
    refine g_iconst_0 hR dX3_pullOf_25 ?_
    refine g_il_3 hR dX3_pullOf_26 ?_
    refine g_al_0 hR dX3_pullOf_27 ?_
    refine g_il_1 hR dX3_pullOf_28 ?_
    refine g_iconst_3 hR dX3_pullOf_29 ?_
    refine g_cvI hR ciX3_fact dX3_pullOf_30 ml_X3_56 (Nat.le_of_ble_eq_true rfl) (by omega) (lay_w hk) rfl rfl (ev_fact hk hp (w := 3) (by decide) σ) rfl (Nat.le_of_ble_eq_true rfl) rfl ?_
    refine g_isub hR dX3_pullOf_33 ?_
    refine g_max hR (Nat.le_of_ble_eq_true rfl) ml_X3_90 dX3_pullOf_34 (Nat.le_of_ble_eq_true rfl) ?_
    refine g_top (mx0_max _) ?_
    refine g_is_4 hR dX3_pullOf_37 trivial ?_
    refine g_al_0 hR dX3_pullOf_39 ?_
    refine g_il_1 hR dX3_pullOf_40 ?_
    refine g_iconst_0 hR dX3_pullOf_41 ?_
    refine g_cvI hR ciX3_fact dX3_pullOf_42 ml_X3_56 (Nat.le_of_ble_eq_true rfl) (by omega) (lay_w hk) rfl rfl (ev_fact hk hp (w := 0) (by decide) σ) rfl (Nat.le_of_ble_eq_true rfl) rfl ?_
    rcases kind_c hG hp with h | h | h | h | h | h | h
    · refine g_top h ?_
      refine g_tout (tgt := 133) hR dX3_pullOf_45 (by decide) (by decide) ?_
      refine g_il_2 hR dX3_pullOf_133 ?_
      exact hE dX3_pullOf_134 ((pul_0 h).symm) (rfl)
    · refine g_top h ?_
      refine g_tin (off := 39) (tgt := 84) hR dX3_pullOf_45 (by decide) (by decide) (by decide) (by decide) ?_
      refine g_il_2 hR dX3_pullOf_84 ?_
      refine g_al_0 hR dX3_pullOf_85 ?_
      refine g_il_1 hR dX3_pullOf_86 ?_
      refine g_iconst_4 hR dX3_pullOf_87 ?_
      refine g_cvI hR ciX3_fact dX3_pullOf_88 ml_X3_56 (Nat.le_of_ble_eq_true rfl) (by omega) (lay_w hk) rfl rfl (ev_fact hk hp (w := 4) (by decide) σ) rfl (Nat.le_of_ble_eq_true rfl) rfl ?_
      refine g_iadd hR dX3_pullOf_91 ?_
      exact hE dX3_pullOf_92 ((pul_1 h).symm) (rfl)
    · refine g_top h ?_
      refine g_tin (off := 48) (tgt := 93) hR dX3_pullOf_45 (by decide) (by decide) (by decide) (by decide) ?_
      refine g_il_3 hR dX3_pullOf_93 ?_
      exact hE dX3_pullOf_94 ((pul_2 h).symm) (rfl)
    · refine g_top h ?_
      refine g_tin (off := 50) (tgt := 95) hR dX3_pullOf_45 (by decide) (by decide) (by decide) (by decide) ?_
      refine g_il_4 hR dX3_pullOf_95 ?_
      exact hE dX3_pullOf_97 ((pul_3 h).symm) (rfl)
    · refine g_top h ?_
      refine g_tin (off := 53) (tgt := 98) hR dX3_pullOf_45 (by decide) (by decide) (by decide) (by decide) ?_
      refine g_il_4 hR dX3_pullOf_98 ?_
      refine g_iconst_5 hR dX3_pullOf_100 ?_
      refine g_al_0 hR dX3_pullOf_101 ?_
      refine g_il_1 hR dX3_pullOf_102 ?_
      refine g_iconst_1 hR dX3_pullOf_103 ?_
      refine g_cvI hR ciX3_fact dX3_pullOf_104 ml_X3_56 (Nat.le_of_ble_eq_true rfl) (by omega) (lay_w hk) rfl rfl (ev_fact hk hp (w := 1) (by decide) σ) rfl (Nat.le_of_ble_eq_true rfl) rfl ?_
      refine g_al_0 hR dX3_pullOf_107 ?_
      refine gf_X3_at hR hk fl_X3_9 dX3_pullOf_108 ?_
      refine g_isub hR dX3_pullOf_111 ?_
      refine g_abs hR (Nat.le_of_ble_eq_true rfl) ml_X3_95 dX3_pullOf_112 (Nat.le_of_ble_eq_true rfl) ?_
      refine g_top (abs_dst (hG.2.2.1 p 1 hp (by decide)) ⟨by have := hG.2.2.2.2.2.2.1; omega, by have := hG.2.2.2.2.2.2.1; omega⟩) ?_
      refine g_imul hR dX3_pullOf_115 ?_
      refine g_iadd hR dX3_pullOf_116 ?_
      exact hE dX3_pullOf_117 ((pul_4 h).symm) (rfl)
    · refine g_top h ?_
      refine g_tin (off := 73) (tgt := 118) hR dX3_pullOf_45 (by decide) (by decide) (by decide) (by decide) ?_
      refine g_il_2 hR dX3_pullOf_118 ?_
      refine g_iconst_2 hR dX3_pullOf_119 ?_
      refine g_idiv hR dX3_pullOf_120 (by decide) ?_
      exact hE dX3_pullOf_121 ((pul_5 h).symm) (rfl)
    · refine g_top h ?_
      refine g_tin (off := 77) (tgt := 122) hR dX3_pullOf_45 (by decide) (by decide) (by decide) (by decide) ?_
      refine g_iconst_2 hR dX3_pullOf_122 ?_
      refine g_il_2 hR dX3_pullOf_123 ?_
      refine g_al_0 hR dX3_pullOf_124 ?_
      refine g_il_1 hR dX3_pullOf_125 ?_
      refine g_iconst_4 hR dX3_pullOf_126 ?_
      refine g_cvI hR ciX3_fact dX3_pullOf_127 ml_X3_56 (Nat.le_of_ble_eq_true rfl) (by omega) (lay_w hk) rfl rfl (ev_fact hk hp (w := 4) (by decide) σ) rfl (Nat.le_of_ble_eq_true rfl) rfl ?_
      refine g_iadd hR dX3_pullOf_130 ?_
      refine g_imul hR dX3_pullOf_131 ?_
      exact hE dX3_pullOf_132 ((pul_6 h).symm) (rfl)
  refine g_al_0 hR dX3_pullOf_0 ?_
  refine g_il_1 hR dX3_pullOf_1 ?_
  refine g_iconst_2 hR dX3_pullOf_2 ?_
  refine g_cvI hR ciX3_fact dX3_pullOf_3 ml_X3_56 (Nat.le_of_ble_eq_true rfl) (by omega) (lay_w hk) rfl rfl (ev_fact hk hp (w := 2) (by decide) σ) rfl (Nat.le_of_ble_eq_true rfl) rfl ?_
  refine g_is_2 hR dX3_pullOf_6 trivial ?_
  refine g_al_0 hR dX3_pullOf_7 ?_
  refine gf_X3_day hR hk fl_X3_18 dX3_pullOf_8 ?_
  refine g_bipush_7 hR dX3_pullOf_11 ?_
  refine g_irem hR dX3_pullOf_13 (by decide) ?_
  refine g_if_ne (tgt := 23) hR dX3_pullOf_14 (by decide) (fun h1 => ?_) (fun h1 => ?_)
  · refine g_il_2 hR dX3_pullOf_23 ?_
    exact g_top (if_neg h1).symm (key _ _)
  · refine g_iconst_3 hR dX3_pullOf_17 ?_
    refine g_il_2 hR dX3_pullOf_18 ?_
    refine g_imul hR dX3_pullOf_19 ?_
    refine g_goto (tgt := 24) hR dX3_pullOf_20 (by decide) ?_
    exact g_top (if_pos h1).symm (key _ _)
set_option maxRecDepth 100000 in
set_option maxHeartbeats 4000000 in
theorem ev_feltOf {k n p : Nat} {d : Int} (hk : k < 3) (hp : p < 8) (dp : Int32) (σ : Hp) (hG : Gd (σ k) n d) (hd : d < 1000000) : CtI yX3_feltOf wX3_feltOf 2 [.ref (3 * k + 1), .int (nI p), .int dp] σ (if (σ k 64 >>> (nI p &&& 31)) &&& 1 = 1 then 0 else mx0 (pulF (σ k) p - dp / 10 - mx0 (pf (σ k) p 3 - givF (pf (σ k) p 0)))) (σ) := by
  refine CtI.of (by decide) (Nat.le_of_ble_eq_true rfl) rfl rfl (fun G hR hE => ?_)
  refine g_al_0 hR dX3_feltOf_0 ?_
  refine gf_X3_loose hR hk fl_X3_30 dX3_feltOf_1 ?_
  refine g_il_1 hR dX3_feltOf_4 ?_
  refine g_ishr hR dX3_feltOf_5 ?_
  refine g_iconst_1 hR dX3_feltOf_6 ?_
  refine g_iand hR dX3_feltOf_7 ?_
  refine g_if_eq (tgt := 13) hR dX3_feltOf_8 (by decide) (fun h1 => ?_) (fun h1 => ?_)
  · have h2 : ¬ (σ k 64 >>> (nI p &&& 31)) &&& 1 = 1 := by rw [h1]; decide
    refine g_iconst_0 hR dX3_feltOf_13 ?_
    refine g_al_0 hR dX3_feltOf_14 ?_
    refine g_il_1 hR dX3_feltOf_15 ?_
    refine g_iconst_3 hR dX3_feltOf_16 ?_
    refine g_cvI hR ciX3_fact dX3_feltOf_17 ml_X3_56 (Nat.le_of_ble_eq_true rfl) (by omega) (lay_w hk) rfl rfl (ev_fact hk hp (w := 3) (by decide) σ) rfl (Nat.le_of_ble_eq_true rfl) rfl ?_
    refine g_al_0 hR dX3_feltOf_20 ?_
    refine g_il_1 hR dX3_feltOf_21 ?_
    refine g_iconst_0 hR dX3_feltOf_22 ?_
    refine g_cvI hR ciX3_fact dX3_feltOf_23 ml_X3_56 (Nat.le_of_ble_eq_true rfl) (by omega) (lay_w hk) rfl rfl (ev_fact hk hp (w := 0) (by decide) σ) rfl (Nat.le_of_ble_eq_true rfl) rfl ?_
    refine g_csI hR ciX3_givesOf dX3_feltOf_26 ml_X3_98 (Nat.le_of_ble_eq_true rfl) (ev_givesOf (pf (σ k) p 0) σ) rfl (Nat.le_of_ble_eq_true rfl) rfl ?_
    refine g_isub hR dX3_feltOf_29 ?_
    refine g_max hR (Nat.le_of_ble_eq_true rfl) ml_X3_90 dX3_feltOf_30 (Nat.le_of_ble_eq_true rfl) ?_
    refine g_top (mx0_max _) ?_
    refine g_is_3 hR dX3_feltOf_33 trivial ?_
    refine g_iconst_0 hR dX3_feltOf_34 ?_
    refine g_al_0 hR dX3_feltOf_35 ?_
    refine g_il_1 hR dX3_feltOf_36 ?_
    refine g_cvI hR ciX3_pullOf dX3_feltOf_37 ml_X3_77 (Nat.le_of_ble_eq_true rfl) (by omega) (lay_w hk) rfl rfl (ev_pullOf hk hp σ hG hd) rfl (Nat.le_of_ble_eq_true rfl) rfl ?_
    refine g_il_2 hR dX3_feltOf_40 ?_
    refine g_bipush_10 hR dX3_feltOf_41 ?_
    refine g_idiv hR dX3_feltOf_43 (by decide) ?_
    refine g_isub hR dX3_feltOf_44 ?_
    refine g_il_3 hR dX3_feltOf_45 ?_
    refine g_isub hR dX3_feltOf_46 ?_
    refine g_max hR (Nat.le_of_ble_eq_true rfl) ml_X3_90 dX3_feltOf_47 (Nat.le_of_ble_eq_true rfl) ?_
    exact hE dX3_feltOf_50 (by rw [if_neg h2]; exact mx0_max _) (rfl)
  · have h2 := (and1 (σ k 64 >>> (nI p &&& 31))).resolve_left h1
    refine g_iconst_0 hR dX3_feltOf_11 ?_
    exact hE dX3_feltOf_12 (by rw [if_pos h2]) (rfl)
set_option maxRecDepth 100000 in
set_option maxHeartbeats 4000000 in
theorem ev_tell9 {k n p : Nat} {d : Int} (hk : k < 3) (hp : p < n) (σ : Hp) (hG : Gd (σ k) n d) (hd : d < 1000000) : CtI yX3_tell wX3_tell 3 [.ref (3 * k + 1), .int (nI p), .int 9] σ (fltF (σ k) n p) (σ) := by
  refine CtI.of (by decide) (Nat.le_of_ble_eq_true rfl) rfl rfl (fun G hR hE => ?_)
  have hn8 := hG.1
  refine g_il_2 hR dX3_tell_0 ?_
  refine g_tin (off := 53) (tgt := 54) hR dX3_tell_1 (by decide) (by decide) (by decide) (by decide) ?_
  refine g_al_0 hR dX3_tell_54 ?_
  refine g_il_1 hR dX3_tell_55 ?_
  refine g_al_0 hR dX3_tell_56 ?_
  refine g_il_1 hR dX3_tell_57 ?_
  refine g_cvI hR ciX3_longOutside dX3_tell_58 ml_X3_84 (Nat.le_of_ble_eq_true rfl) (by omega) (lay_w hk) rfl rfl (ev_longOut hk (q := p + 1) (by omega) hn8 (nI p) (nI_pred p).symm σ hG.2.1) rfl (Nat.le_of_ble_eq_true rfl) rfl ?_
  refine g_cvI hR ciX3_feltOf dX3_tell_61 ml_X3_87 (Nat.le_of_ble_eq_true rfl) (by omega) (lay_w hk) rfl rfl (ev_feltOf hk (by omega) (lngF (σ k) n (p + 1)) σ hG hd) rfl (Nat.le_of_ble_eq_true rfl) rfl ?_
  exact hE dX3_tell_64 (rfl) (rfl)
set_option maxRecDepth 100000 in
set_option maxHeartbeats 4000000 in
theorem ev_tell8 {k n p : Nat} {d : Int} (hk : k < 3) (hp : p < n) (σ : Hp) (hG : Gd (σ k) n d) : CtI yX3_tell wX3_tell 3 [.ref (3 * k + 1), .int (nI p), .int 8] σ (lngF (σ k) n (p + 1)) (σ) := by
  refine CtI.of (by decide) (Nat.le_of_ble_eq_true rfl) rfl rfl (fun G hR hE => ?_)
  have hn8 := hG.1
  refine g_il_2 hR dX3_tell_0 ?_
  refine g_tin (off := 47) (tgt := 48) hR dX3_tell_1 (by decide) (by decide) (by decide) (by decide) ?_
  refine g_al_0 hR dX3_tell_48 ?_
  refine g_il_1 hR dX3_tell_49 ?_
  refine g_cvI hR ciX3_longOutside dX3_tell_50 ml_X3_84 (Nat.le_of_ble_eq_true rfl) (by omega) (lay_w hk) rfl rfl (ev_longOut hk (q := p + 1) (by omega) hn8 (nI p) (nI_pred p).symm σ hG.2.1) rfl (Nat.le_of_ble_eq_true rfl) rfl ?_
  exact hE dX3_tell_53 (rfl) (rfl)
set_option maxRecDepth 100000 in
set_option maxHeartbeats 4000000 in
theorem ev_tell7 {k p : Nat} (hk : k < 3) (hp : p < 8) (σ : Hp) : CtI yX3_tell wX3_tell 3 [.ref (3 * k + 1), .int (nI p), .int 7] σ (lasF (pf (σ k) p 0)) (σ) := by
  refine CtI.of (by decide) (Nat.le_of_ble_eq_true rfl) rfl rfl (fun G hR hE => ?_)
  refine g_il_2 hR dX3_tell_0 ?_
  refine g_tin (off := 37) (tgt := 38) hR dX3_tell_1 (by decide) (by decide) (by decide) (by decide) ?_
  refine g_al_0 hR dX3_tell_38 ?_
  refine g_il_1 hR dX3_tell_39 ?_
  refine g_iconst_0 hR dX3_tell_40 ?_
  refine g_cvI hR ciX3_fact dX3_tell_41 ml_X3_56 (Nat.le_of_ble_eq_true rfl) (by omega) (lay_w hk) rfl rfl (ev_fact hk hp (w := 0) (by decide) σ) rfl (Nat.le_of_ble_eq_true rfl) rfl ?_
  refine g_csI hR ciX3_lastsOf dX3_tell_44 ml_X3_81 (Nat.le_of_ble_eq_true rfl) (ev_lastsOf (pf (σ k) p 0) σ) rfl (Nat.le_of_ble_eq_true rfl) rfl ?_
  exact hE dX3_tell_47 (rfl) (rfl)
set_option maxRecDepth 100000 in
set_option maxHeartbeats 4000000 in
theorem ev_tell6 {k n p : Nat} {d : Int} (hk : k < 3) (hp : p < 8) (σ : Hp) (hG : Gd (σ k) n d) (hd : d < 1000000) : CtI yX3_tell wX3_tell 3 [.ref (3 * k + 1), .int (nI p), .int 6] σ (pulF (σ k) p) (σ) := by
  refine CtI.of (by decide) (Nat.le_of_ble_eq_true rfl) rfl rfl (fun G hR hE => ?_)
  refine g_il_2 hR dX3_tell_0 ?_
  refine g_tin (off := 31) (tgt := 32) hR dX3_tell_1 (by decide) (by decide) (by decide) (by decide) ?_
  refine g_al_0 hR dX3_tell_32 ?_
  refine g_il_1 hR dX3_tell_33 ?_
  refine g_cvI hR ciX3_pullOf dX3_tell_34 ml_X3_77 (Nat.le_of_ble_eq_true rfl) (by omega) (lay_w hk) rfl rfl (ev_pullOf hk hp σ hG hd) rfl (Nat.le_of_ble_eq_true rfl) rfl ?_
  exact hE dX3_tell_37 (rfl) (rfl)
set_option maxRecDepth 100000 in
set_option maxHeartbeats 4000000 in
theorem ev_tell0 {k p w : Nat} (hk : k < 3) (hp : p < 8) (hw : w < 6) (σ : Hp) : CtI yX3_tell wX3_tell 3 [.ref (3 * k + 1), .int (nI p), .int (nI w)] σ (pf (σ k) p w) (σ) := by
  refine CtI.of (by decide) (Nat.le_of_ble_eq_true rfl) rfl rfl (fun G hR hE => ?_)
  refine g_il_2 hR dX3_tell_0 ?_
  refine g_tout (tgt := 65) hR dX3_tell_1 (by rw [i_n (by omega)]; omega) (by decide) ?_
  refine g_al_0 hR dX3_tell_65 ?_
  refine g_il_1 hR dX3_tell_66 ?_
  refine g_il_2 hR dX3_tell_67 ?_
  refine g_cvI hR ciX3_fact dX3_tell_68 ml_X3_56 (Nat.le_of_ble_eq_true rfl) (by omega) (lay_w hk) rfl rfl (ev_fact hk hp hw σ) rfl (Nat.le_of_ble_eq_true rfl) rfl ?_
  exact hE dX3_tell_71 (rfl) (rfl)
set_option maxRecDepth 100000 in
set_option maxHeartbeats 4000000 in
theorem ev_feltTo {k n : Nat} {d : Int} (hk : k < 3) (to : Int32) (σ : Hp) (hG : Gd (σ k) n d) (hd : d < 1000000) : CtI yX3_feltTo wX3_feltTo 4 [.ref (3 * k + 1), .int to] σ (tooF (σ k) n to) (σ) := by
  refine CtI.of (by decide) (Nat.le_of_ble_eq_true rfl) rfl rfl (fun G hR hE => ?_)
  have hn8 := hG.1
  have lp : ∀ d j, j + d = n → G 4 [some (.ref (3 * k + 1)), some (.int to), some (.int (sumN (fun p => if pf (σ k) p 1 = to then fltF (σ k) n p else 0) j)), some (.int (nI j))] [] σ := by
    intro d'
    induction d' with
    | zero =>
      intro j hj
      obtain rfl : j = n := by omega
      refine g_il_3 hR dX3_feltTo_4 ?_
      refine g_al_0 hR dX3_feltTo_5 ?_
      refine gf_X3_pieceCount hR hk fl_X3_27 dX3_feltTo_6 ?_
      refine g_top hG.2.1 ?_
      refine g_icmp_ge (tgt := 38) hR dX3_feltTo_9 (by decide) (fun _ => ?_) (fun hc => absurd (Int32.le_refl _) hc)
      refine g_il_2 hR dX3_feltTo_38 ?_
      exact hE dX3_feltTo_39 (rfl) (rfl)
    | succ d' ih =>
      intro j hj
      have e0 := ih (j + 1) (by omega)
      refine g_il_3 hR dX3_feltTo_4 ?_
      refine g_al_0 hR dX3_feltTo_5 ?_
      refine gf_X3_pieceCount hR hk fl_X3_27 dX3_feltTo_6 ?_
      refine g_top hG.2.1 ?_
      refine g_icmp_ge (tgt := 38) hR dX3_feltTo_9 (by decide) (fun hc => absurd hc (nI_ge (by omega) (by omega))) (fun _ => ?_)
      refine g_al_0 hR dX3_feltTo_12 ?_
      refine g_il_3 hR dX3_feltTo_13 ?_
      refine g_iconst_1 hR dX3_feltTo_14 ?_
      refine g_cvI hR ciX3_fact dX3_feltTo_15 ml_X3_56 (Nat.le_of_ble_eq_true rfl) (by omega) (lay_w hk) rfl rfl (ev_fact hk (p := j) (w := 1) (by omega) (by decide) σ) rfl (Nat.le_of_ble_eq_true rfl) rfl ?_
      refine g_il_1 hR dX3_feltTo_18 ?_
      refine g_icmp_ne (tgt := 32) hR dX3_feltTo_19 (by decide) (fun h1 => ?_) (fun h1 => ?_)
      · refine g_inc_3 hR dX3_feltTo_32 trivial ?_
        refine g_goto (tgt := 4) hR dX3_feltTo_35 (by decide) ?_
        rw [sumN, if_neg h1, Int32.add_zero] at e0
        exact e0
      · refine g_il_2 hR dX3_feltTo_22 ?_
        refine g_al_0 hR dX3_feltTo_23 ?_
        refine g_il_3 hR dX3_feltTo_24 ?_
        refine g_bipush_9 hR dX3_feltTo_25 ?_
        refine g_cvI hR ciX3_tell dX3_feltTo_27 ml_X3_101 (Nat.le_of_ble_eq_true rfl) (by omega) (lay_w hk) rfl rfl (ev_tell9 hk (p := j) (by omega) σ hG hd) rfl (Nat.le_of_ble_eq_true rfl) rfl ?_
        refine g_iadd hR dX3_feltTo_30 ?_
        refine g_is_2 hR dX3_feltTo_31 trivial ?_
        refine g_inc_3 hR dX3_feltTo_32 trivial ?_
        refine g_goto (tgt := 4) hR dX3_feltTo_35 (by decide) ?_
        rw [sumN, if_pos h1] at e0
        exact e0
  refine g_iconst_0 hR dX3_feltTo_0 ?_
  refine g_is_2 hR dX3_feltTo_1 trivial ?_
  refine g_iconst_0 hR dX3_feltTo_2 ?_
  refine g_is_3 hR dX3_feltTo_3 trivial ?_
  exact lp n 0 (by omega)
set_option maxRecDepth 100000 in
set_option maxHeartbeats 4000000 in
theorem ev_placeSet {k n : Nat} (hk : k < 3) (hn8 : n ≤ 8) (σ : Hp) (hn : σ k 1 = nI n) : CtI yX3_placeSet wX3_placeSet 1 [.ref (3 * k + 1)] σ (plsN (σ k) n) (σ) := by
  refine CtI.of (by decide) (Nat.le_of_ble_eq_true rfl) rfl rfl (fun G hR hE => ?_)
  have lp : ∀ d j, j + d = n → G 4 [some (.ref (3 * k + 1)), some (.int (plsN (σ k) j)), some (.int (nI j))] [] σ := by
    intro d'
    induction d' with
    | zero =>
      intro j hj
      obtain rfl : j = n := by omega
      refine g_il_2 hR dX3_placeSet_4 ?_
      refine g_al_0 hR dX3_placeSet_5 ?_
      refine gf_X3_pieceCount hR hk fl_X3_27 dX3_placeSet_6 ?_
      refine g_top hn ?_
      refine g_icmp_ge (tgt := 29) hR dX3_placeSet_9 (by decide) (fun _ => ?_) (fun hc => absurd (Int32.le_refl _) hc)
      refine g_il_1 hR dX3_placeSet_29 ?_
      exact hE dX3_placeSet_30 (rfl) (rfl)
    | succ d' ih =>
      intro j hj
      refine g_il_2 hR dX3_placeSet_4 ?_
      refine g_al_0 hR dX3_placeSet_5 ?_
      refine gf_X3_pieceCount hR hk fl_X3_27 dX3_placeSet_6 ?_
      refine g_top hn ?_
      refine g_icmp_ge (tgt := 29) hR dX3_placeSet_9 (by decide) (fun hc => absurd hc (nI_ge (by omega) (by omega))) (fun _ => ?_)
      refine g_il_1 hR dX3_placeSet_12 ?_
      refine g_iconst_1 hR dX3_placeSet_13 ?_
      refine g_al_0 hR dX3_placeSet_14 ?_
      refine g_il_2 hR dX3_placeSet_15 ?_
      refine g_iconst_1 hR dX3_placeSet_16 ?_
      refine g_cvI hR ciX3_fact dX3_placeSet_17 ml_X3_56 (Nat.le_of_ble_eq_true rfl) (by omega) (lay_w hk) rfl rfl (ev_fact hk (p := j) (w := 1) (by omega) (by decide) σ) rfl (Nat.le_of_ble_eq_true rfl) rfl ?_
      refine g_ishl hR dX3_placeSet_20 ?_
      refine g_ior hR dX3_placeSet_21 ?_
      refine g_is_1 hR dX3_placeSet_22 trivial ?_
      refine g_inc_2 hR dX3_placeSet_23 trivial ?_
      refine g_goto (tgt := 4) hR dX3_placeSet_26 (by decide) ?_
      exact ih (j + 1) (by omega)
  refine g_iconst_0 hR dX3_placeSet_0 ?_
  refine g_is_1 hR dX3_placeSet_1 trivial ?_
  refine g_iconst_0 hR dX3_placeSet_2 ?_
  refine g_is_2 hR dX3_placeSet_3 trivial ?_
  exact lp n 0 (by omega)
set_option maxRecDepth 100000 in
set_option maxHeartbeats 4000000 in
theorem ev_mostFelt {k n : Nat} {d : Int} (hk : k < 3) (σ : Hp) (hG : Gd (σ k) n d) (hd : d < 1000000) : CtI yX3_mostFelt wX3_mostFelt 4 [.ref (3 * k + 1)] σ (oI (mstN (σ k) n n)) (σ) := by
  refine CtI.of (by decide) (Nat.le_of_ble_eq_true rfl) rfl rfl (fun G hR hE => ?_)
  have hn8 := hG.1
  have lp : ∀ d' j b x4, j + d' = n → b = (match mstN (σ k) n j with | none => -1 | some q => fltF (σ k) n q) → G 6 [some (.ref (3 * k + 1)), some (.int (oI (mstN (σ k) n j))), some (.int b), some (.int (nI j)), x4] [] σ := by
    intro d'
    induction d' with
    | zero =>
      intro j b x4 hj hb
      obtain rfl : j = n := by omega
      refine g_il_3 hR dX3_mostFelt_6 ?_
      refine g_al_0 hR dX3_mostFelt_7 ?_
      refine gf_X3_pieceCount hR hk fl_X3_27 dX3_mostFelt_8 ?_
      refine g_top hG.2.1 ?_
      refine g_icmp_ge (tgt := 40) hR dX3_mostFelt_11 (by decide) (fun _ => ?_) (fun hc => absurd (Int32.le_refl _) hc)
      refine g_il_1 hR dX3_mostFelt_40 ?_
      exact hE dX3_mostFelt_41 (rfl) (rfl)
    | succ d' ih =>
      intro j b x4 hj hb
      refine g_il_3 hR dX3_mostFelt_6 ?_
      refine g_al_0 hR dX3_mostFelt_7 ?_
      refine gf_X3_pieceCount hR hk fl_X3_27 dX3_mostFelt_8 ?_
      refine g_top hG.2.1 ?_
      refine g_icmp_ge (tgt := 40) hR dX3_mostFelt_11 (by decide) (fun hc => absurd hc (nI_ge (by omega) (by omega))) (fun _ => ?_)
      refine g_al_0 hR dX3_mostFelt_14 ?_
      refine g_il_3 hR dX3_mostFelt_15 ?_
      refine g_bipush_9 hR dX3_mostFelt_16 ?_
      refine g_cvI hR ciX3_tell dX3_mostFelt_18 ml_X3_101 (Nat.le_of_ble_eq_true rfl) (by omega) (lay_w hk) rfl rfl (ev_tell9 hk (p := j) (by omega) σ hG hd) rfl (Nat.le_of_ble_eq_true rfl) rfl ?_
      refine g_is_4 hR dX3_mostFelt_21 trivial ?_
      refine g_il_4 hR dX3_mostFelt_23 ?_
      refine g_il_2 hR dX3_mostFelt_25 ?_
      refine g_icmp_le (tgt := 34) hR dX3_mostFelt_26 (by decide) (fun h1 => ?_) (fun h1 => ?_)
      · refine g_inc_3 hR dX3_mostFelt_34 trivial ?_
        refine g_goto (tgt := 6) hR dX3_mostFelt_37 (by decide) ?_
        cases hm : mstN (σ k) n j with
        | none =>
          rw [hm] at hb
          have := flt_rg (σ k) n j
          rw [hb, i_le] at h1
          exact absurd h1 (by have e : (-1 : Int32).toInt = -1 := rfl; show ¬ _ ≤ (-1 : Int32).toInt; omega)
        | some q =>
          rw [hm] at hb
          have hb : b = fltF (σ k) n q := hb
          have e1 : mstN (σ k) n (j + 1) = some q := by rw [mstN, hm]; show (if fltF (σ k) n q < fltF (σ k) n j then some j else some q) = some q; rw [if_neg]; rw [← hb]; exact Int32.not_lt.mpr h1
          have := ih (j + 1) b (some (.int (fltF (σ k) n j))) (by omega) (by rw [e1]; exact hb)
          rw [e1] at this
          exact this
      · refine g_il_3 hR dX3_mostFelt_29 ?_
        refine g_is_1 hR dX3_mostFelt_30 trivial ?_
        refine g_il_4 hR dX3_mostFelt_31 ?_
        refine g_is_2 hR dX3_mostFelt_33 trivial ?_
        refine g_inc_3 hR dX3_mostFelt_34 trivial ?_
        refine g_goto (tgt := 6) hR dX3_mostFelt_37 (by decide) ?_
        have e1 : mstN (σ k) n (j + 1) = some j := by
          rw [mstN]
          cases hm : mstN (σ k) n j with
          | none => rfl
          | some q =>
            rw [hm] at hb
            have hb : b = fltF (σ k) n q := hb
            show (if fltF (σ k) n q < fltF (σ k) n j then some j else some q) = some j
            rw [if_pos]; rw [← hb]; exact Int32.not_le.mp h1
        have := ih (j + 1) (fltF (σ k) n j) (some (.int (fltF (σ k) n j))) (by omega) (by rw [e1])
        rw [e1] at this
        exact this
  refine g_iconst_m1 hR dX3_mostFelt_0 ?_
  refine g_is_1 hR dX3_mostFelt_1 trivial ?_
  refine g_iconst_m1 hR dX3_mostFelt_2 ?_
  refine g_is_2 hR dX3_mostFelt_3 trivial ?_
  refine g_iconst_0 hR dX3_mostFelt_4 ?_
  refine g_is_3 hR dX3_mostFelt_5 trivial ?_
  exact lp n 0 (-1) none (by omega) rfl
