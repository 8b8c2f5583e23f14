set_option maxRecDepth 100000 in
set_option maxHeartbeats 4000000 in
theorem em_behind {n c j : Nat} {d : Int} (hj : j < 64) (hc : c < 1000) (σ : Hp) (hG : Gd (σ 4) n d) (hd : d + c < 1000000) : CtI yX5_behind wX5_behind 7 [.ref 18, .int (nI j), .int (nI c)] σ (daysF (σ 4) n c j) (bset σ 7 (cpN (σ 4) (σ 7) 64)) := by
  refine CtI.of (by decide) (Nat.le_of_ble_eq_true rfl) rfl rfl (fun G hR hE => ?_)
  have e4 : bset σ 7 (cpN (σ 4) (σ 7) 64) 4 = σ 4 := bset_n (by decide)
  refine g_al_0 hR dX5_behind_0 ?_
  refine g_cvV hR ciX5_laysAside dX5_behind_1 ml_X5_153 (Nat.le_of_ble_eq_true rfl) (by decide) rfl rfl rfl (em_laysAside σ) rfl (Nat.le_of_ble_eq_true rfl) rfl ?_
  refine g_al_0 hR dX5_behind_4 ?_
  refine g_il_2 hR dX5_behind_5 ?_
  refine g_cvV hR ciX5_goesOn dX5_behind_6 ml_X5_139 (Nat.le_of_ble_eq_true rfl) (by decide) rfl rfl rfl (em_goesOn (n := n) (c := c) (d := d) _ (by rw [e4]; exact hG) hd hc) rfl (Nat.le_of_ble_eq_true rfl) rfl ?_
  rw [e4]
  refine g_al_0 hR dX5_behind_9 ?_
  refine g_al_0 hR dX5_behind_10 ?_
  refine gf_X5_s hR fl_X5_7 dX5_behind_11 ?_
  refine g_il_1 hR dX5_behind_14 ?_
  refine ga_19 hR j hj rfl dX5_behind_15 ?_
  refine g_top (show bset (bset σ 7 (cpN (σ 4) (σ 7) 64)) 4 (daysF (σ 4) n c) 4 j = daysF (σ 4) n c j by rw [bset_s]) ?_
  refine g_cvI hR ciX5_takesBack dX5_behind_16 ml_X5_156 (Nat.le_of_ble_eq_true rfl) (by decide) rfl rfl rfl (em_takesBack _ _) rfl (Nat.le_of_ble_eq_true rfl) rfl ?_
  exact hE dX5_behind_19 (rfl) (back_st rfl (fun i hi => daysF_hi hG.1 (by omega) c))
set_option maxRecDepth 100000 in
set_option maxHeartbeats 4000000 in
theorem em_orNone {j : Nat} (hj : j < 1000) (σ : Hp) : CtI yX5_orNone wX5_orNone 1 [.ref 18, .int (nI j)] σ (if 200 < j then -1000004 else nI j) (if 200 < j then fnd σ 14 3 else σ) := by
  refine CtI.of (by decide) (Nat.le_of_ble_eq_true rfl) rfl rfl (fun G hR hE => ?_)
  by_cases h : 200 < j
  · rw [if_pos h, if_pos h] at hE
    refine g_il_1 hR dX5_orNone_0 ?_
    refine g_sipush_200 hR dX5_orNone_1 ?_
    refine g_icmp_le (tgt := 16) hR dX5_orNone_4 (by decide) (fun hc => absurd hc (nI_ge (a := 200) (b := j) h (by omega))) (fun _ => ?_)
    refine g_al_0 hR dX5_orNone_7 ?_
    refine g_ldc hR dX5_orNone_8 kc_X5_162 ?_
    refine g_cvI hR ciX5_finds dX5_orNone_10 ml_X5_60 (Nat.le_of_ble_eq_true rfl) (by decide) rfl rfl rfl (cm_f3 σ) rfl (Nat.le_of_ble_eq_true rfl) rfl ?_
    refine g_goto (tgt := 17) hR dX5_orNone_13 (by decide) ?_
    exact hE dX5_orNone_17 (rfl) (rfl)
  · rw [if_neg h, if_neg h] at hE
    refine g_il_1 hR dX5_orNone_0 ?_
    refine g_sipush_200 hR dX5_orNone_1 ?_
    refine g_icmp_le (tgt := 16) hR dX5_orNone_4 (by decide) (fun _ => ?_) (fun hc => absurd (nI_le (a := j) (b := 200) (by omega) (by decide)) hc)
    refine g_il_1 hR dX5_orNone_16 ?_
    exact hE dX5_orNone_17 (rfl) (rfl)
set_option maxRecDepth 100000 in
set_option maxHeartbeats 4000000 in
theorem cm_where {n : Nat} {d : Int} (a : Int32) (σ : Hp) (hG : Gd (σ 4) n d) (hd : d ≤ 50000) : CtP yX5_where wX5_where 8 [.ref 18, .int a] σ (if 0 ≤ a ∧ a ≤ 100 then daysF (σ 4) n a.toNatClampNeg 2 else -1000001) (fun σ' => Eb σ' (if 0 ≤ a ∧ a ≤ 100 then σ else fnd σ 14 0)) := by
  refine CtP.of (by decide) (Nat.le_of_ble_eq_true rfl) rfl rfl (fun G hR hE => ?_)
  refine g_il_1 hR dX5_where_0 ?_
  refine g_i2l hR dX5_where_1 ?_
  refine g_lconst (v := 0) hR dX5_where_2 (by decide) ?_
  refine g_ldc2 hR dX5_where_3 kl_X5_151 ?_
  refine g_csI hR ciX5_in dX5_where_6 ml_X5_43 (Nat.le_of_ble_eq_true rfl) (ev_in a 0 100 rfl rfl σ) rfl (Nat.le_of_ble_eq_true rfl) rfl ?_
  refine g_if_eq (tgt := 21) hR dX5_where_9 (by decide) (fun h => ?_) (fun h => ?_)
  · rw [if_neg (bI_0.mp h), if_neg (bI_0.mp h)] at hE
    refine g_al_0 hR dX5_where_21 ?_
    refine g_ldc hR dX5_where_22 kc_X5_40 ?_
    refine g_cvI hR ciX5_finds dX5_where_24 ml_X5_60 (Nat.le_of_ble_eq_true rfl) (by decide) rfl rfl rfl (cm_f0 σ) rfl (Nat.le_of_ble_eq_true rfl) rfl ?_
    exact hE dX5_where_27 (rfl) (Eb.rf _)
  · have hc := bI_no h
    rw [if_pos hc, if_pos hc] at hE
    obtain ⟨c, hc2, rfl⟩ := nle 100 hc (by decide)
    rw [show (nI c).toNatClampNeg = c from nI_clamp (by omega)] at hE
    refine g_al_0 hR dX5_where_12 ?_
    refine g_iconst_2 hR dX5_where_13 ?_
    refine g_il_1 hR dX5_where_14 ?_
    refine g_cvI hR ciX5_behind dX5_where_15 ml_X5_159 (Nat.le_of_ble_eq_true rfl) (by decide) rfl rfl rfl (em_behind (n := n) (c := c) (j := 2) (by decide) (by omega) σ hG (by omega)) rfl (Nat.le_of_ble_eq_true rfl) rfl ?_
    refine g_goto (tgt := 27) hR dX5_where_18 (by decide) ?_
    exact hE dX5_where_27 (rfl) (Eb.aside σ _)
set_option maxRecDepth 100000 in
set_option maxHeartbeats 4000000 in
theorem cm_ahead {n : Nat} {d : Int} (a b v : Int32) (σ : Hp) (hG : Gd (σ 4) n d) (hd : d ≤ 50000) : CtP yX5_ahead wX5_ahead 7 [.ref 18, .int a, .int b, .int v] σ (if (0 ≤ a ∧ a < σ 4 1) ∧ (2 ≤ b ∧ b ≤ 5 ∨ b = 9) ∧ 0 ≤ v ∧ v ≤ 100 then (if b = 9 then fltF (daysF (σ 4) n v.toNatClampNeg) n a.toNatClampNeg else pf (daysF (σ 4) n v.toNatClampNeg) a.toNatClampNeg b.toNatClampNeg) else -1000001) (fun σ' => Eb σ' (if (0 ≤ a ∧ a < σ 4 1) ∧ (2 ≤ b ∧ b ≤ 5 ∨ b = 9) ∧ 0 ≤ v ∧ v ≤ 100 then σ else fnd σ 14 0)) := by
  refine CtP.of (by decide) (Nat.le_of_ble_eq_true rfl) rfl rfl (fun G hR hE => ?_)
  have hn8 := hG.1
  have bad : ¬ ((0 ≤ a ∧ a < σ 4 1) ∧ (2 ≤ b ∧ b ≤ 5 ∨ b = 9) ∧ 0 ≤ v ∧ v ≤ 100) → G 40 [some (.ref 18), some (.int a), some (.int b), some (.int v)] [] σ := by
    intro h
    rw [if_neg h, if_neg h] at hE
    refine g_al_0 hR dX5_ahead_40 ?_
    refine g_ldc hR dX5_ahead_41 kc_X5_40 ?_
    refine g_cvI hR ciX5_finds dX5_ahead_43 ml_X5_60 (Nat.le_of_ble_eq_true rfl) (by decide) rfl rfl rfl (cm_f0 σ) rfl (Nat.le_of_ble_eq_true rfl) rfl ?_
    exact hE dX5_ahead_46 (rfl) (Eb.rf _)
  have rest : (0 ≤ a ∧ a < σ 4 1) → (2 ≤ b ∧ b ≤ 5 ∨ b = 9) → G 28 [some (.ref 18), some (.int a), some (.int b), some (.int v)] [] σ := by
    intro ha hb
    refine g_il_3 hR dX5_ahead_28 ?_
    refine g_i2l hR dX5_ahead_29 ?_
    refine g_lconst (v := 0) hR dX5_ahead_30 (by decide) ?_
    refine g_ldc2 hR dX5_ahead_31 kl_X5_151 ?_
    refine g_csI hR ciX5_in dX5_ahead_34 ml_X5_43 (Nat.le_of_ble_eq_true rfl) (ev_in v 0 100 rfl rfl σ) rfl (Nat.le_of_ble_eq_true rfl) rfl ?_
    refine g_if_ne (tgt := 47) hR dX5_ahead_37 (by decide) (fun h3 => ?_) (fun h3 => ?_)
    · have hc := And.intro ha (And.intro hb (bI_no h3))
      rw [if_pos hc, if_pos hc] at hE
      obtain ⟨p, hp, rfl⟩ := nlt (n := n) (by rw [← hG.2.1]; exact hc.1) (by omega)
      obtain ⟨c, hc2, rfl⟩ := nle 100 hc.2.2 (by decide)
      rw [show (nI p).toNatClampNeg = p from nI_clamp (by omega), show (nI c).toNatClampNeg = c from nI_clamp (by omega)] at hE
      have e4 : bset σ 7 (cpN (σ 4) (σ 7) 64) 4 = σ 4 := bset_n (by decide)
      have hT := Gd_daysF hG c (by omega)
      refine g_al_0 hR dX5_ahead_47 ?_
      refine g_cvV hR ciX5_laysAside dX5_ahead_48 ml_X5_153 (Nat.le_of_ble_eq_true rfl) (by decide) rfl rfl rfl (em_laysAside σ) rfl (Nat.le_of_ble_eq_true rfl) rfl ?_
      refine g_al_0 hR dX5_ahead_51 ?_
      refine g_il_3 hR dX5_ahead_52 ?_
      refine g_cvV hR ciX5_goesOn dX5_ahead_53 ml_X5_139 (Nat.le_of_ble_eq_true rfl) (by decide) rfl rfl rfl (em_goesOn (n := n) (c := c) (d := d) _ (by rw [e4]; exact hG) (by omega) (by omega)) rfl (Nat.le_of_ble_eq_true rfl) rfl ?_
      rw [e4]
      rcases hb with hb | hb
      · obtain ⟨w, hw, rfl⟩ := nle 5 ⟨Int32.le_trans (by decide) hb.1, hb.2⟩ (by decide)
        have n9 : ¬ nI w = 9 := fun e => by have := (nI_eq (b := 9) (by omega) (by decide)).mp e; omega
        rw [if_neg n9, show (nI w).toNatClampNeg = w from nI_clamp (by omega)] at hE
        refine g_al_0 hR dX5_ahead_56 ?_
        refine g_il_2 hR dX5_ahead_57 ?_
        refine g_bipush_9 hR dX5_ahead_58 ?_
        refine g_icmp_ne (tgt := 71) hR dX5_ahead_60 (by decide) (fun _ => ?_) (fun hc => absurd hc (n9))
        refine g_al_0 hR dX5_ahead_71 ?_
        refine g_il_1 hR dX5_ahead_72 ?_
        refine g_il_2 hR dX5_ahead_73 ?_
        refine g_cvI hR ciX5_its dX5_ahead_74 ml_X5_73 (Nat.le_of_ble_eq_true rfl) (by decide) rfl rfl rfl ((em_its (p := p) (w := w) (by omega) (by omega) _).weak (congrArg (fun S => pf S p w) (bset_s _ 4 (daysF (σ 4) n c)))) rfl (Nat.le_of_ble_eq_true rfl) rfl ?_
        refine g_cvI hR ciX5_takesBack dX5_ahead_77 ml_X5_156 (Nat.le_of_ble_eq_true rfl) (by decide) rfl rfl rfl (em_takesBack _ _) rfl (Nat.le_of_ble_eq_true rfl) rfl ?_
        exact hE dX5_ahead_80 (rfl) (by rw [back_st rfl (fun i hi => daysF_hi hn8 (by omega) c)]; exact Eb.aside σ _)
      · subst hb
        rw [if_pos rfl] at hE
        refine g_al_0 hR dX5_ahead_56 ?_
        refine g_il_2 hR dX5_ahead_57 ?_
        refine g_bipush_9 hR dX5_ahead_58 ?_
        refine g_icmp_ne (tgt := 71) hR dX5_ahead_60 (by decide) (fun hc => absurd (rfl) hc) (fun _ => ?_)
        refine g_al_0 hR dX5_ahead_63 ?_
        refine g_il_1 hR dX5_ahead_64 ?_
        refine g_cvI hR ciX5_feltOf dX5_ahead_65 ml_X5_103 (Nat.le_of_ble_eq_true rfl) (by decide) rfl rfl rfl ((em_feltOf (p := p) (n := n) (d := d + c) hp _ (by rw [bset_s]; exact hT)).weak (congrArg (fun S => fltF S n p) (bset_s _ 4 (daysF (σ 4) n c)))) rfl (Nat.le_of_ble_eq_true rfl) rfl ?_
        refine g_goto (tgt := 77) hR dX5_ahead_68 (by decide) ?_
        refine g_cvI hR ciX5_takesBack dX5_ahead_77 ml_X5_156 (Nat.le_of_ble_eq_true rfl) (by decide) rfl rfl rfl (em_takesBack _ _) rfl (Nat.le_of_ble_eq_true rfl) rfl ?_
        exact hE dX5_ahead_80 (rfl) (by rw [back_st rfl (fun i hi => daysF_hi hn8 (by omega) c)]; exact Eb.aside σ _)
    · exact bad (fun q => bI_0.mp h3 q.2.2)
  refine g_al_0 hR dX5_ahead_0 ?_
  refine g_il_1 hR dX5_ahead_1 ?_
  refine g_cvI hR ciX5_isPiece dX5_ahead_2 ml_X5_95 (Nat.le_of_ble_eq_true rfl) (by decide) rfl rfl rfl (em_isPiece a hn8 σ hG.2.1) rfl (Nat.le_of_ble_eq_true rfl) rfl ?_
  refine g_if_eq (tgt := 40) hR dX5_ahead_5 (by decide) (fun h1 => ?_) (fun h1 => ?_)
  · exact bad (fun q => bI_0.mp h1 q.1)
  · refine g_il_2 hR dX5_ahead_8 ?_
    refine g_i2l hR dX5_ahead_9 ?_
    refine g_ldc2 hR dX5_ahead_10 kl_X5_149 ?_
    refine g_ldc2 hR dX5_ahead_13 kl_X5_108 ?_
    refine g_csI hR ciX5_in dX5_ahead_16 ml_X5_43 (Nat.le_of_ble_eq_true rfl) (ev_in b 2 5 rfl rfl σ) rfl (Nat.le_of_ble_eq_true rfl) rfl ?_
    refine g_if_ne (tgt := 28) hR dX5_ahead_19 (by decide) (fun h2 => ?_) (fun h2 => ?_)
    · exact rest (bI_no h1) (Or.inl (bI_no h2))
    · refine g_il_2 hR dX5_ahead_22 ?_
      refine g_bipush_9 hR dX5_ahead_23 ?_
      refine g_icmp_ne (tgt := 40) hR dX5_ahead_25 (by decide) (fun h3 => ?_) (fun h3 => ?_)
      · exact bad (fun q => q.2.1.elim (bI_0.mp h2) h3)
      · exact rest (bI_no h1) (Or.inr h3)
set_option maxRecDepth 100000 in
set_option maxHeartbeats 4000000 in
theorem cm_when {n : Nat} {d : Int} (a : Int32) (σ : Hp) (hG : Gd (σ 4) n d) (hd : d ≤ 50000) : CtP yX5_when wX5_when 6 [.ref 18, .int a] σ (if 0 ≤ a ∧ a ≤ 11 then rsV (fstN (fun j => decide (daysF (σ 4) n j 2 = a)) 201) else -1000001) (fun σ' => Eb σ' (if 0 ≤ a ∧ a ≤ 11 then rsT σ 14 (fstN (fun j => decide (daysF (σ 4) n j 2 = a)) 201) else fnd σ 14 0)) := by
  refine CtP.of (by decide) (Nat.le_of_ble_eq_true rfl) rfl rfl (fun G hR hE => ?_)
  have hn8 := hG.1
  have e4 : bset σ 7 (cpN (σ 4) (σ 7) 64) 4 = σ 4 := bset_n (by decide)
  refine g_il_1 hR dX5_when_0 ?_
  refine g_csI hR ciX5_isPlace dX5_when_1 ml_X5_53 (Nat.le_of_ble_eq_true rfl) (em_isPlace a σ) rfl (Nat.le_of_ble_eq_true rfl) rfl ?_
  refine g_if_ne (tgt := 14) hR dX5_when_4 (by decide) (fun h => ?_) (fun h => ?_)
  · rw [if_pos (bI_no h), if_pos (bI_no h)] at hE
    have lp : ∀ d' j, j + d' = 201 → fstN (fun j => decide (daysF (σ 4) n j 2 = a)) j = none → G 20 [some (.ref 18), some (.int a), some (.int (nI j))] [] (bset (bset σ 7 (cpN (σ 4) (σ 7) 64)) 4 (daysF (σ 4) n j)) := by
      intro d'
      induction d' with
      | zero =>
        intro j hj hf
        have e201 : j = 201 := by omega
        have hf2 := hf
        rw [e201] at hf2
        rw [hf2] at hE
        refine g_il_2 hR dX5_when_20 ?_
        refine g_sipush_200 hR dX5_when_21 ?_
        refine g_icmp_gt (tgt := 47) hR dX5_when_24 (by decide) (fun _ => ?_) (fun hc => absurd (nI_lt (a := 200) (b := j) (by omega) (by omega)) hc)
        refine g_al_0 hR dX5_when_47 ?_
        refine g_al_0 hR dX5_when_48 ?_
        refine g_il_2 hR dX5_when_49 ?_
        refine g_cvI hR ciX5_takesBack dX5_when_50 ml_X5_156 (Nat.le_of_ble_eq_true rfl) (by decide) rfl rfl rfl (em_takesBack _ _) rfl (Nat.le_of_ble_eq_true rfl) rfl ?_
        rw [back_st rfl (fun i hi => daysF_hi hn8 (by omega) j)]
        refine g_cvI hR ciX5_orNone dX5_when_53 ml_X5_163 (Nat.le_of_ble_eq_true rfl) (by decide) rfl rfl rfl (em_orNone (j := j) (by omega) _) rfl (Nat.le_of_ble_eq_true rfl) rfl ?_
        exact hE dX5_when_56 (if_pos (by omega)) (by rw [if_pos (by omega)]; exact Eb.fn (Eb.aside σ _) 3 (by decide) (by decide) (by decide) (by decide))
      | succ d' ih =>
        intro j hj hf
        refine g_il_2 hR dX5_when_20 ?_
        refine g_sipush_200 hR dX5_when_21 ?_
        refine g_icmp_gt (tgt := 47) hR dX5_when_24 (by decide) (fun hc => absurd hc (nI_nlt (a := 200) (b := j) (by omega) (by decide))) (fun _ => ?_)
        refine g_al_0 hR dX5_when_27 ?_
        refine gf_X5_s hR fl_X5_7 dX5_when_28 ?_
        refine g_iconst_2 hR dX5_when_31 ?_
        refine ga_19 hR 2 (by decide) rfl dX5_when_32 ?_
        refine g_top (show bset (bset σ 7 (cpN (σ 4) (σ 7) 64)) 4 (daysF (σ 4) n j) 4 2 = daysF (σ 4) n j 2 by rw [bset_s]) ?_
        refine g_il_1 hR dX5_when_33 ?_
        refine g_icmp_eq (tgt := 47) hR dX5_when_34 (by decide) (fun h2 => ?_) (fun h2 => ?_)
        · have hfst := fstN_first hf (decide_eq_true h2) d'
          rw [show j + 1 + d' = 201 by omega] at hfst
          rw [hfst] at hE
          refine g_al_0 hR dX5_when_47 ?_
          refine g_al_0 hR dX5_when_48 ?_
          refine g_il_2 hR dX5_when_49 ?_
          refine g_cvI hR ciX5_takesBack dX5_when_50 ml_X5_156 (Nat.le_of_ble_eq_true rfl) (by decide) rfl rfl rfl (em_takesBack _ _) rfl (Nat.le_of_ble_eq_true rfl) rfl ?_
          rw [back_st rfl (fun i hi => daysF_hi hn8 (by omega) j)]
          refine g_cvI hR ciX5_orNone dX5_when_53 ml_X5_163 (Nat.le_of_ble_eq_true rfl) (by decide) rfl rfl rfl (em_orNone (j := j) (by omega) _) rfl (Nat.le_of_ble_eq_true rfl) rfl ?_
          exact hE dX5_when_56 (if_neg (by omega)) (by rw [if_neg (by omega)]; exact Eb.aside σ _)
        · refine g_al_0 hR dX5_when_37 ?_
          refine g_cvV hR ciX5_day dX5_when_38 ml_X5_134 (Nat.le_of_ble_eq_true rfl) (by decide) rfl rfl rfl (em_day (n := n) (d := d + j) _ (by rw [bset_s]; exact Gd_daysF hG j (by omega)) (by omega)) rfl (Nat.le_of_ble_eq_true rfl) rfl ?_
          refine g_inc_2 hR dX5_when_41 trivial ?_
          refine g_goto (tgt := 20) hR dX5_when_44 (by decide) ?_
          rw [bset_s, bset_bset]
          exact ih (j + 1) (by omega) (fstN_none hf (decide_eq_false h2))
    refine g_al_0 hR dX5_when_14 ?_
    refine g_cvV hR ciX5_laysAside dX5_when_15 ml_X5_153 (Nat.le_of_ble_eq_true rfl) (by decide) rfl rfl rfl (em_laysAside σ) rfl (Nat.le_of_ble_eq_true rfl) rfl ?_
    refine g_iconst_0 hR dX5_when_18 ?_
    refine g_is_2 hR dX5_when_19 trivial ?_
    refine g_eq (τ := bset (bset σ 7 (cpN (σ 4) (σ 7) 64)) 4 (daysF (σ 4) n 0)) (by have h2 := bset_id (bset σ 7 (cpN (σ 4) (σ 7) 64)) 4; rw [e4] at h2; exact h2.symm) ?_
    exact lp 201 0 rfl rfl
  · rw [if_neg (bI_0.mp h), if_neg (bI_0.mp h)] at hE
    refine g_al_0 hR dX5_when_7 ?_
    refine g_ldc hR dX5_when_8 kc_X5_40 ?_
    refine g_cvI hR ciX5_finds dX5_when_10 ml_X5_60 (Nat.le_of_ble_eq_true rfl) (by decide) rfl rfl rfl (cm_f0 σ) rfl (Nat.le_of_ble_eq_true rfl) rfl ?_
    exact hE dX5_when_13 (rfl) (Eb.rf _)
set_option maxRecDepth 100000 in
set_option maxHeartbeats 4000000 in
theorem em_moreIn {n i : Nat} {d : Int} (hi : i < 64) (σ : Hp) (hG : Gd (σ 4) n d) (hd : d ≤ 50000) : CtP yX5_moreIn wX5_moreIn 6 [.ref 18, .int (nI i)] σ (rsV (fstN (fun j => decide (σ 4 i < daysF (σ 4) n j i)) 201)) (fun σ' => Eb σ' (rsT σ 14 (fstN (fun j => decide (σ 4 i < daysF (σ 4) n j i)) 201))) := by
  refine CtP.of (by decide) (Nat.le_of_ble_eq_true rfl) rfl rfl (fun G hR hE => ?_)
  have hn8 := hG.1
  have e4 : bset σ 7 (cpN (σ 4) (σ 7) 64) 4 = σ 4 := bset_n (by decide)
  have lp : ∀ d' j, j + d' = 201 → fstN (fun j => decide (σ 4 i < daysF (σ 4) n j i)) j = none → G 13 [some (.ref 18), some (.int (nI i)), some (.int (σ 4 i)), some (.int (nI j))] [] (bset (bset σ 7 (cpN (σ 4) (σ 7) 64)) 4 (daysF (σ 4) n j)) := by
    intro d'
    induction d' with
    | zero =>
      intro j hj hf
      have e201 : j = 201 := by omega
      have hf2 := hf
      rw [e201] at hf2
      rw [hf2] at hE
      refine g_il_3 hR dX5_moreIn_13 ?_
      refine g_sipush_200 hR dX5_moreIn_14 ?_
      refine g_icmp_gt (tgt := 40) hR dX5_moreIn_17 (by decide) (fun _ => ?_) (fun hc => absurd (nI_lt (a := 200) (b := j) (by omega) (by omega)) hc)
      refine g_al_0 hR dX5_moreIn_40 ?_
      refine g_al_0 hR dX5_moreIn_41 ?_
      refine g_il_3 hR dX5_moreIn_42 ?_
      refine g_cvI hR ciX5_takesBack dX5_moreIn_43 ml_X5_156 (Nat.le_of_ble_eq_true rfl) (by decide) rfl rfl rfl (em_takesBack _ _) rfl (Nat.le_of_ble_eq_true rfl) rfl ?_
      rw [back_st rfl (fun i hi => daysF_hi hn8 (by omega) j)]
      refine g_cvI hR ciX5_orNone dX5_moreIn_46 ml_X5_163 (Nat.le_of_ble_eq_true rfl) (by decide) rfl rfl rfl (em_orNone (j := j) (by omega) _) rfl (Nat.le_of_ble_eq_true rfl) rfl ?_
      exact hE dX5_moreIn_49 (if_pos (by omega)) (by rw [if_pos (by omega)]; exact Eb.fn (Eb.aside σ _) 3 (by decide) (by decide) (by decide) (by decide))
    | succ d' ih =>
      intro j hj hf
      refine g_il_3 hR dX5_moreIn_13 ?_
      refine g_sipush_200 hR dX5_moreIn_14 ?_
      refine g_icmp_gt (tgt := 40) hR dX5_moreIn_17 (by decide) (fun hc => absurd hc (nI_nlt (a := 200) (b := j) (by omega) (by decide))) (fun _ => ?_)
      refine g_al_0 hR dX5_moreIn_20 ?_
      refine gf_X5_s hR fl_X5_7 dX5_moreIn_21 ?_
      refine g_il_1 hR dX5_moreIn_24 ?_
      refine ga_19 hR i hi rfl dX5_moreIn_25 ?_
      refine g_top (show bset (bset σ 7 (cpN (σ 4) (σ 7) 64)) 4 (daysF (σ 4) n j) 4 i = daysF (σ 4) n j i by rw [bset_s]) ?_
      refine g_il_2 hR dX5_moreIn_26 ?_
      refine g_icmp_gt (tgt := 40) hR dX5_moreIn_27 (by decide) (fun h2 => ?_) (fun h2 => ?_)
      · have hfst := fstN_first hf (decide_eq_true h2) d'
        rw [show j + 1 + d' = 201 by omega] at hfst
        rw [hfst] at hE
        refine g_al_0 hR dX5_moreIn_40 ?_
        refine g_al_0 hR dX5_moreIn_41 ?_
        refine g_il_3 hR dX5_moreIn_42 ?_
        refine g_cvI hR ciX5_takesBack dX5_moreIn_43 ml_X5_156 (Nat.le_of_ble_eq_true rfl) (by decide) rfl rfl rfl (em_takesBack _ _) rfl (Nat.le_of_ble_eq_true rfl) rfl ?_
        rw [back_st rfl (fun i hi => daysF_hi hn8 (by omega) j)]
        refine g_cvI hR ciX5_orNone dX5_moreIn_46 ml_X5_163 (Nat.le_of_ble_eq_true rfl) (by decide) rfl rfl rfl (em_orNone (j := j) (by omega) _) rfl (Nat.le_of_ble_eq_true rfl) rfl ?_
        exact hE dX5_moreIn_49 (if_neg (by omega)) (by rw [if_neg (by omega)]; exact Eb.aside σ _)
      · refine g_al_0 hR dX5_moreIn_30 ?_
        refine g_cvV hR ciX5_day dX5_moreIn_31 ml_X5_134 (Nat.le_of_ble_eq_true rfl) (by decide) rfl rfl rfl (em_day (n := n) (d := d + j) _ (by rw [bset_s]; exact Gd_daysF hG j (by omega)) (by omega)) rfl (Nat.le_of_ble_eq_true rfl) rfl ?_
        refine g_inc_3 hR dX5_moreIn_34 trivial ?_
        refine g_goto (tgt := 13) hR dX5_moreIn_37 (by decide) ?_
        rw [bset_s, bset_bset]
        exact ih (j + 1) (by omega) (fstN_none hf (decide_eq_false h2))
  refine g_al_0 hR dX5_moreIn_0 ?_
  refine gf_X5_s hR fl_X5_7 dX5_moreIn_1 ?_
  refine g_il_1 hR dX5_moreIn_4 ?_
  refine ga_19 hR i hi rfl dX5_moreIn_5 ?_
  refine g_is_2 hR dX5_moreIn_6 trivial ?_
  refine g_al_0 hR dX5_moreIn_7 ?_
  refine g_cvV hR ciX5_laysAside dX5_moreIn_8 ml_X5_153 (Nat.le_of_ble_eq_true rfl) (by decide) rfl rfl rfl (em_laysAside σ) rfl (Nat.le_of_ble_eq_true rfl) rfl ?_
  refine g_iconst_0 hR dX5_moreIn_11 ?_
  refine g_is_3 hR dX5_moreIn_12 trivial ?_
  refine g_eq (τ := bset (bset σ 7 (cpN (σ 4) (σ 7) 64)) 4 (daysF (σ 4) n 0)) (by have h2 := bset_id (bset σ 7 (cpN (σ 4) (σ 7) 64)) 4; rw [e4] at h2; exact h2.symm) ?_
  exact lp 201 0 rfl rfl
