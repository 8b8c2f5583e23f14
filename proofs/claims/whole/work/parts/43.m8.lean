set_option maxRecDepth 100000 in
set_option maxHeartbeats 4000000 in
theorem em_isTold {n s z : Nat} {d : Int} (hs : s < 4) (hz : z ≤ 40) (σ : Hp) (hG : Gd (σ 4) n d) (hd : d ≤ 50000) (hT : σ 12 (4 + s) = nI z) : CtI yX5_isTold wX5_isTold 6 [.ref 18, .int (nI s)] σ (bI (folB (σ 4) (σ 12) n s z = true)) (bset σ 7 (cpN (σ 4) (σ 7) 64)) := by
  refine CtI.of (by decide) (Nat.le_of_ble_eq_true rfl) (bI_nar _) rfl (fun G hR hE => ?_)
  have hn8 := hG.1
  have e4 : bset σ 7 (cpN (σ 4) (σ 7) 64) 4 = σ 4 := bset_n (by decide)
  have e12 : ∀ X, bset (bset σ 7 (cpN (σ 4) (σ 7) 64)) 4 X 12 = σ 12 := fun X => by rw [bset_n (by decide), bset_n (by decide)]
  have yes : ∀ j x4, folB (σ 4) (σ 12) n s z = true → G 68 [some (.ref 18), some (.int (nI s)), some (.int 1), some (.int (nI j)), x4] [] (bset (bset σ 7 (cpN (σ 4) (σ 7) 64)) 4 (daysF (σ 4) n j)) := by
    intro j x4 h
    refine g_al_0 hR dX5_isTold_68 ?_
    refine g_il_2 hR dX5_isTold_69 ?_
    refine g_if_eq (tgt := 77) hR dX5_isTold_70 (by decide) (fun hc => absurd hc ((by decide))) (fun _ => ?_)
    refine g_iconst_1 hR dX5_isTold_73 ?_
    refine g_goto (tgt := 78) hR dX5_isTold_74 (by decide) ?_
    refine g_cvI hR ciX5_takesBack dX5_isTold_78 ml_X5_156 (Nat.le_of_ble_eq_true rfl) (by decide) rfl rfl rfl (em_takesBack _ _) rfl (Nat.le_of_ble_eq_true rfl) rfl ?_
    refine g_iconst_1 hR dX5_isTold_81 ?_
    refine g_icmp_ne (tgt := 89) hR dX5_isTold_82 (by decide) (fun hc => absurd (rfl) hc) (fun _ => ?_)
    refine g_iconst_1 hR dX5_isTold_85 ?_
    refine g_goto (tgt := 90) hR dX5_isTold_86 (by decide) ?_
    exact hE dX5_isTold_90 (bI_t h) (back_st rfl (fun i hi => daysF_hi hn8 (by omega) j))
  have no : ∀ j x4, ¬ folB (σ 4) (σ 12) n s z = true → G 68 [some (.ref 18), some (.int (nI s)), some (.int 0), some (.int (nI j)), x4] [] (bset (bset σ 7 (cpN (σ 4) (σ 7) 64)) 4 (daysF (σ 4) n j)) := by
    intro j x4 h
    refine g_al_0 hR dX5_isTold_68 ?_
    refine g_il_2 hR dX5_isTold_69 ?_
    refine g_if_eq (tgt := 77) hR dX5_isTold_70 (by decide) (fun _ => ?_) (fun hc => absurd (rfl) hc)
    refine g_iconst_0 hR dX5_isTold_77 ?_
    refine g_cvI hR ciX5_takesBack dX5_isTold_78 ml_X5_156 (Nat.le_of_ble_eq_true rfl) (by decide) rfl rfl rfl (em_takesBack _ _) rfl (Nat.le_of_ble_eq_true rfl) rfl ?_
    refine g_iconst_1 hR dX5_isTold_81 ?_
    refine g_icmp_ne (tgt := 89) hR dX5_isTold_82 (by decide) (fun _ => ?_) (fun hc => absurd hc ((by decide)))
    refine g_iconst_0 hR dX5_isTold_89 ?_
    exact hE dX5_isTold_90 (bI_f h) (back_st rfl (fun i hi => daysF_hi hn8 (by omega) j))
  have lp : ∀ d' j x4, j + d' = z → fstN (fun i => decide (¬ (num (σ 12) s i = -1 ∨ num (σ 12) s i = daysF (σ 4) n i 2))) j = none → G 8 [some (.ref 18), some (.int (nI s)), some (.int 1), some (.int (nI j)), x4] [] (bset (bset σ 7 (cpN (σ 4) (σ 7) 64)) 4 (daysF (σ 4) n j)) := by
    intro d'
    induction d' with
    | zero =>
      intro j x4 hj hf
      obtain rfl : j = z := by omega
      refine g_il_3 hR dX5_isTold_8 ?_
      refine g_al_0 hR dX5_isTold_9 ?_
      refine gf_X5_sizeOf hR fl_X5_31 dX5_isTold_10 ?_
      refine g_il_1 hR dX5_isTold_13 ?_
      refine ga_26 hR s hs rfl dX5_isTold_14 ?_
      refine g_top (show _ = nI j by rw [e12]; exact hT) ?_
      refine g_icmp_ge (tgt := 68) hR dX5_isTold_15 (by decide) (fun _ => ?_) (fun hc => absurd (Int32.le_refl _) hc)
      exact yes j x4 (by unfold folB; rw [hf]; rfl)
    | succ d' ih =>
      intro j x4 hj hf
      refine g_il_3 hR dX5_isTold_8 ?_
      refine g_al_0 hR dX5_isTold_9 ?_
      refine gf_X5_sizeOf hR fl_X5_31 dX5_isTold_10 ?_
      refine g_il_1 hR dX5_isTold_13 ?_
      refine ga_26 hR s hs rfl dX5_isTold_14 ?_
      refine g_top (show _ = nI z by rw [e12]; exact hT) ?_
      refine g_icmp_ge (tgt := 68) hR dX5_isTold_15 (by decide) (fun hc => absurd hc (nI_ge (by omega) (by omega))) (fun _ => ?_)
      refine g_il_2 hR dX5_isTold_18 ?_
      refine g_if_eq (tgt := 68) hR dX5_isTold_19 (by decide) (fun hc => absurd hc ((by decide))) (fun _ => ?_)
      refine g_al_0 hR dX5_isTold_22 ?_
      refine gf_X5_numbers hR fl_X5_34 dX5_isTold_23 ?_
      refine g_bipush_40 hR dX5_isTold_26 ?_
      refine g_il_1 hR dX5_isTold_28 ?_
      refine g_imul hR dX5_isTold_29 ?_
      refine g_il_3 hR dX5_isTold_30 ?_
      refine g_iadd hR dX5_isTold_31 ?_
      refine ga_27 hR (40 * s + j) (by omega) (ix40' s j) dX5_isTold_32 ?_
      refine g_top (show _ = num (σ 12) s j by rw [e12]; rfl) ?_
      refine g_is_4 hR dX5_isTold_33 trivial ?_
      refine g_il_4 hR dX5_isTold_35 ?_
      refine g_iconst_m1 hR dX5_isTold_37 ?_
      refine g_icmp_eq (tgt := 52) hR dX5_isTold_38 (by decide) (fun h1 => ?_) (fun h1 => ?_)
      · refine g_iconst_1 hR dX5_isTold_52 ?_
        refine g_goto (tgt := 57) hR dX5_isTold_53 (by decide) ?_
        refine g_is_2 hR dX5_isTold_57 trivial ?_
        refine g_al_0 hR dX5_isTold_58 ?_
        refine g_cvV hR ciX5_day dX5_isTold_59 ml_X5_134 (Nat.le_of_ble_eq_true rfl) (by decide) rfl rfl rfl (em_day (n := n) (d := d + j) _ (by rw [bset_s]; exact Gd_daysF hG j (by omega)) (by omega)) rfl (Nat.le_of_ble_eq_true rfl) rfl ?_
        refine g_inc_3 hR dX5_isTold_62 trivial ?_
        refine g_goto (tgt := 8) hR dX5_isTold_65 (by decide) ?_
        rw [bset_s, bset_bset]
        exact ih (j + 1) _ (by omega) (fstN_none hf (decide_eq_false (fun q => q (Or.inl h1))))
      · refine g_il_4 hR dX5_isTold_41 ?_
        refine g_al_0 hR dX5_isTold_43 ?_
        refine gf_X5_s hR fl_X5_7 dX5_isTold_44 ?_
        refine g_iconst_2 hR dX5_isTold_47 ?_
        refine ga_19 hR 2 (by decide) rfl dX5_isTold_48 ?_
        refine g_top (show _ = daysF (σ 4) n j 2 by rw [bset_s]) ?_
        refine g_icmp_ne (tgt := 56) hR dX5_isTold_49 (by decide) (fun h2 => ?_) (fun h2 => ?_)
        · have hfst := fstN_first hf (decide_eq_true (fun q => q.elim h1 h2)) (z - (j + 1))
          rw [show j + 1 + (z - (j + 1)) = z by omega] at hfst
          have hno : ¬ folB (σ 4) (σ 12) n s z = true := by unfold folB; rw [hfst]; simp
          refine g_iconst_0 hR dX5_isTold_56 ?_
          refine g_is_2 hR dX5_isTold_57 trivial ?_
          refine g_al_0 hR dX5_isTold_58 ?_
          refine g_cvV hR ciX5_day dX5_isTold_59 ml_X5_134 (Nat.le_of_ble_eq_true rfl) (by decide) rfl rfl rfl (em_day (n := n) (d := d + j) _ (by rw [bset_s]; exact Gd_daysF hG j (by omega)) (by omega)) rfl (Nat.le_of_ble_eq_true rfl) rfl ?_
          refine g_inc_3 hR dX5_isTold_62 trivial ?_
          refine g_goto (tgt := 8) hR dX5_isTold_65 (by decide) ?_
          rw [bset_s, bset_bset]
          refine g_eq (τ := bset (bset σ 7 (cpN (σ 4) (σ 7) 64)) 4 (daysF (σ 4) n (j + 1))) rfl ?_
          refine g_il_3 hR dX5_isTold_8 ?_
          refine g_al_0 hR dX5_isTold_9 ?_
          refine gf_X5_sizeOf hR fl_X5_31 dX5_isTold_10 ?_
          refine g_il_1 hR dX5_isTold_13 ?_
          refine ga_26 hR s hs rfl dX5_isTold_14 ?_
          refine g_top (show _ = nI z by rw [e12]; exact hT) ?_
          refine g_icmp_ge (tgt := 68) hR dX5_isTold_15 (by decide) (fun h3 => ?_) (fun h3 => ?_)
          · exact no (j + 1) _ hno
          · refine g_il_2 hR dX5_isTold_18 ?_
            refine g_if_eq (tgt := 68) hR dX5_isTold_19 (by decide) (fun _ => ?_) (fun hc => absurd (rfl) hc)
            exact no (j + 1) _ hno
        · refine g_iconst_1 hR dX5_isTold_52 ?_
          refine g_goto (tgt := 57) hR dX5_isTold_53 (by decide) ?_
          refine g_is_2 hR dX5_isTold_57 trivial ?_
          refine g_al_0 hR dX5_isTold_58 ?_
          refine g_cvV hR ciX5_day dX5_isTold_59 ml_X5_134 (Nat.le_of_ble_eq_true rfl) (by decide) rfl rfl rfl (em_day (n := n) (d := d + j) _ (by rw [bset_s]; exact Gd_daysF hG j (by omega)) (by omega)) rfl (Nat.le_of_ble_eq_true rfl) rfl ?_
          refine g_inc_3 hR dX5_isTold_62 trivial ?_
          refine g_goto (tgt := 8) hR dX5_isTold_65 (by decide) ?_
          rw [bset_s, bset_bset]
          exact ih (j + 1) _ (by omega) (fstN_none hf (decide_eq_false (fun q => q (Or.inr h2))))
  refine g_iconst_1 hR dX5_isTold_0 ?_
  refine g_is_2 hR dX5_isTold_1 trivial ?_
  refine g_al_0 hR dX5_isTold_2 ?_
  refine g_cvV hR ciX5_laysAside dX5_isTold_3 ml_X5_153 (Nat.le_of_ble_eq_true rfl) (by decide) rfl rfl rfl (em_laysAside σ) rfl (Nat.le_of_ble_eq_true rfl) rfl ?_
  refine g_iconst_0 hR dX5_isTold_6 ?_
  refine g_is_3 hR dX5_isTold_7 trivial ?_
  refine g_eq (τ := bset (bset σ 7 (cpN (σ 4) (σ 7) 64)) 4 (daysF (σ 4) n 0)) (by have h2 := bset_id (bset σ 7 (cpN (σ 4) (σ 7) 64)) 4; rw [e4] at h2; exact h2.symm) ?_
  exact lp z 0 none (by omega) rfl
set_option maxRecDepth 100000 in
set_option maxHeartbeats 4000000 in
theorem em_toldBy {n w m : Nat} {d : Int} (hw : w < 6) (hm : m ≤ 11) (hb : (m : Int) ≤ bnd w) (a b : Int32) (σ : Hp) (hG : Gd (σ 4) n d) (hd : d ≤ 50000) (hSh : Sh (σ 12)) : CtP yX5_toldBy wX5_toldBy 7 [.ref 18, .int a, .int b, .int (nI w), .int (nI m)] σ (if 0 ≤ a ∧ a ≤ 3 then (if σ 12 a.toNatClampNeg = 0 then -1000006 else if 0 ≤ b ∧ b < σ 4 1 then setN (fun v => folB (pset (σ 4) b.toNatClampNeg w (nI v)) (σ 12) n a.toNatClampNeg (σ 12 (4 + a.toNatClampNeg)).toNatClampNeg) (m + 1) else -1000001) else -1000001) (fun σ' => Eb σ' (if 0 ≤ a ∧ a ≤ 3 then (if σ 12 a.toNatClampNeg = 0 then fnd σ 14 5 else if 0 ≤ b ∧ b < σ 4 1 then σ else fnd σ 14 0) else fnd σ 14 0)) := by
  refine CtP.of (by decide) (Nat.le_of_ble_eq_true rfl) rfl rfl (fun G hR hE => ?_)
  have hn8 := hG.1
  by_cases ha : 0 ≤ a ∧ a ≤ 3
  · rw [if_pos ha, if_pos ha] at hE
    obtain ⟨s, hs, rfl⟩ := nle 3 ha (by decide)
    rw [show (nI s).toNatClampNeg = s from nI_clamp (by omega)] at hE
    obtain ⟨⟨z, hz, hT⟩, -⟩ := hSh s (by omega)
    by_cases h0 : σ 12 s = 0
    · rw [if_pos h0, if_pos h0] at hE
      refine g_al_0 hR dX5_toldBy_0 ?_
      refine g_il_1 hR dX5_toldBy_1 ?_
      refine g_cvI hR ciX5_wrong dX5_toldBy_2 ml_X5_181 (Nat.le_of_ble_eq_true rfl) (by decide) rfl rfl rfl ((em_wrong (s := s) (by omega) σ).weak (if_pos h0)) rfl (Nat.le_of_ble_eq_true rfl) rfl ?_
      refine g_is_5 hR dX5_toldBy_5 trivial ?_
      refine g_il_5 hR dX5_toldBy_7 ?_
      refine g_if_eq (tgt := 17) hR dX5_toldBy_9 (by decide) (fun hc => absurd hc ((by decide))) (fun _ => ?_)
      refine g_il_5 hR dX5_toldBy_12 ?_
      refine g_goto (tgt := 31) hR dX5_toldBy_14 (by decide) ?_
      refine g_is_5 hR dX5_toldBy_31 trivial ?_
      refine g_il_5 hR dX5_toldBy_33 ?_
      refine g_if_eq (tgt := 45) hR dX5_toldBy_35 (by decide) (fun hc => absurd hc ((by decide))) (fun _ => ?_)
      refine g_al_0 hR dX5_toldBy_38 ?_
      refine g_il_5 hR dX5_toldBy_39 ?_
      refine g_cvI hR ciX5_finds dX5_toldBy_41 ml_X5_60 (Nat.le_of_ble_eq_true rfl) (by decide) rfl rfl rfl (cm_f5 σ) rfl (Nat.le_of_ble_eq_true rfl) rfl ?_
      exact hE dX5_toldBy_44 (rfl) (Eb.rf _)
    · rw [if_neg h0, if_neg h0, hT, show (nI z).toNatClampNeg = z from nI_clamp (by omega)] at hE
      refine g_al_0 hR dX5_toldBy_0 ?_
      refine g_il_1 hR dX5_toldBy_1 ?_
      refine g_cvI hR ciX5_wrong dX5_toldBy_2 ml_X5_181 (Nat.le_of_ble_eq_true rfl) (by decide) rfl rfl rfl ((em_wrong (s := s) (by omega) σ).weak (if_neg h0)) rfl (Nat.le_of_ble_eq_true rfl) rfl ?_
      refine g_is_5 hR dX5_toldBy_5 trivial ?_
      refine g_il_5 hR dX5_toldBy_7 ?_
      refine g_if_eq (tgt := 17) hR dX5_toldBy_9 (by decide) (fun _ => ?_) (fun hc => absurd (rfl) hc)
      refine g_al_0 hR dX5_toldBy_17 ?_
      refine g_il_2 hR dX5_toldBy_18 ?_
      refine g_cvI hR ciX5_isPiece dX5_toldBy_19 ml_X5_95 (Nat.le_of_ble_eq_true rfl) (by decide) rfl rfl rfl (em_isPiece b hn8 σ hG.2.1) rfl (Nat.le_of_ble_eq_true rfl) rfl ?_
      refine g_if_eq (tgt := 29) hR dX5_toldBy_22 (by decide) (fun h => ?_) (fun h => ?_)
      · rw [if_neg (bI_0.mp h), if_neg (bI_0.mp h)] at hE
        refine g_ldc hR dX5_toldBy_29 kc_X5_40 ?_
        refine g_is_5 hR dX5_toldBy_31 trivial ?_
        refine g_il_5 hR dX5_toldBy_33 ?_
        refine g_if_eq (tgt := 45) hR dX5_toldBy_35 (by decide) (fun hc => absurd hc ((by decide))) (fun _ => ?_)
        refine g_al_0 hR dX5_toldBy_38 ?_
        refine g_il_5 hR dX5_toldBy_39 ?_
        refine g_cvI hR ciX5_finds dX5_toldBy_41 ml_X5_60 (Nat.le_of_ble_eq_true rfl) (by decide) rfl rfl rfl (cm_f0 σ) rfl (Nat.le_of_ble_eq_true rfl) rfl ?_
        exact hE dX5_toldBy_44 (rfl) (Eb.rf _)
      · have hc := bI_no h
        rw [if_pos hc, if_pos hc] at hE
        obtain ⟨p, hp, rfl⟩ := nlt (n := n) (by rw [← hG.2.1]; exact hc) (by omega)
        rw [show (nI p).toNatClampNeg = p from nI_clamp (by omega)] at hE
        have lp : ∀ d' j σ' x, j + d' = m + 1 → σ' 4 = pset (σ 4) p w x → Eb (bset σ' 4 (σ 4)) σ → G 59 [some (.ref 18), some (.int (nI s)), some (.int (nI p)), some (.int (nI w)), some (.int (nI m)), some (.int 0), some (.int (pf (σ 4) p w)), some (.int (setN (fun v => folB (pset (σ 4) p w (nI v)) (σ 12) n s z) j)), some (.int (nI j))] [] σ' := by
          intro d'
          induction d' with
          | zero =>
            intro j σ' x hj h4 he
            obtain rfl : j = m + 1 := by omega
            refine g_il_8 hR dX5_toldBy_59 ?_
            refine g_il_4 hR dX5_toldBy_61 ?_
            refine g_icmp_gt (tgt := 105) hR dX5_toldBy_63 (by decide) (fun _ => ?_) (fun hc => absurd (nI_lt (by omega) (by omega)) hc)
            refine g_al_0 hR dX5_toldBy_105 ?_
            refine gf_X5_s hR fl_X5_7 dX5_toldBy_106 ?_
            refine g_il_2 hR dX5_toldBy_109 ?_
            refine g_il_3 hR dX5_toldBy_110 ?_
            refine g_csI hR ciX5_place dX5_toldBy_111 ml_X5_49 (Nat.le_of_ble_eq_true rfl) (em_place p w σ') rfl (Nat.le_of_ble_eq_true rfl) rfl ?_
            refine g_il_6 hR dX5_toldBy_114 ?_
            refine gs_19 hR (6 + (6 * p + w)) (by omega) rfl dX5_toldBy_116 ?_
            refine g_il_7 hR dX5_toldBy_117 ?_
            exact hE dX5_toldBy_119 (rfl) (by rw [hset_pf, h4, pset_pset, pset_same]; exact he)
          | succ d' ih =>
            intro j σ' x hj h4 he
            have e4 : hset σ' 4 (6 + (6 * p + w)) (nI j) 4 = pset (σ 4) p w (nI j) := by rw [hset_pf, bset_s, h4, pset_pset]
            have e12 : hset σ' 4 (6 + (6 * p + w)) (nI j) 12 = σ 12 := by
              have := he 12 (by decide) (by decide) (by decide) (by decide)
              rw [bset_n (by decide)] at this
              rw [hset_e, bset_n (by decide)]; exact this
            have hg : Gd (pset (σ 4) p w (nI j)) n d := Gd_pset hG (by omega) hw (n_rg (by omega) (by have := bnd_le w hw; omega))
            have e1 := ih (j + 1) (bset (hset σ' 4 (6 + (6 * p + w)) (nI j)) 7 (cpN (hset σ' 4 (6 + (6 * p + w)) (nI j) 4) (hset σ' 4 (6 + (6 * p + w)) (nI j) 7) 64)) (nI j) (by omega) (by rw [bset_n (by decide), e4]) ((Eb_tri σ' _ _ _ (σ 4)).tr he)
            rw [setN] at e1
            refine g_il_8 hR dX5_toldBy_59 ?_
            refine g_il_4 hR dX5_toldBy_61 ?_
            refine g_icmp_gt (tgt := 105) hR dX5_toldBy_63 (by decide) (fun hc => absurd hc (nI_nlt (by omega) (by omega))) (fun _ => ?_)
            refine g_al_0 hR dX5_toldBy_66 ?_
            refine gf_X5_s hR fl_X5_7 dX5_toldBy_67 ?_
            refine g_il_2 hR dX5_toldBy_70 ?_
            refine g_il_3 hR dX5_toldBy_71 ?_
            refine g_csI hR ciX5_place dX5_toldBy_72 ml_X5_49 (Nat.le_of_ble_eq_true rfl) (em_place p w σ') rfl (Nat.le_of_ble_eq_true rfl) rfl ?_
            refine g_il_8 hR dX5_toldBy_75 ?_
            refine gs_19 hR (6 + (6 * p + w)) (by omega) rfl dX5_toldBy_77 ?_
            refine g_il_7 hR dX5_toldBy_78 ?_
            refine g_al_0 hR dX5_toldBy_80 ?_
            refine g_il_1 hR dX5_toldBy_81 ?_
            refine g_cvI hR ciX5_isTold dX5_toldBy_82 ml_X5_184 (Nat.le_of_ble_eq_true rfl) (by decide) rfl rfl rfl (em_isTold (n := n) (s := s) (z := z) (d := d) (by omega) hz _ (by rw [e4]; exact hg) hd (by rw [e12]; exact hT)) rfl (Nat.le_of_ble_eq_true rfl) rfl ?_
            refine g_if_eq (tgt := 95) hR dX5_toldBy_85 (by decide) (fun h3 => ?_) (fun h3 => ?_)
            · have h5 := bI_0.mp h3
              rw [e4, e12] at h5
              rw [if_neg h5] at e1
              refine g_iconst_0 hR dX5_toldBy_95 ?_
              refine g_ior hR dX5_toldBy_96 ?_
              refine g_top (or_0 _) ?_
              refine g_is_7 hR dX5_toldBy_97 trivial ?_
              refine g_inc_8 hR dX5_toldBy_99 trivial ?_
              refine g_goto (tgt := 59) hR dX5_toldBy_102 (by decide) ?_
              exact e1
            · have h5 := bI_no h3
              rw [e4, e12] at h5
              rw [if_pos h5] at e1
              refine g_iconst_1 hR dX5_toldBy_88 ?_
              refine g_il_8 hR dX5_toldBy_89 ?_
              refine g_ishl hR dX5_toldBy_91 ?_
              refine g_goto (tgt := 96) hR dX5_toldBy_92 (by decide) ?_
              refine g_ior hR dX5_toldBy_96 ?_
              refine g_is_7 hR dX5_toldBy_97 trivial ?_
              refine g_inc_8 hR dX5_toldBy_99 trivial ?_
              refine g_goto (tgt := 59) hR dX5_toldBy_102 (by decide) ?_
              exact e1
        refine g_iconst_0 hR dX5_toldBy_25 ?_
        refine g_goto (tgt := 31) hR dX5_toldBy_26 (by decide) ?_
        refine g_is_5 hR dX5_toldBy_31 trivial ?_
        refine g_il_5 hR dX5_toldBy_33 ?_
        refine g_if_eq (tgt := 45) hR dX5_toldBy_35 (by decide) (fun _ => ?_) (fun hc => absurd (rfl) hc)
        refine g_al_0 hR dX5_toldBy_45 ?_
        refine g_il_2 hR dX5_toldBy_46 ?_
        refine g_il_3 hR dX5_toldBy_47 ?_
        refine g_cvI hR ciX5_its dX5_toldBy_48 ml_X5_73 (Nat.le_of_ble_eq_true rfl) (by decide) rfl rfl rfl (em_its (p := p) (w := w) (by omega) hw σ) rfl (Nat.le_of_ble_eq_true rfl) rfl ?_
        refine g_is_6 hR dX5_toldBy_51 trivial ?_
        refine g_iconst_0 hR dX5_toldBy_53 ?_
        refine g_is_7 hR dX5_toldBy_54 trivial ?_
        refine g_iconst_0 hR dX5_toldBy_56 ?_
        refine g_is_8 hR dX5_toldBy_57 trivial ?_
        exact lp (m + 1) 0 σ (pf (σ 4) p w) (by omega) (pset_same _ _ _).symm (by rw [bset_id]; exact Eb.rf σ)
  · rw [if_neg ha, if_neg ha] at hE
    refine g_al_0 hR dX5_toldBy_0 ?_
    refine g_il_1 hR dX5_toldBy_1 ?_
    refine g_cvI hR ciX5_wrong dX5_toldBy_2 ml_X5_181 (Nat.le_of_ble_eq_true rfl) (by decide) rfl rfl rfl (em_wrong_out ha σ) rfl (Nat.le_of_ble_eq_true rfl) rfl ?_
    refine g_is_5 hR dX5_toldBy_5 trivial ?_
    refine g_il_5 hR dX5_toldBy_7 ?_
    refine g_if_eq (tgt := 17) hR dX5_toldBy_9 (by decide) (fun hc => absurd hc ((by decide))) (fun _ => ?_)
    refine g_il_5 hR dX5_toldBy_12 ?_
    refine g_goto (tgt := 31) hR dX5_toldBy_14 (by decide) ?_
    refine g_is_5 hR dX5_toldBy_31 trivial ?_
    refine g_il_5 hR dX5_toldBy_33 ?_
    refine g_if_eq (tgt := 45) hR dX5_toldBy_35 (by decide) (fun hc => absurd hc ((by decide))) (fun _ => ?_)
    refine g_al_0 hR dX5_toldBy_38 ?_
    refine g_il_5 hR dX5_toldBy_39 ?_
    refine g_cvI hR ciX5_finds dX5_toldBy_41 ml_X5_60 (Nat.le_of_ble_eq_true rfl) (by decide) rfl rfl rfl (cm_f0 σ) rfl (Nat.le_of_ble_eq_true rfl) rfl ?_
    exact hE dX5_toldBy_44 (rfl) (Eb.rf _)
set_option maxRecDepth 100000 in
set_option maxHeartbeats 4000000 in
theorem cm_fits {n : Nat} {d : Int} (a b : Int32) (σ : Hp) (hG : Gd (σ 4) n d) (hd : d ≤ 50000) (hSh : Sh (σ 12)) : CtP yX5_fits wX5_fits 8 [.ref 18, .int a, .int b] σ (if 0 ≤ a ∧ a ≤ 3 then (if σ 12 a.toNatClampNeg = 0 then -1000006 else if 0 ≤ b ∧ b < σ 4 1 then setN (fun v => folB (pset (σ 4) b.toNatClampNeg 1 (nI v)) (σ 12) n a.toNatClampNeg (σ 12 (4 + a.toNatClampNeg)).toNatClampNeg) 12 else -1000001) else -1000001) (fun σ' => Eb σ' (if 0 ≤ a ∧ a ≤ 3 then (if σ 12 a.toNatClampNeg = 0 then fnd σ 14 5 else if 0 ≤ b ∧ b < σ 4 1 then σ else fnd σ 14 0) else fnd σ 14 0)) := by
  refine CtP.of (by decide) (Nat.le_of_ble_eq_true rfl) rfl rfl (fun G hR hE => ?_)
  refine g_al_0 hR dX5_fits_0 ?_
  refine g_il_1 hR dX5_fits_1 ?_
  refine g_il_2 hR dX5_fits_2 ?_
  refine g_iconst_1 hR dX5_fits_3 ?_
  refine g_bipush_11 hR dX5_fits_4 ?_
  refine g_cvP hR ciX5_toldBy dX5_fits_6 ml_X5_187 (Nat.le_of_ble_eq_true rfl) (by decide) rfl rfl rfl (em_toldBy (w := 1) (m := 11) (by decide) (by decide) (by decide) a b σ hG hd hSh) rfl (Nat.le_of_ble_eq_true rfl) rfl (fun σ2 h2 => ?_)
  exact hE dX5_fits_9 (rfl) (h2)
set_option maxRecDepth 100000 in
set_option maxHeartbeats 4000000 in
theorem cm_kinds {n : Nat} {d : Int} (a b : Int32) (σ : Hp) (hG : Gd (σ 4) n d) (hd : d ≤ 50000) (hSh : Sh (σ 12)) : CtP yX5_kinds wX5_kinds 8 [.ref 18, .int a, .int b] σ (if 0 ≤ a ∧ a ≤ 3 then (if σ 12 a.toNatClampNeg = 0 then -1000006 else if 0 ≤ b ∧ b < σ 4 1 then setN (fun v => folB (pset (σ 4) b.toNatClampNeg 0 (nI v)) (σ 12) n a.toNatClampNeg (σ 12 (4 + a.toNatClampNeg)).toNatClampNeg) 7 else -1000001) else -1000001) (fun σ' => Eb σ' (if 0 ≤ a ∧ a ≤ 3 then (if σ 12 a.toNatClampNeg = 0 then fnd σ 14 5 else if 0 ≤ b ∧ b < σ 4 1 then σ else fnd σ 14 0) else fnd σ 14 0)) := by
  refine CtP.of (by decide) (Nat.le_of_ble_eq_true rfl) rfl rfl (fun G hR hE => ?_)
  refine g_al_0 hR dX5_kinds_0 ?_
  refine g_il_1 hR dX5_kinds_1 ?_
  refine g_il_2 hR dX5_kinds_2 ?_
  refine g_iconst_0 hR dX5_kinds_3 ?_
  refine g_bipush_6 hR dX5_kinds_4 ?_
  refine g_cvP hR ciX5_toldBy dX5_kinds_6 ml_X5_187 (Nat.le_of_ble_eq_true rfl) (by decide) rfl rfl rfl (em_toldBy (w := 0) (m := 6) (by decide) (by decide) (by decide) a b σ hG hd hSh) rfl (Nat.le_of_ble_eq_true rfl) rfl (fun σ2 h2 => ?_)
  exact hE dX5_kinds_9 (rfl) (h2)
set_option maxRecDepth 100000 in
set_option maxHeartbeats 4000000 in
theorem cm_copy (a f b o n : Int32) (σ : Hp) (hSh : Sh (σ 12)) : CtP yX5_copy wX5_copy 2 [.ref 18, .int a, .int f, .int b, .int o, .int n] σ (if (0 ≤ a ∧ a ≤ 3) ∧ 0 ≤ b ∧ b ≤ 3 then (if σ 12 a.toNatClampNeg = 0 ∨ σ 12 b.toNatClampNeg = 0 then -1000006 else if σ 12 a.toNatClampNeg = σ 12 b.toNatClampNeg then (if rgB f n (σ 12 (4 + a.toNatClampNeg)).toNatClampNeg = 0 ∨ rgB o n (σ 12 (4 + b.toNatClampNeg)).toNatClampNeg = 0 then -1000001 else n) else -1000003) else -1000001) (fun σ' => Eb σ' (if (0 ≤ a ∧ a ≤ 3) ∧ 0 ≤ b ∧ b ≤ 3 then (if σ 12 a.toNatClampNeg = 0 ∨ σ 12 b.toNatClampNeg = 0 then fnd σ 14 5 else if σ 12 a.toNatClampNeg = σ 12 b.toNatClampNeg then (if rgB f n (σ 12 (4 + a.toNatClampNeg)).toNatClampNeg = 0 ∨ rgB o n (σ 12 (4 + b.toNatClampNeg)).toNatClampNeg = 0 then fnd σ 14 0 else bset σ 12 (movS (σ 12) a.toNatClampNeg f.toNatClampNeg b.toNatClampNeg o.toNatClampNeg n.toNatClampNeg)) else fnd σ 14 2) else fnd σ 14 0)) := by
  refine CtP.of (by decide) (Nat.le_of_ble_eq_true rfl) rfl rfl (fun G hR hE => ?_)
  have bad : ¬ ((0 ≤ a ∧ a ≤ 3) ∧ 0 ≤ b ∧ b ≤ 3) → G 14 [some (.ref 18), some (.int a), some (.int f), some (.int b), some (.int o), some (.int n), none] [] σ := by
    intro h
    rw [if_neg h, if_neg h] at hE
    refine g_al_0 hR dX5_copy_14 ?_
    refine g_ldc hR dX5_copy_15 kc_X5_40 ?_
    refine g_cvI hR ciX5_finds dX5_copy_17 ml_X5_60 (Nat.le_of_ble_eq_true rfl) (by decide) rfl rfl rfl (cm_f0 σ) rfl (Nat.le_of_ble_eq_true rfl) rfl ?_
    exact hE dX5_copy_20 (rfl) (Eb.rf _)
  refine g_il_1 hR dX5_copy_0 ?_
  refine g_csI hR ciX5_isOne dX5_copy_1 ml_X5_302 (Nat.le_of_ble_eq_true rfl) (em_isOne a σ) rfl (Nat.le_of_ble_eq_true rfl) rfl ?_
  refine g_if_eq (tgt := 14) hR dX5_copy_4 (by decide) (fun h => ?_) (fun h => ?_)
  · exact bad (fun q => bI_0.mp h q.1)
  · refine g_il_3 hR dX5_copy_7 ?_
    refine g_csI hR ciX5_isOne dX5_copy_8 ml_X5_302 (Nat.le_of_ble_eq_true rfl) (em_isOne b σ) rfl (Nat.le_of_ble_eq_true rfl) rfl ?_
    refine g_if_ne (tgt := 21) hR dX5_copy_11 (by decide) (fun h2 => ?_) (fun h2 => ?_)
    · have hc := And.intro (bI_no h) (bI_no h2)
      rw [if_pos hc, if_pos hc] at hE
      obtain ⟨s, hs, rfl⟩ := nle 3 hc.1 (by decide)
      obtain ⟨t, ht, rfl⟩ := nle 3 hc.2 (by decide)
      rw [show (nI s).toNatClampNeg = s from nI_clamp (by omega), show (nI t).toNatClampNeg = t from nI_clamp (by omega)] at hE
      obtain ⟨⟨z, hz, hT⟩, -⟩ := hSh s (by omega)
      obtain ⟨⟨y, hy, hU⟩, -⟩ := hSh t (by omega)
      rw [hT, hU, show (nI z).toNatClampNeg = z from nI_clamp (by omega), show (nI y).toNatClampNeg = y from nI_clamp (by omega)] at hE
      have miss : (σ 12 s = 0 ∨ σ 12 t = 0) → G 39 [some (.ref 18), some (.int (nI s)), some (.int f), some (.int (nI t)), some (.int o), some (.int n), none] [] σ := by
        intro h
        rw [if_pos h, if_pos h] at hE
        refine g_al_0 hR dX5_copy_39 ?_
        refine g_ldcw hR dX5_copy_40 kc_X5_295 ?_
        refine g_cvI hR ciX5_finds dX5_copy_43 ml_X5_60 (Nat.le_of_ble_eq_true rfl) (by decide) rfl rfl rfl (cm_f5 σ) rfl (Nat.le_of_ble_eq_true rfl) rfl ?_
        exact hE dX5_copy_46 (rfl) (Eb.rf _)
      refine g_al_0 hR dX5_copy_21 ?_
      refine gf_X5_bitsOf hR fl_X5_28 dX5_copy_22 ?_
      refine g_il_1 hR dX5_copy_25 ?_
      refine ga_25 hR s (by omega) rfl dX5_copy_26 ?_
      refine g_if_eq (tgt := 39) hR dX5_copy_27 (by decide) (fun h3 => ?_) (fun h3 => ?_)
      · exact miss (Or.inl h3)
      · refine g_al_0 hR dX5_copy_30 ?_
        refine gf_X5_bitsOf hR fl_X5_28 dX5_copy_31 ?_
        refine g_il_3 hR dX5_copy_34 ?_
        refine ga_25 hR t (by omega) rfl dX5_copy_35 ?_
        refine g_if_ne (tgt := 47) hR dX5_copy_36 (by decide) (fun h4 => ?_) (fun h4 => ?_)
        · have hm : ¬ (σ 12 s = 0 ∨ σ 12 t = 0) := fun q => q.elim h3 h4
          rw [if_neg hm, if_neg hm] at hE
          refine g_al_0 hR dX5_copy_47 ?_
          refine gf_X5_bitsOf hR fl_X5_28 dX5_copy_48 ?_
          refine g_il_1 hR dX5_copy_51 ?_
          refine ga_25 hR s (by omega) rfl dX5_copy_52 ?_
          refine g_al_0 hR dX5_copy_53 ?_
          refine gf_X5_bitsOf hR fl_X5_28 dX5_copy_54 ?_
          refine g_il_3 hR dX5_copy_57 ?_
          refine ga_25 hR t (by omega) rfl dX5_copy_58 ?_
          refine g_icmp_eq (tgt := 70) hR dX5_copy_59 (by decide) (fun h5 => ?_) (fun h5 => ?_)
          · have h5 : σ 12 s = σ 12 t := h5
            rw [if_pos h5, if_pos h5] at hE
            have far : (rgB f n z = 0 ∨ rgB o n y = 0) → G 111 [some (.ref 18), some (.int (nI s)), some (.int f), some (.int (nI t)), some (.int o), some (.int n), none] [] σ := by
              intro h
              rw [if_pos h, if_pos h] at hE
              refine g_al_0 hR dX5_copy_111 ?_
              refine g_ldc hR dX5_copy_112 kc_X5_40 ?_
              refine g_cvI hR ciX5_finds dX5_copy_114 ml_X5_60 (Nat.le_of_ble_eq_true rfl) (by decide) rfl rfl rfl (cm_f0 σ) rfl (Nat.le_of_ble_eq_true rfl) rfl ?_
              exact hE dX5_copy_117 (rfl) (Eb.rf _)
            refine g_il_2 hR dX5_copy_70 ?_
            refine g_if_lt (tgt := 111) hR dX5_copy_71 (by decide) (fun g1 => ?_) (fun g1 => ?_)
            · exact far (Or.inl (rgB_0.mpr (fun q => Int32.not_lt.mpr q.1 g1)))
            · refine g_il_4 hR dX5_copy_74 ?_
              refine g_if_lt (tgt := 111) hR dX5_copy_76 (by decide) (fun g2 => ?_) (fun g2 => ?_)
              · exact far (Or.inr (rgB_0.mpr (fun q => Int32.not_lt.mpr q.1 g2)))
              · refine g_il_5 hR dX5_copy_79 ?_
                refine g_if_lt (tgt := 111) hR dX5_copy_81 (by decide) (fun g3 => ?_) (fun g3 => ?_)
                · exact far (Or.inl (rgB_0.mpr (fun q => Int32.not_lt.mpr q.2.1 g3)))
                · have g1 := Int32.not_lt.mp g1
                  have g2 := Int32.not_lt.mp g2
                  have g3 := Int32.not_lt.mp g3
                  refine g_il_5 hR dX5_copy_84 ?_
                  refine g_al_0 hR dX5_copy_86 ?_
                  refine gf_X5_sizeOf hR fl_X5_31 dX5_copy_87 ?_
                  refine g_il_1 hR dX5_copy_90 ?_
                  refine ga_26 hR s (by omega) rfl dX5_copy_91 ?_
                  refine g_top hT ?_
                  refine g_il_2 hR dX5_copy_92 ?_
                  refine g_isub hR dX5_copy_93 ?_
                  refine g_icmp_gt (tgt := 111) hR dX5_copy_94 (by decide) (fun g4 => ?_) (fun g4 => ?_)
                  · exact far (Or.inl (rgB_0.mpr (fun q => Int32.not_lt.mpr ((rgC_iff hz g1 g3).mp q) g4)))
                  · refine g_il_5 hR dX5_copy_97 ?_
                    refine g_al_0 hR dX5_copy_99 ?_
                    refine gf_X5_sizeOf hR fl_X5_31 dX5_copy_100 ?_
                    refine g_il_3 hR dX5_copy_103 ?_
                    refine ga_26 hR t (by omega) rfl dX5_copy_104 ?_
                    refine g_top hU ?_
                    refine g_il_4 hR dX5_copy_105 ?_
                    refine g_isub hR dX5_copy_107 ?_
                    refine g_icmp_le (tgt := 118) hR dX5_copy_108 (by decide) (fun g5 => ?_) (fun g5 => ?_)
                    · have h6 : ¬ rgB f n z = 0 := fun q => rgB_0.mp q ((rgC_iff hz g1 g3).mpr (Int32.not_lt.mp g4))
                      have h7 : ¬ rgB o n y = 0 := fun q => rgB_0.mp q ((rgC_iff hy g2 g3).mpr g5)
                      have hr : ¬ (rgB f n z = 0 ∨ rgB o n y = 0) := fun q => q.elim h6 h7
                      rw [if_neg hr, if_neg hr] at hE
                      obtain ⟨f', n', rfl, rfl, hfn⟩ := rgC_nat hz (rgB_no h6)
                      obtain ⟨o', n2, rfl, en, hon⟩ := rgC_nat hy (rgB_no h7)
                      have en : n' = n2 := (nI_eq (by omega) (by omega)).mp en
                      subst en
                      rw [show (nI f').toNatClampNeg = f' from nI_clamp (by omega), show (nI o').toNatClampNeg = o' from nI_clamp (by omega), show (nI n').toNatClampNeg = n' from nI_clamp (by omega)] at hE
                      have lp2 : ∀ d' j σ', j + d' = n' → (∀ i, i < n' → σ' 15 i = σ 12 (8 + (40 * s + f' + i))) → (∀ b, b ≠ 15 → b ≠ 12 → σ' b = σ b) → σ' 12 = movS (σ 12) s f' t o' j → G 158 [some (.ref 18), some (.int (nI s)), some (.int (nI f')), some (.int (nI t)), some (.int (nI o')), some (.int (nI n')), some (.int (nI j))] [] σ' := by
                        intro d'
                        induction d' with
                        | zero =>
                          intro j σ' hj q1 q2 q3
                          obtain rfl : j = n' := by omega
                          have fin : Eb σ' (bset σ 12 (movS (σ 12) s f' t o' j)) := by
                            intro b h1 _ _ _
                            by_cases hb : b = 12
                            · rw [hb, bset_s]; exact q3
                            · rw [bset_n hb]; exact q2 b (by omega) hb
                          refine g_il_6 hR dX5_copy_158 ?_
                          refine g_il_5 hR dX5_copy_160 ?_
                          refine g_icmp_ge (tgt := 193) hR dX5_copy_162 (by decide) (fun _ => ?_) (fun hc => absurd (Int32.le_refl _) hc)
                          refine g_il_5 hR dX5_copy_193 ?_
                          exact hE dX5_copy_195 (rfl) (fin)
                        | succ d' ih =>
                          intro j σ' hj q1 q2 q3
                          have hv : ∀ i, hset σ' 12 (8 + (40 * t + o' + j)) (σ' 15 j) 15 i = σ' 15 i := fun i => by rw [hset_e, bset_n (by decide)]
                          refine g_il_6 hR dX5_copy_158 ?_
                          refine g_il_5 hR dX5_copy_160 ?_
                          refine g_icmp_ge (tgt := 193) hR dX5_copy_162 (by decide) (fun hc => absurd hc (nI_ge (by omega) (by omega))) (fun _ => ?_)
                          refine g_al_0 hR dX5_copy_165 ?_
                          refine gf_X5_numbers hR fl_X5_34 dX5_copy_166 ?_
                          refine g_bipush_40 hR dX5_copy_169 ?_
                          refine g_il_3 hR dX5_copy_171 ?_
                          refine g_imul hR dX5_copy_172 ?_
                          refine g_il_4 hR dX5_copy_173 ?_
                          refine g_iadd hR dX5_copy_175 ?_
                          refine g_il_6 hR dX5_copy_176 ?_
                          refine g_iadd hR dX5_copy_178 ?_
                          refine g_al_0 hR dX5_copy_179 ?_
                          refine gf_X5_moved hR fl_X5_37 dX5_copy_180 ?_
                          refine g_il_6 hR dX5_copy_183 ?_
                          refine ga_28 hR j (by omega) rfl dX5_copy_185 ?_
                          refine gs_27 hR (40 * t + o' + j) (by omega) (ix40s t o' j) dX5_copy_186 ?_
                          refine g_inc_6 hR dX5_copy_187 trivial ?_
                          refine g_goto (tgt := 158) hR dX5_copy_190 (by decide) ?_
                          refine ih (j + 1) _ (by omega) (fun i hi => by rw [hv]; exact q1 i hi) (fun b h1 h2 => by rw [hset_e, bset_n h2]; exact q2 b h1 h2) ?_
                          rw [hset_e, bset_s, q3, q1 j (by omega)]
                          exact movS_s _ _ _ _ _ _
                      have lp1 : ∀ d' j σ', j + d' = n' → (∀ i, i < j → σ' 15 i = σ 12 (8 + (40 * s + f' + i))) → (∀ b, b ≠ 15 → σ' b = σ b) → G 121 [some (.ref 18), some (.int (nI s)), some (.int (nI f')), some (.int (nI t)), some (.int (nI o')), some (.int (nI n')), some (.int (nI j))] [] σ' := by
                        intro d'
                        induction d' with
                        | zero =>
                          intro j σ' hj q1 q2
                          obtain rfl : j = n' := by omega
                          refine g_il_6 hR dX5_copy_121 ?_
                          refine g_il_5 hR dX5_copy_123 ?_
                          refine g_icmp_ge (tgt := 155) hR dX5_copy_125 (by decide) (fun _ => ?_) (fun hc => absurd (Int32.le_refl _) hc)
                          refine g_iconst_0 hR dX5_copy_155 ?_
                          refine g_is_6 hR dX5_copy_156 trivial ?_
                          exact lp2 j 0 σ' (by omega) q1 (fun b h1 _ => q2 b h1) (by rw [movS_0]; exact q2 12 (by decide))
                        | succ d' ih =>
                          intro j σ' hj q1 q2
                          refine g_il_6 hR dX5_copy_121 ?_
                          refine g_il_5 hR dX5_copy_123 ?_
                          refine g_icmp_ge (tgt := 155) hR dX5_copy_125 (by decide) (fun hc => absurd hc (nI_ge (by omega) (by omega))) (fun _ => ?_)
                          refine g_al_0 hR dX5_copy_128 ?_
                          refine gf_X5_moved hR fl_X5_37 dX5_copy_129 ?_
                          refine g_il_6 hR dX5_copy_132 ?_
                          refine g_al_0 hR dX5_copy_134 ?_
                          refine gf_X5_numbers hR fl_X5_34 dX5_copy_135 ?_
                          refine g_bipush_40 hR dX5_copy_138 ?_
                          refine g_il_1 hR dX5_copy_140 ?_
                          refine g_imul hR dX5_copy_141 ?_
                          refine g_il_2 hR dX5_copy_142 ?_
                          refine g_iadd hR dX5_copy_143 ?_
                          refine g_il_6 hR dX5_copy_144 ?_
                          refine g_iadd hR dX5_copy_146 ?_
                          refine ga_27 hR (40 * s + f' + j) (by omega) (ix40s s f' j) dX5_copy_147 ?_
                          refine gs_28 hR j (by omega) rfl dX5_copy_148 ?_
                          refine g_inc_6 hR dX5_copy_149 trivial ?_
                          refine g_goto (tgt := 121) hR dX5_copy_152 (by decide) ?_
                          refine ih (j + 1) _ (by omega) (fun i hi => ?_) (fun b h1 => by rw [hset_e, bset_n h1]; exact q2 b h1)
                          rw [hset_e, bset_s]
                          by_cases e : i = j
                          · rw [e, upd_s]; exact congrFun (q2 12 (by decide)) _
                          · rw [upd_n e]; exact q1 i (by omega)
                      refine g_iconst_0 hR dX5_copy_118 ?_
                      refine g_is_6 hR dX5_copy_119 trivial ?_
                      exact lp1 n' 0 σ (by omega) (fun i hi => by omega) (fun b _ => rfl)
                    · exact far (Or.inr (rgB_0.mpr (fun q => Int32.not_le.mp g5 |> fun w => Int32.not_lt.mpr ((rgC_iff hy g2 g3).mp q) w)))
          · have h5 : ¬ σ 12 s = σ 12 t := h5
            rw [if_neg h5, if_neg h5] at hE
            refine g_al_0 hR dX5_copy_62 ?_
            refine g_ldcw hR dX5_copy_63 kc_X5_299 ?_
            refine g_cvI hR ciX5_finds dX5_copy_66 ml_X5_60 (Nat.le_of_ble_eq_true rfl) (by decide) rfl rfl rfl (cm_f2 σ) rfl (Nat.le_of_ble_eq_true rfl) rfl ?_
            exact hE dX5_copy_69 (rfl) (Eb.rf _)
        · exact miss (Or.inr h4)
    · exact bad (fun q => bI_0.mp h2 q.2)
