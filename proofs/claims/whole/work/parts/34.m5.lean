set_option maxRecDepth 100000 in
set_option maxHeartbeats 4000000 in
theorem cm_comes {n : Nat} {d : Int} (a : Int32) (σ : Hp) (hG : Gd (σ 4) n d) (hd : d ≤ 50000) : CtP yX5_comes wX5_comes 7 [.ref 18, .int a] σ (if 0 ≤ a ∧ a < σ 4 1 then rsV (fstN (fun j => decide (pf (σ 4) a.toNatClampNeg 5 < pf (daysF (σ 4) n j) a.toNatClampNeg 5)) 201) else -1000001) (fun σ' => Eb σ' (if 0 ≤ a ∧ a < σ 4 1 then rsT σ 14 (fstN (fun j => decide (pf (σ 4) a.toNatClampNeg 5 < pf (daysF (σ 4) n j) a.toNatClampNeg 5)) 201) else fnd σ 14 0)) := by
  refine CtP.of (by decide) (Nat.le_of_ble_eq_true rfl) rfl rfl (fun G hR hE => ?_)
  have hn8 := hG.1
  refine g_al_0 hR dX5_comes_0 ?_
  refine g_il_1 hR dX5_comes_1 ?_
  refine g_cvI hR ciX5_isPiece dX5_comes_2 ml_X5_95 (Nat.le_of_ble_eq_true rfl) (by decide) rfl rfl rfl (em_isPiece a hn8 σ hG.2.1) rfl (Nat.le_of_ble_eq_true rfl) rfl ?_
  refine g_if_eq (tgt := 20) hR dX5_comes_5 (by decide) (fun h => ?_) (fun h => ?_)
  · rw [if_neg (bI_0.mp h), if_neg (bI_0.mp h)] at hE
    refine g_al_0 hR dX5_comes_20 ?_
    refine g_ldc hR dX5_comes_21 kc_X5_40 ?_
    refine g_cvI hR ciX5_finds dX5_comes_23 ml_X5_60 (Nat.le_of_ble_eq_true rfl) (by decide) rfl rfl rfl (cm_f0 σ) rfl (Nat.le_of_ble_eq_true rfl) rfl ?_
    exact hE dX5_comes_26 (rfl) (Eb.rf _)
  · have hc := bI_no h
    rw [if_pos hc, if_pos hc] at hE
    obtain ⟨p, hp, rfl⟩ := nlt (n := n) (by rw [← hG.2.1]; exact hc) (by omega)
    rw [show (nI p).toNatClampNeg = p from nI_clamp (by omega)] at hE
    refine g_al_0 hR dX5_comes_8 ?_
    refine g_il_1 hR dX5_comes_9 ?_
    refine g_iconst_5 hR dX5_comes_10 ?_
    refine g_csI hR ciX5_place dX5_comes_11 ml_X5_49 (Nat.le_of_ble_eq_true rfl) (em_place p 5 σ) rfl (Nat.le_of_ble_eq_true rfl) rfl ?_
    refine g_cvP hR ciX5_moreIn dX5_comes_14 ml_X5_166 (Nat.le_of_ble_eq_true rfl) (by decide) rfl rfl rfl (em_moreIn (i := 6 + (6 * p + 5)) (by omega) σ hG hd) rfl (Nat.le_of_ble_eq_true rfl) rfl (fun σ1 h1 => ?_)
    refine g_goto (tgt := 26) hR dX5_comes_17 (by decide) ?_
    exact hE dX5_comes_26 (rfl) (h1)
set_option maxRecDepth 100000 in
set_option maxHeartbeats 4000000 in
theorem cm_off {n : Nat} {d : Int} (σ : Hp) (hG : Gd (σ 4) n d) (hd : d ≤ 50000) : CtP yX5_off wX5_off 7 [.ref 18] σ (rsV (fstN (fun j => decide (σ 4 4 < daysF (σ 4) n j 4)) 201)) (fun σ' => Eb σ' (rsT σ 14 (fstN (fun j => decide (σ 4 4 < daysF (σ 4) n j 4)) 201))) := by
  refine CtP.of (by decide) (Nat.le_of_ble_eq_true rfl) rfl rfl (fun G hR hE => ?_)
  refine g_al_0 hR dX5_off_0 ?_
  refine g_iconst_4 hR dX5_off_1 ?_
  refine g_cvP hR ciX5_moreIn dX5_off_2 ml_X5_166 (Nat.le_of_ble_eq_true rfl) (by decide) rfl rfl rfl (em_moreIn (i := 4) (by decide) σ hG hd) rfl (Nat.le_of_ble_eq_true rfl) rfl (fun σ1 h1 => ?_)
  exact hE dX5_off_5 (rfl) (h1)
set_option maxRecDepth 100000 in
set_option maxHeartbeats 4000000 in
theorem em_isSoon (v : Int32) (σ : Hp) : CtI yX5_isSoon wX5_isSoon 1 [.int v] σ (bI (0 ≤ v ∧ v ≤ 40)) (σ) := by
  refine CtI.of (by decide) (Nat.le_of_ble_eq_true rfl) (bI_nar _) rfl (fun G hR hE => ?_)
  refine g_il_0 hR dX5_isSoon_0 ?_
  refine g_i2l hR dX5_isSoon_1 ?_
  refine g_lconst (v := 0) hR dX5_isSoon_2 (by decide) ?_
  refine g_ldc2 hR dX5_isSoon_3 kl_X5_171 ?_
  refine g_csI hR ciX5_in dX5_isSoon_6 ml_X5_43 (Nat.le_of_ble_eq_true rfl) (ev_in v 0 40 rfl rfl σ) rfl (Nat.le_of_ble_eq_true rfl) rfl ?_
  exact hE dX5_isSoon_9 (rfl) (rfl)
set_option maxRecDepth 100000 in
set_option maxHeartbeats 4000000 in
theorem cm_drawTo {n : Nat} {d : Int} (a b v : Int32) (σ : Hp) (hG : Gd (σ 4) n d) (hd : d ≤ 50000) : CtP yX5_drawTo wX5_drawTo 8 [.ref 18, .int a, .int b, .int v] σ (if (0 ≤ a ∧ a < σ 4 1) ∧ (0 ≤ b ∧ b ≤ 11) ∧ 0 ≤ v ∧ v ≤ 40 then (amin (fun q => dst (daysF (pset (σ 4) a.toNatClampNeg 1 (nI q)) n v.toNatClampNeg 2) b) 12).1 else -1000001) (fun σ' => Eb σ' (if (0 ≤ a ∧ a < σ 4 1) ∧ (0 ≤ b ∧ b ≤ 11) ∧ 0 ≤ v ∧ v ≤ 40 then σ else fnd σ 14 0)) := by
  refine CtP.of (by decide) (Nat.le_of_ble_eq_true rfl) rfl rfl (fun G hR hE => ?_)
  have hn8 := hG.1
  have bad : ¬ ((0 ≤ a ∧ a < σ 4 1) ∧ (0 ≤ b ∧ b ≤ 11) ∧ 0 ≤ v ∧ v ≤ 40) → G 22 [some (.ref 18), some (.int a), some (.int b), some (.int v), none, none, none, none, none] [] σ := by
    intro h
    rw [if_neg h, if_neg h] at hE
    refine g_al_0 hR dX5_drawTo_22 ?_
    refine g_ldc hR dX5_drawTo_23 kc_X5_40 ?_
    refine g_cvI hR ciX5_finds dX5_drawTo_25 ml_X5_60 (Nat.le_of_ble_eq_true rfl) (by decide) rfl rfl rfl (cm_f0 σ) rfl (Nat.le_of_ble_eq_true rfl) rfl ?_
    exact hE dX5_drawTo_28 (rfl) (Eb.rf _)
  refine g_al_0 hR dX5_drawTo_0 ?_
  refine g_il_1 hR dX5_drawTo_1 ?_
  refine g_cvI hR ciX5_isPiece dX5_drawTo_2 ml_X5_95 (Nat.le_of_ble_eq_true rfl) (by decide) rfl rfl rfl (em_isPiece a hn8 σ hG.2.1) rfl (Nat.le_of_ble_eq_true rfl) rfl ?_
  refine g_if_eq (tgt := 22) hR dX5_drawTo_5 (by decide) (fun h1 => ?_) (fun h1 => ?_)
  · exact bad (fun q => bI_0.mp h1 q.1)
  · refine g_il_2 hR dX5_drawTo_8 ?_
    refine g_csI hR ciX5_isPlace dX5_drawTo_9 ml_X5_53 (Nat.le_of_ble_eq_true rfl) (em_isPlace b σ) rfl (Nat.le_of_ble_eq_true rfl) rfl ?_
    refine g_if_eq (tgt := 22) hR dX5_drawTo_12 (by decide) (fun h2 => ?_) (fun h2 => ?_)
    · exact bad (fun q => bI_0.mp h2 q.2.1)
    · refine g_il_3 hR dX5_drawTo_15 ?_
      refine g_csI hR ciX5_isSoon dX5_drawTo_16 ml_X5_173 (Nat.le_of_ble_eq_true rfl) (em_isSoon v σ) rfl (Nat.le_of_ble_eq_true rfl) rfl ?_
      refine g_if_ne (tgt := 29) hR dX5_drawTo_19 (by decide) (fun h3 => ?_) (fun h3 => ?_)
      · have hc := And.intro (bI_no h1) (And.intro (bI_no h2) (bI_no h3))
        rw [if_pos hc, if_pos hc] at hE
        obtain ⟨p, hp, rfl⟩ := nlt (n := n) (by rw [← hG.2.1]; exact hc.1) (by omega)
        obtain ⟨c, hc2, rfl⟩ := nle 40 hc.2.2 (by decide)
        rw [show (nI p).toNatClampNeg = p from nI_clamp (by omega), show (nI c).toNatClampNeg = c from nI_clamp (by omega)] at hE
        have lp : ∀ d' j σ' x x8, j + d' = 12 → σ' 4 = pset (σ 4) p 1 x → Eb (bset σ' 4 (σ 4)) σ → G 47 [some (.ref 18), some (.int (nI p)), some (.int b), some (.int (nI c)), some (.int (pf (σ 4) p 1)), some (.int (amin (fun q => dst (daysF (pset (σ 4) p 1 (nI q)) n c 2) b) j).1), some (.int (amin (fun q => dst (daysF (pset (σ 4) p 1 (nI q)) n c 2) b) j).2), some (.int (nI j)), x8] [] σ' := by
          intro d'
          induction d' with
          | zero =>
            intro j σ' x x8 hj h4 he
            obtain rfl : j = 12 := by omega
            refine g_il_7 hR dX5_drawTo_47 ?_
            refine g_bipush_12 hR dX5_drawTo_49 ?_
            refine g_icmp_ge (tgt := 116) hR dX5_drawTo_51 (by decide) (fun _ => ?_) (fun hc => absurd (Int32.le_refl _) hc)
            refine g_al_0 hR dX5_drawTo_116 ?_
            refine gf_X5_s hR fl_X5_7 dX5_drawTo_117 ?_
            refine g_il_1 hR dX5_drawTo_120 ?_
            refine g_iconst_1 hR dX5_drawTo_121 ?_
            refine g_csI hR ciX5_place dX5_drawTo_122 ml_X5_49 (Nat.le_of_ble_eq_true rfl) (em_place p 1 σ') rfl (Nat.le_of_ble_eq_true rfl) rfl ?_
            refine g_il_4 hR dX5_drawTo_125 ?_
            refine gs_19 hR (6 + (6 * p + 1)) (by omega) rfl dX5_drawTo_127 ?_
            refine g_il_5 hR dX5_drawTo_128 ?_
            exact hE dX5_drawTo_130 (rfl) (by rw [hset_pf, h4, pset_pset, pset_same]; exact he)
          | succ d' ih =>
            intro j σ' x x8 hj h4 he
            have e4 : hset σ' 4 (6 + (6 * p + 1)) (nI j) 4 = pset (σ 4) p 1 (nI j) := by rw [hset_pf, bset_s, h4, pset_pset]
            have hg : Gd (pset (σ 4) p 1 (nI j)) n d := Gd_pset hG (by omega) (by decide) (n_rg (show (j : Int) ≤ 11 by omega) (by decide))
            have e1 := fun y => ih (j + 1) (bset (hset σ' 4 (6 + (6 * p + 1)) (nI j)) 7 (cpN (hset σ' 4 (6 + (6 * p + 1)) (nI j) 4) (hset σ' 4 (6 + (6 * p + 1)) (nI j) 7) 64)) (nI j) y (by omega) (by rw [bset_n (by decide), e4]) ((Eb_tri σ' _ _ _ (σ 4)).tr he)
            rw [amin] at e1
            refine g_il_7 hR dX5_drawTo_47 ?_
            refine g_bipush_12 hR dX5_drawTo_49 ?_
            refine g_icmp_ge (tgt := 116) hR dX5_drawTo_51 (by decide) (fun hc => absurd hc (nI_ge (b := 12) (by omega) (by decide))) (fun _ => ?_)
            refine g_al_0 hR dX5_drawTo_54 ?_
            refine gf_X5_s hR fl_X5_7 dX5_drawTo_55 ?_
            refine g_il_1 hR dX5_drawTo_58 ?_
            refine g_iconst_1 hR dX5_drawTo_59 ?_
            refine g_csI hR ciX5_place dX5_drawTo_60 ml_X5_49 (Nat.le_of_ble_eq_true rfl) (em_place p 1 σ') rfl (Nat.le_of_ble_eq_true rfl) rfl ?_
            refine g_il_7 hR dX5_drawTo_63 ?_
            refine gs_19 hR (6 + (6 * p + 1)) (by omega) rfl dX5_drawTo_65 ?_
            refine g_al_0 hR dX5_drawTo_66 ?_
            refine g_iconst_2 hR dX5_drawTo_67 ?_
            refine g_il_3 hR dX5_drawTo_68 ?_
            refine g_cvI hR ciX5_behind dX5_drawTo_69 ml_X5_159 (Nat.le_of_ble_eq_true rfl) (by decide) rfl rfl rfl ((em_behind (n := n) (c := c) (j := 2) (d := d) (by decide) (by omega) _ (by rw [e4]; exact hg) (by omega)).weak (congrArg (fun S => daysF S n c 2) e4)) rfl (Nat.le_of_ble_eq_true rfl) rfl ?_
            refine g_il_2 hR dX5_drawTo_72 ?_
            refine g_csI hR ciX5_distance dX5_drawTo_73 ml_X5_79 (Nat.le_of_ble_eq_true rfl) (em_distance _ _ _) rfl (Nat.le_of_ble_eq_true rfl) rfl ?_
            refine g_is_8 hR dX5_drawTo_76 trivial ?_
            refine g_il_8 hR dX5_drawTo_78 ?_
            refine g_il_6 hR dX5_drawTo_80 ?_
            refine g_icmp_ge (tgt := 90) hR dX5_drawTo_82 (by decide) (fun h5 => ?_) (fun h5 => ?_)
            · rw [if_neg (Int32.not_lt.mpr h5)] at e1
              refine g_il_5 hR dX5_drawTo_90 ?_
              refine g_is_5 hR dX5_drawTo_92 trivial ?_
              refine g_il_8 hR dX5_drawTo_94 ?_
              refine g_il_6 hR dX5_drawTo_96 ?_
              refine g_icmp_ge (tgt := 106) hR dX5_drawTo_98 (by decide) (fun _ => ?_) (fun hc => absurd (h5) hc)
              refine g_il_6 hR dX5_drawTo_106 ?_
              refine g_is_6 hR dX5_drawTo_108 trivial ?_
              refine g_inc_7 hR dX5_drawTo_110 trivial ?_
              refine g_goto (tgt := 47) hR dX5_drawTo_113 (by decide) ?_
              exact e1 _
            · rw [if_pos (Int32.not_le.mp h5)] at e1
              refine g_il_7 hR dX5_drawTo_85 ?_
              refine g_goto (tgt := 92) hR dX5_drawTo_87 (by decide) ?_
              refine g_is_5 hR dX5_drawTo_92 trivial ?_
              refine g_il_8 hR dX5_drawTo_94 ?_
              refine g_il_6 hR dX5_drawTo_96 ?_
              refine g_icmp_ge (tgt := 106) hR dX5_drawTo_98 (by decide) (fun hc => absurd hc (h5)) (fun _ => ?_)
              refine g_il_8 hR dX5_drawTo_101 ?_
              refine g_goto (tgt := 108) hR dX5_drawTo_103 (by decide) ?_
              refine g_is_6 hR dX5_drawTo_108 trivial ?_
              refine g_inc_7 hR dX5_drawTo_110 trivial ?_
              refine g_goto (tgt := 47) hR dX5_drawTo_113 (by decide) ?_
              exact e1 _
        refine g_al_0 hR dX5_drawTo_29 ?_
        refine g_il_1 hR dX5_drawTo_30 ?_
        refine g_iconst_1 hR dX5_drawTo_31 ?_
        refine g_cvI hR ciX5_its dX5_drawTo_32 ml_X5_73 (Nat.le_of_ble_eq_true rfl) (by decide) rfl rfl rfl (em_its (p := p) (w := 1) (by omega) (by decide) σ) rfl (Nat.le_of_ble_eq_true rfl) rfl ?_
        refine g_is_4 hR dX5_drawTo_35 trivial ?_
        refine g_iconst_0 hR dX5_drawTo_37 ?_
        refine g_is_5 hR dX5_drawTo_38 trivial ?_
        refine g_bipush_12 hR dX5_drawTo_40 ?_
        refine g_is_6 hR dX5_drawTo_42 trivial ?_
        refine g_iconst_0 hR dX5_drawTo_44 ?_
        refine g_is_7 hR dX5_drawTo_45 trivial ?_
        exact lp 12 0 σ (pf (σ 4) p 1) none rfl (pset_same _ _ _).symm (by rw [bset_id]; exact Eb.rf σ)
      · exact bad (fun q => bI_0.mp h3 q.2.2)
set_option maxRecDepth 100000 in
set_option maxHeartbeats 4000000 in
theorem cm_longFor {n : Nat} {d : Int} (a b v : Int32) (σ : Hp) (hG : Gd (σ 4) n d) (hd : d ≤ 50000) : CtP yX5_longFor wX5_longFor 8 [.ref 18, .int a, .int b, .int v] σ (if (0 ≤ a ∧ a < σ 4 1) ∧ (0 ≤ b ∧ b ≤ 11) ∧ 0 ≤ v ∧ v ≤ 40 then lgV (fstN (fun q => decide (daysF (pset (σ 4) a.toNatClampNeg 2 (nI (q + 1))) n v.toNatClampNeg 2 = b)) 99) else -1000001) (fun σ' => Eb σ' (if (0 ≤ a ∧ a < σ 4 1) ∧ (0 ≤ b ∧ b ≤ 11) ∧ 0 ≤ v ∧ v ≤ 40 then rsT σ 14 (fstN (fun q => decide (daysF (pset (σ 4) a.toNatClampNeg 2 (nI (q + 1))) n v.toNatClampNeg 2 = b)) 99) else fnd σ 14 0)) := by
  refine CtP.of (by decide) (Nat.le_of_ble_eq_true rfl) rfl rfl (fun G hR hE => ?_)
  have hn8 := hG.1
  have bad : ¬ ((0 ≤ a ∧ a < σ 4 1) ∧ (0 ≤ b ∧ b ≤ 11) ∧ 0 ≤ v ∧ v ≤ 40) → G 22 [some (.ref 18), some (.int a), some (.int b), some (.int v), none, none, none] [] σ := by
    intro h
    rw [if_neg h, if_neg h] at hE
    refine g_al_0 hR dX5_longFor_22 ?_
    refine g_ldc hR dX5_longFor_23 kc_X5_40 ?_
    refine g_cvI hR ciX5_finds dX5_longFor_25 ml_X5_60 (Nat.le_of_ble_eq_true rfl) (by decide) rfl rfl rfl (cm_f0 σ) rfl (Nat.le_of_ble_eq_true rfl) rfl ?_
    exact hE dX5_longFor_28 (rfl) (Eb.rf _)
  refine g_al_0 hR dX5_longFor_0 ?_
  refine g_il_1 hR dX5_longFor_1 ?_
  refine g_cvI hR ciX5_isPiece dX5_longFor_2 ml_X5_95 (Nat.le_of_ble_eq_true rfl) (by decide) rfl rfl rfl (em_isPiece a hn8 σ hG.2.1) rfl (Nat.le_of_ble_eq_true rfl) rfl ?_
  refine g_if_eq (tgt := 22) hR dX5_longFor_5 (by decide) (fun h1 => ?_) (fun h1 => ?_)
  · exact bad (fun q => bI_0.mp h1 q.1)
  · refine g_il_2 hR dX5_longFor_8 ?_
    refine g_csI hR ciX5_isPlace dX5_longFor_9 ml_X5_53 (Nat.le_of_ble_eq_true rfl) (em_isPlace b σ) rfl (Nat.le_of_ble_eq_true rfl) rfl ?_
    refine g_if_eq (tgt := 22) hR dX5_longFor_12 (by decide) (fun h2 => ?_) (fun h2 => ?_)
    · exact bad (fun q => bI_0.mp h2 q.2.1)
    · refine g_il_3 hR dX5_longFor_15 ?_
      refine g_csI hR ciX5_isSoon dX5_longFor_16 ml_X5_173 (Nat.le_of_ble_eq_true rfl) (em_isSoon v σ) rfl (Nat.le_of_ble_eq_true rfl) rfl ?_
      refine g_if_ne (tgt := 29) hR dX5_longFor_19 (by decide) (fun h3 => ?_) (fun h3 => ?_)
      · have hc := And.intro (bI_no h1) (And.intro (bI_no h2) (bI_no h3))
        rw [if_pos hc, if_pos hc] at hE
        obtain ⟨p, hp, rfl⟩ := nlt (n := n) (by rw [← hG.2.1]; exact hc.1) (by omega)
        obtain ⟨c, hc2, rfl⟩ := nle 40 hc.2.2 (by decide)
        rw [show (nI p).toNatClampNeg = p from nI_clamp (by omega), show (nI c).toNatClampNeg = c from nI_clamp (by omega)] at hE
        have fin : ∀ σ' x x6 f, σ' 4 = pset (σ 4) p 2 x → Eb (bset σ' 4 (σ 4)) σ → (f < 0 ∧ fstN (fun q => decide (daysF (pset (σ 4) p 2 (nI (q + 1))) n c 2 = b)) 99 = none ∨ ∃ j, j < 99 ∧ f = nI (j + 1) ∧ fstN (fun q => decide (daysF (pset (σ 4) p 2 (nI (q + 1))) n c 2 = b)) 99 = some j) → G 91 [some (.ref 18), some (.int (nI p)), some (.int b), some (.int (nI c)), some (.int (pf (σ 4) p 2)), some (.int f), x6] [] σ' := by
          intro σ' x x6 f h4 he hf
          have eb : Eb (hset σ' 4 (6 + (6 * p + 2)) (pf (σ 4) p 2)) σ := by rw [hset_pf, h4, pset_pset, pset_same]; exact he
          rcases hf with ⟨hf, hn⟩ | ⟨j, hj, rfl, hn⟩
          · rw [hn] at hE
            refine g_al_0 hR dX5_longFor_91 ?_
            refine gf_X5_s hR fl_X5_7 dX5_longFor_92 ?_
            refine g_il_1 hR dX5_longFor_95 ?_
            refine g_iconst_2 hR dX5_longFor_96 ?_
            refine g_csI hR ciX5_place dX5_longFor_97 ml_X5_49 (Nat.le_of_ble_eq_true rfl) (em_place p 2 σ') rfl (Nat.le_of_ble_eq_true rfl) rfl ?_
            refine g_il_4 hR dX5_longFor_100 ?_
            refine gs_19 hR (6 + (6 * p + 2)) (by omega) rfl dX5_longFor_102 ?_
            refine g_il_5 hR dX5_longFor_103 ?_
            refine g_if_ge (tgt := 117) hR dX5_longFor_105 (by decide) (fun hc => absurd hc ((fun q => Int32.not_le.mpr hf q))) (fun _ => ?_)
            refine g_al_0 hR dX5_longFor_108 ?_
            refine g_ldc hR dX5_longFor_109 kc_X5_162 ?_
            refine g_cvI hR ciX5_finds dX5_longFor_111 ml_X5_60 (Nat.le_of_ble_eq_true rfl) (by decide) rfl rfl rfl (cm_f3 _) rfl (Nat.le_of_ble_eq_true rfl) rfl ?_
            refine g_goto (tgt := 119) hR dX5_longFor_114 (by decide) ?_
            exact hE dX5_longFor_119 (rfl) (Eb.fn eb 3 (by decide) (by decide) (by decide) (by decide))
          · rw [hn] at hE
            refine g_al_0 hR dX5_longFor_91 ?_
            refine gf_X5_s hR fl_X5_7 dX5_longFor_92 ?_
            refine g_il_1 hR dX5_longFor_95 ?_
            refine g_iconst_2 hR dX5_longFor_96 ?_
            refine g_csI hR ciX5_place dX5_longFor_97 ml_X5_49 (Nat.le_of_ble_eq_true rfl) (em_place p 2 σ') rfl (Nat.le_of_ble_eq_true rfl) rfl ?_
            refine g_il_4 hR dX5_longFor_100 ?_
            refine gs_19 hR (6 + (6 * p + 2)) (by omega) rfl dX5_longFor_102 ?_
            refine g_il_5 hR dX5_longFor_103 ?_
            refine g_if_ge (tgt := 117) hR dX5_longFor_105 (by decide) (fun _ => ?_) (fun hc => absurd (nI_pos' (by omega)) hc)
            refine g_il_5 hR dX5_longFor_117 ?_
            exact hE dX5_longFor_119 (rfl) (eb)
        have lp : ∀ d' j σ' x, j + d' = 99 → σ' 4 = pset (σ 4) p 2 x → Eb (bset σ' 4 (σ 4)) σ → fstN (fun q => decide (daysF (pset (σ 4) p 2 (nI (q + 1))) n c 2 = b)) j = none → G 43 [some (.ref 18), some (.int (nI p)), some (.int b), some (.int (nI c)), some (.int (pf (σ 4) p 2)), some (.int (-1)), some (.int (nI (j + 1)))] [] σ' := by
          intro d'
          induction d' with
          | zero =>
            intro j σ' x hj h4 he hf
            have e99 : j = 99 := by omega
            rw [e99] at hf
            refine g_il_6 hR dX5_longFor_43 ?_
            refine g_bipush_99 hR dX5_longFor_45 ?_
            refine g_icmp_gt (tgt := 91) hR dX5_longFor_47 (by decide) (fun _ => ?_) (fun hc => absurd (nI_lt (a := 99) (by omega) (by omega)) hc)
            exact fin σ' x _ (-1) h4 he (Or.inl ⟨by decide, hf⟩)
          | succ d' ih =>
            intro j σ' x hj h4 he hf
            have e4 : hset σ' 4 (6 + (6 * p + 2)) (nI (j + 1)) 4 = pset (σ 4) p 2 (nI (j + 1)) := by rw [hset_pf, bset_s, h4, pset_pset]
            have hg : Gd (pset (σ 4) p 2 (nI (j + 1))) n d := Gd_pset hG (by omega) (by decide) (n_rg (show ((j + 1 : Nat) : Int) ≤ 99 by omega) (by decide))
            have hx4 : bset (hset σ' 4 (6 + (6 * p + 2)) (nI (j + 1))) 7 (cpN (hset σ' 4 (6 + (6 * p + 2)) (nI (j + 1)) 4) (hset σ' 4 (6 + (6 * p + 2)) (nI (j + 1)) 7) 64) 4 = pset (σ 4) p 2 (nI (j + 1)) := by rw [bset_n (by decide), e4]
            have hxe := (Eb_tri σ' _ _ _ (σ 4) : Eb (bset (bset (hset σ' 4 (6 + (6 * p + 2)) (nI (j + 1))) 7 (cpN (hset σ' 4 (6 + (6 * p + 2)) (nI (j + 1)) 4) (hset σ' 4 (6 + (6 * p + 2)) (nI (j + 1)) 7) 64)) 4 (σ 4)) (bset σ' 4 (σ 4))).tr he
            refine g_il_6 hR dX5_longFor_43 ?_
            refine g_bipush_99 hR dX5_longFor_45 ?_
            refine g_icmp_gt (tgt := 91) hR dX5_longFor_47 (by decide) (fun hc => absurd hc (nI_nlt (a := 99) (by omega) (by decide))) (fun _ => ?_)
            refine g_il_5 hR dX5_longFor_50 ?_
            refine g_if_ge (tgt := 91) hR dX5_longFor_52 (by decide) (fun hc => absurd hc ((by decide))) (fun _ => ?_)
            refine g_al_0 hR dX5_longFor_55 ?_
            refine gf_X5_s hR fl_X5_7 dX5_longFor_56 ?_
            refine g_il_1 hR dX5_longFor_59 ?_
            refine g_iconst_2 hR dX5_longFor_60 ?_
            refine g_csI hR ciX5_place dX5_longFor_61 ml_X5_49 (Nat.le_of_ble_eq_true rfl) (em_place p 2 σ') rfl (Nat.le_of_ble_eq_true rfl) rfl ?_
            refine g_il_6 hR dX5_longFor_64 ?_
            refine gs_19 hR (6 + (6 * p + 2)) (by omega) rfl dX5_longFor_66 ?_
            refine g_al_0 hR dX5_longFor_67 ?_
            refine g_iconst_2 hR dX5_longFor_68 ?_
            refine g_il_3 hR dX5_longFor_69 ?_
            refine g_cvI hR ciX5_behind dX5_longFor_70 ml_X5_159 (Nat.le_of_ble_eq_true rfl) (by decide) rfl rfl rfl ((em_behind (n := n) (c := c) (j := 2) (d := d) (by decide) (by omega) _ (by rw [e4]; exact hg) (by omega)).weak (congrArg (fun S => daysF S n c 2) e4)) rfl (Nat.le_of_ble_eq_true rfl) rfl ?_
            refine g_il_2 hR dX5_longFor_73 ?_
            refine g_icmp_ne (tgt := 82) hR dX5_longFor_74 (by decide) (fun h5 => ?_) (fun h5 => ?_)
            · refine g_iconst_m1 hR dX5_longFor_82 ?_
              refine g_is_5 hR dX5_longFor_83 trivial ?_
              refine g_inc_6 hR dX5_longFor_85 trivial ?_
              refine g_goto (tgt := 43) hR dX5_longFor_88 (by decide) ?_
              exact ih (j + 1) _ _ (by omega) hx4 hxe (fstN_none hf (decide_eq_false h5))
            · have hfst := fstN_first hf (decide_eq_true h5) d'
              rw [show j + 1 + d' = 99 by omega] at hfst
              refine g_il_6 hR dX5_longFor_77 ?_
              refine g_goto (tgt := 83) hR dX5_longFor_79 (by decide) ?_
              refine g_is_5 hR dX5_longFor_83 trivial ?_
              refine g_inc_6 hR dX5_longFor_85 trivial ?_
              refine g_goto (tgt := 43) hR dX5_longFor_88 (by decide) ?_
              by_cases hlast : j + 1 < 99
              · refine g_il_6 hR dX5_longFor_43 ?_
                refine g_bipush_99 hR dX5_longFor_45 ?_
                refine g_icmp_gt (tgt := 91) hR dX5_longFor_47 (by decide) (fun hc => absurd hc (nI_nlt (a := 99) (by omega) (by decide))) (fun _ => ?_)
                refine g_il_5 hR dX5_longFor_50 ?_
                refine g_if_ge (tgt := 91) hR dX5_longFor_52 (by decide) (fun _ => ?_) (fun hc => absurd (nI_pos' (by omega)) hc)
                exact fin _ _ _ _ hx4 hxe (Or.inr ⟨j, by omega, rfl, hfst⟩)
              · refine g_il_6 hR dX5_longFor_43 ?_
                refine g_bipush_99 hR dX5_longFor_45 ?_
                refine g_icmp_gt (tgt := 91) hR dX5_longFor_47 (by decide) (fun _ => ?_) (fun hc => absurd (nI_lt (a := 99) (by omega) (by omega)) hc)
                exact fin _ _ _ _ hx4 hxe (Or.inr ⟨j, by omega, rfl, hfst⟩)
        refine g_al_0 hR dX5_longFor_29 ?_
        refine g_il_1 hR dX5_longFor_30 ?_
        refine g_iconst_2 hR dX5_longFor_31 ?_
        refine g_cvI hR ciX5_its dX5_longFor_32 ml_X5_73 (Nat.le_of_ble_eq_true rfl) (by decide) rfl rfl rfl (em_its (p := p) (w := 2) (by omega) (by decide) σ) rfl (Nat.le_of_ble_eq_true rfl) rfl ?_
        refine g_is_4 hR dX5_longFor_35 trivial ?_
        refine g_iconst_m1 hR dX5_longFor_37 ?_
        refine g_is_5 hR dX5_longFor_38 trivial ?_
        refine g_iconst_1 hR dX5_longFor_40 ?_
        refine g_is_6 hR dX5_longFor_41 trivial ?_
        exact lp 99 0 σ (pf (σ 4) p 2) rfl (pset_same _ _ _).symm (by rw [bset_id]; exact Eb.rf σ) rfl
      · exact bad (fun q => bI_0.mp h3 q.2.2)
set_option maxRecDepth 100000 in
set_option maxHeartbeats 4000000 in
theorem cm_kindFor {n : Nat} {d : Int} (a v : Int32) (σ : Hp) (hG : Gd (σ 4) n d) (hd : d ≤ 50000) : CtP yX5_kindFor wX5_kindFor 8 [.ref 18, .int a, .int v] σ (if (0 ≤ a ∧ a < σ 4 1) ∧ 0 ≤ v ∧ v ≤ 40 then (amax (fun q => pf (daysF (pset (σ 4) a.toNatClampNeg 0 (nI q)) n v.toNatClampNeg) a.toNatClampNeg 5) 7).1 else -1000001) (fun σ' => Eb σ' (if (0 ≤ a ∧ a < σ 4 1) ∧ 0 ≤ v ∧ v ≤ 40 then σ else fnd σ 14 0)) := by
  refine CtP.of (by decide) (Nat.le_of_ble_eq_true rfl) rfl rfl (fun G hR hE => ?_)
  have hn8 := hG.1
  have bad : ¬ ((0 ≤ a ∧ a < σ 4 1) ∧ 0 ≤ v ∧ v ≤ 40) → G 15 [some (.ref 18), some (.int a), some (.int v), none, none, none, none, none] [] σ := by
    intro h
    rw [if_neg h, if_neg h] at hE
    refine g_al_0 hR dX5_kindFor_15 ?_
    refine g_ldc hR dX5_kindFor_16 kc_X5_40 ?_
    refine g_cvI hR ciX5_finds dX5_kindFor_18 ml_X5_60 (Nat.le_of_ble_eq_true rfl) (by decide) rfl rfl rfl (cm_f0 σ) rfl (Nat.le_of_ble_eq_true rfl) rfl ?_
    exact hE dX5_kindFor_21 (rfl) (Eb.rf _)
  refine g_al_0 hR dX5_kindFor_0 ?_
  refine g_il_1 hR dX5_kindFor_1 ?_
  refine g_cvI hR ciX5_isPiece dX5_kindFor_2 ml_X5_95 (Nat.le_of_ble_eq_true rfl) (by decide) rfl rfl rfl (em_isPiece a hn8 σ hG.2.1) rfl (Nat.le_of_ble_eq_true rfl) rfl ?_
  refine g_if_eq (tgt := 15) hR dX5_kindFor_5 (by decide) (fun h1 => ?_) (fun h1 => ?_)
  · exact bad (fun q => bI_0.mp h1 q.1)
  · refine g_il_2 hR dX5_kindFor_8 ?_
    refine g_csI hR ciX5_isSoon dX5_kindFor_9 ml_X5_173 (Nat.le_of_ble_eq_true rfl) (em_isSoon v σ) rfl (Nat.le_of_ble_eq_true rfl) rfl ?_
    refine g_if_ne (tgt := 22) hR dX5_kindFor_12 (by decide) (fun h3 => ?_) (fun h3 => ?_)
    · have hc := And.intro (bI_no h1) (bI_no h3)
      rw [if_pos hc, if_pos hc] at hE
      obtain ⟨p, hp, rfl⟩ := nlt (n := n) (by rw [← hG.2.1]; exact hc.1) (by omega)
      obtain ⟨c, hc2, rfl⟩ := nle 40 hc.2 (by decide)
      rw [show (nI p).toNatClampNeg = p from nI_clamp (by omega), show (nI c).toNatClampNeg = c from nI_clamp (by omega)] at hE
      have lp : ∀ d' j σ' x x7, j + d' = 7 → σ' 4 = pset (σ 4) p 0 x → Eb (bset σ' 4 (σ 4)) σ → G 38 [some (.ref 18), some (.int (nI p)), some (.int (nI c)), some (.int (pf (σ 4) p 0)), some (.int (amax (fun q => pf (daysF (pset (σ 4) p 0 (nI q)) n c) p 5) j).1), some (.int (amax (fun q => pf (daysF (pset (σ 4) p 0 (nI q)) n c) p 5) j).2), some (.int (nI j)), x7] [] σ' := by
        intro d'
        induction d' with
        | zero =>
          intro j σ' x x8 hj h4 he
          obtain rfl : j = 7 := by omega
          refine g_il_6 hR dX5_kindFor_38 ?_
          refine g_bipush_6 hR dX5_kindFor_40 ?_
          refine g_icmp_gt (tgt := 107) hR dX5_kindFor_42 (by decide) (fun _ => ?_) (fun hc => absurd ((by decide)) hc)
          refine g_al_0 hR dX5_kindFor_107 ?_
          refine gf_X5_s hR fl_X5_7 dX5_kindFor_108 ?_
          refine g_il_1 hR dX5_kindFor_111 ?_
          refine g_iconst_0 hR dX5_kindFor_112 ?_
          refine g_csI hR ciX5_place dX5_kindFor_113 ml_X5_49 (Nat.le_of_ble_eq_true rfl) (em_place p 0 σ') rfl (Nat.le_of_ble_eq_true rfl) rfl ?_
          refine g_il_3 hR dX5_kindFor_116 ?_
          refine gs_19 hR (6 + (6 * p + 0)) (by omega) rfl dX5_kindFor_117 ?_
          refine g_il_4 hR dX5_kindFor_118 ?_
          exact hE dX5_kindFor_120 (rfl) (by rw [hset_pf, h4, pset_pset, pset_same]; exact he)
        | succ d' ih =>
          intro j σ' x x8 hj h4 he
          have e4 : hset σ' 4 (6 + (6 * p + 0)) (nI j) 4 = pset (σ 4) p 0 (nI j) := by rw [hset_pf, bset_s, h4, pset_pset]
          have hg : Gd (pset (σ 4) p 0 (nI j)) n d := Gd_pset hG (by omega) (by decide) (n_rg (show (j : Int) ≤ 6 by omega) (by decide))
          have e1 := fun y => ih (j + 1) (bset (hset σ' 4 (6 + (6 * p + 0)) (nI j)) 7 (cpN (hset σ' 4 (6 + (6 * p + 0)) (nI j) 4) (hset σ' 4 (6 + (6 * p + 0)) (nI j) 7) 64)) (nI j) y (by omega) (by rw [bset_n (by decide), e4]) ((Eb_tri σ' _ _ _ (σ 4)).tr he)
          rw [amax] at e1
          refine g_il_6 hR dX5_kindFor_38 ?_
          refine g_bipush_6 hR dX5_kindFor_40 ?_
          refine g_icmp_gt (tgt := 107) hR dX5_kindFor_42 (by decide) (fun hc => absurd hc (nI_nlt (a := 6) (by omega) (by decide))) (fun _ => ?_)
          refine g_al_0 hR dX5_kindFor_45 ?_
          refine gf_X5_s hR fl_X5_7 dX5_kindFor_46 ?_
          refine g_il_1 hR dX5_kindFor_49 ?_
          refine g_iconst_0 hR dX5_kindFor_50 ?_
          refine g_csI hR ciX5_place dX5_kindFor_51 ml_X5_49 (Nat.le_of_ble_eq_true rfl) (em_place p 0 σ') rfl (Nat.le_of_ble_eq_true rfl) rfl ?_
          refine g_il_6 hR dX5_kindFor_54 ?_
          refine gs_19 hR (6 + (6 * p + 0)) (by omega) rfl dX5_kindFor_56 ?_
          refine g_al_0 hR dX5_kindFor_57 ?_
          refine g_il_1 hR dX5_kindFor_58 ?_
          refine g_iconst_5 hR dX5_kindFor_59 ?_
          refine g_csI hR ciX5_place dX5_kindFor_60 ml_X5_49 (Nat.le_of_ble_eq_true rfl) (em_place p 5 _) rfl (Nat.le_of_ble_eq_true rfl) rfl ?_
          refine g_il_2 hR dX5_kindFor_63 ?_
          refine g_cvI hR ciX5_behind dX5_kindFor_64 ml_X5_159 (Nat.le_of_ble_eq_true rfl) (by decide) rfl rfl rfl ((em_behind (n := n) (c := c) (j := 6 + (6 * p + 5)) (d := d) (by omega) (by omega) _ (by rw [e4]; exact hg) (by omega)).weak (congrArg (fun S => pf (daysF S n c) p 5) e4)) rfl (Nat.le_of_ble_eq_true rfl) rfl ?_
          refine g_is_7 hR dX5_kindFor_67 trivial ?_
          refine g_il_7 hR dX5_kindFor_69 ?_
          refine g_il_5 hR dX5_kindFor_71 ?_
          refine g_icmp_le (tgt := 81) hR dX5_kindFor_73 (by decide) (fun h5 => ?_) (fun h5 => ?_)
          · rw [if_neg (Int32.not_lt.mpr h5)] at e1
            refine g_il_4 hR dX5_kindFor_81 ?_
            refine g_is_4 hR dX5_kindFor_83 trivial ?_
            refine g_il_7 hR dX5_kindFor_85 ?_
            refine g_il_5 hR dX5_kindFor_87 ?_
            refine g_icmp_le (tgt := 97) hR dX5_kindFor_89 (by decide) (fun _ => ?_) (fun hc => absurd (h5) hc)
            refine g_il_5 hR dX5_kindFor_97 ?_
            refine g_is_5 hR dX5_kindFor_99 trivial ?_
            refine g_inc_6 hR dX5_kindFor_101 trivial ?_
            refine g_goto (tgt := 38) hR dX5_kindFor_104 (by decide) ?_
            exact e1 _
          · rw [if_pos (Int32.not_le.mp h5)] at e1
            refine g_il_6 hR dX5_kindFor_76 ?_
            refine g_goto (tgt := 83) hR dX5_kindFor_78 (by decide) ?_
            refine g_is_4 hR dX5_kindFor_83 trivial ?_
            refine g_il_7 hR dX5_kindFor_85 ?_
            refine g_il_5 hR dX5_kindFor_87 ?_
            refine g_icmp_le (tgt := 97) hR dX5_kindFor_89 (by decide) (fun hc => absurd hc (h5)) (fun _ => ?_)
            refine g_il_7 hR dX5_kindFor_92 ?_
            refine g_goto (tgt := 99) hR dX5_kindFor_94 (by decide) ?_
            refine g_is_5 hR dX5_kindFor_99 trivial ?_
            refine g_inc_6 hR dX5_kindFor_101 trivial ?_
            refine g_goto (tgt := 38) hR dX5_kindFor_104 (by decide) ?_
            exact e1 _
      refine g_al_0 hR dX5_kindFor_22 ?_
      refine g_il_1 hR dX5_kindFor_23 ?_
      refine g_iconst_0 hR dX5_kindFor_24 ?_
      refine g_cvI hR ciX5_its dX5_kindFor_25 ml_X5_73 (Nat.le_of_ble_eq_true rfl) (by decide) rfl rfl rfl (em_its (p := p) (w := 0) (by omega) (by decide) σ) rfl (Nat.le_of_ble_eq_true rfl) rfl ?_
      refine g_is_3 hR dX5_kindFor_28 trivial ?_
      refine g_iconst_0 hR dX5_kindFor_29 ?_
      refine g_is_4 hR dX5_kindFor_30 trivial ?_
      refine g_iconst_m1 hR dX5_kindFor_32 ?_
      refine g_is_5 hR dX5_kindFor_33 trivial ?_
      refine g_iconst_0 hR dX5_kindFor_35 ?_
      refine g_is_6 hR dX5_kindFor_36 trivial ?_
      exact lp 7 0 σ (pf (σ 4) p 0) none rfl (pset_same _ _ _).symm (by rw [bset_id]; exact Eb.rf σ)
    · exact bad (fun q => bI_0.mp h3 q.2)
set_option maxRecDepth 100000 in
set_option maxHeartbeats 4000000 in
theorem cm_dragFor {n : Nat} {d : Int} (b v : Int32) (σ : Hp) (hG : Gd (σ 4) n d) (hd : d ≤ 50000) : CtP yX5_dragFor wX5_dragFor 8 [.ref 18, .int b, .int v] σ (if (0 ≤ b ∧ b ≤ 11) ∧ 0 ≤ v ∧ v ≤ 40 then dgV (fstN (fun q => decide (daysF (upd (σ 4) 3 (nI (99 - q))) n v.toNatClampNeg 2 = b)) 100) else -1000001) (fun σ' => Eb σ' (if (0 ≤ b ∧ b ≤ 11) ∧ 0 ≤ v ∧ v ≤ 40 then rsT σ 14 (fstN (fun q => decide (daysF (upd (σ 4) 3 (nI (99 - q))) n v.toNatClampNeg 2 = b)) 100) else fnd σ 14 0)) := by
  refine CtP.of (by decide) (Nat.le_of_ble_eq_true rfl) rfl rfl (fun G hR hE => ?_)
  have hn8 := hG.1
  have bad : ¬ ((0 ≤ b ∧ b ≤ 11) ∧ 0 ≤ v ∧ v ≤ 40) → G 14 [some (.ref 18), some (.int b), some (.int v), none, none, none] [] σ := by
    intro h
    rw [if_neg h, if_neg h] at hE
    refine g_al_0 hR dX5_dragFor_14 ?_
    refine g_ldc hR dX5_dragFor_15 kc_X5_40 ?_
    refine g_cvI hR ciX5_finds dX5_dragFor_17 ml_X5_60 (Nat.le_of_ble_eq_true rfl) (by decide) rfl rfl rfl (cm_f0 σ) rfl (Nat.le_of_ble_eq_true rfl) rfl ?_
    exact hE dX5_dragFor_20 (rfl) (Eb.rf _)
  refine g_il_1 hR dX5_dragFor_0 ?_
  refine g_csI hR ciX5_isPlace dX5_dragFor_1 ml_X5_53 (Nat.le_of_ble_eq_true rfl) (em_isPlace b σ) rfl (Nat.le_of_ble_eq_true rfl) rfl ?_
  refine g_if_eq (tgt := 14) hR dX5_dragFor_4 (by decide) (fun h2 => ?_) (fun h2 => ?_)
  · exact bad (fun q => bI_0.mp h2 q.1)
  · refine g_il_2 hR dX5_dragFor_7 ?_
    refine g_csI hR ciX5_isSoon dX5_dragFor_8 ml_X5_173 (Nat.le_of_ble_eq_true rfl) (em_isSoon v σ) rfl (Nat.le_of_ble_eq_true rfl) rfl ?_
    refine g_if_ne (tgt := 21) hR dX5_dragFor_11 (by decide) (fun h3 => ?_) (fun h3 => ?_)
    · have hc := And.intro (bI_no h2) (bI_no h3)
      rw [if_pos hc, if_pos hc] at hE
      obtain ⟨c, hc2, rfl⟩ := nle 40 hc.2 (by decide)
      rw [show (nI c).toNatClampNeg = c from nI_clamp (by omega)] at hE
      have fin : ∀ σ' x x5 f, σ' 4 = upd (σ 4) 3 x → Eb (bset σ' 4 (σ 4)) σ → (f < 0 ∧ fstN (fun q => decide (daysF (upd (σ 4) 3 (nI (99 - q))) n c 2 = b)) 100 = none ∨ ∃ j, j < 100 ∧ f = nI (99 - j) ∧ fstN (fun q => decide (daysF (upd (σ 4) 3 (nI (99 - q))) n c 2 = b)) 100 = some j) → G 77 [some (.ref 18), some (.int b), some (.int (nI c)), some (.int (σ 4 3)), some (.int f), x5] [] σ' := by
        intro σ' x x6 f h4 he hf
        have eb : Eb (hset σ' 4 3 (σ 4 3)) σ := by rw [hset_e, h4, upd_upd, upd_id]; exact he
        rcases hf with ⟨hf, hn⟩ | ⟨j, hj, rfl, hn⟩
        · rw [hn] at hE
          refine g_al_0 hR dX5_dragFor_77 ?_
          refine gf_X5_s hR fl_X5_7 dX5_dragFor_78 ?_
          refine g_iconst_3 hR dX5_dragFor_81 ?_
          refine g_il_3 hR dX5_dragFor_82 ?_
          refine gs_19 hR 3 (by decide) rfl dX5_dragFor_83 ?_
          refine g_il_4 hR dX5_dragFor_84 ?_
          refine g_if_ge (tgt := 98) hR dX5_dragFor_86 (by decide) (fun hc => absurd hc ((fun q => Int32.not_le.mpr hf q))) (fun _ => ?_)
          refine g_al_0 hR dX5_dragFor_89 ?_
          refine g_ldc hR dX5_dragFor_90 kc_X5_162 ?_
          refine g_cvI hR ciX5_finds dX5_dragFor_92 ml_X5_60 (Nat.le_of_ble_eq_true rfl) (by decide) rfl rfl rfl (cm_f3 _) rfl (Nat.le_of_ble_eq_true rfl) rfl ?_
          refine g_goto (tgt := 100) hR dX5_dragFor_95 (by decide) ?_
          exact hE dX5_dragFor_100 (rfl) (Eb.fn eb 3 (by decide) (by decide) (by decide) (by decide))
        · rw [hn] at hE
          refine g_al_0 hR dX5_dragFor_77 ?_
          refine gf_X5_s hR fl_X5_7 dX5_dragFor_78 ?_
          refine g_iconst_3 hR dX5_dragFor_81 ?_
          refine g_il_3 hR dX5_dragFor_82 ?_
          refine gs_19 hR 3 (by decide) rfl dX5_dragFor_83 ?_
          refine g_il_4 hR dX5_dragFor_84 ?_
          refine g_if_ge (tgt := 98) hR dX5_dragFor_86 (by decide) (fun _ => ?_) (fun hc => absurd (nI_pos' (by omega)) hc)
          refine g_il_4 hR dX5_dragFor_98 ?_
          exact hE dX5_dragFor_100 (rfl) (eb)
      have lp : ∀ d' j σ' x, j + d' = 100 → σ' 4 = upd (σ 4) 3 x → Eb (bset σ' 4 (σ 4)) σ → fstN (fun q => decide (daysF (upd (σ 4) 3 (nI (99 - q))) n c 2 = b)) j = none → G 35 [some (.ref 18), some (.int b), some (.int (nI c)), some (.int (σ 4 3)), some (.int (-1)), some (.int (nI d' - 1))] [] σ' := by
        intro d'
        induction d' with
        | zero =>
          intro j σ' x hj h4 he hf
          have e99 : j = 100 := by omega
          rw [e99] at hf
          refine g_il_5 hR dX5_dragFor_35 ?_
          refine g_if_lt (tgt := 77) hR dX5_dragFor_37 (by decide) (fun _ => ?_) (fun hc => absurd ((by decide)) hc)
          exact fin σ' x _ (-1) h4 he (Or.inl ⟨by decide, hf⟩)
        | succ d' ih =>
          intro j σ' x hj h4 he hf
          have e99 : 99 - j = d' := by omega
          have e4 : hset σ' 4 3 (nI d') 4 = upd (σ 4) 3 (nI d') := by rw [hset_e, bset_s, h4, upd_upd]
          have hg : Gd (upd (σ 4) 3 (nI d')) n d := Gd_drag hG (n_rg (show (d' : Int) ≤ 99 by omega) (by decide))
          have hx4 : bset (hset σ' 4 3 (nI d')) 7 (cpN (hset σ' 4 3 (nI d') 4) (hset σ' 4 3 (nI d') 7) 64) 4 = upd (σ 4) 3 (nI d') := by rw [bset_n (by decide), e4]
          have hxe := (Eb_tri σ' _ _ _ (σ 4) : Eb (bset (bset (hset σ' 4 3 (nI d')) 7 (cpN (hset σ' 4 3 (nI d') 4) (hset σ' 4 3 (nI d') 7) 64)) 4 (σ 4)) (bset σ' 4 (σ 4))).tr he
          rw [nI_pred]
          refine g_il_5 hR dX5_dragFor_35 ?_
          refine g_if_lt (tgt := 77) hR dX5_dragFor_37 (by decide) (fun hc => absurd hc (nI_pos (by omega))) (fun _ => ?_)
          refine g_il_4 hR dX5_dragFor_40 ?_
          refine g_if_ge (tgt := 77) hR dX5_dragFor_42 (by decide) (fun hc => absurd hc ((by decide))) (fun _ => ?_)
          refine g_al_0 hR dX5_dragFor_45 ?_
          refine gf_X5_s hR fl_X5_7 dX5_dragFor_46 ?_
          refine g_iconst_3 hR dX5_dragFor_49 ?_
          refine g_il_5 hR dX5_dragFor_50 ?_
          refine gs_19 hR 3 (by decide) rfl dX5_dragFor_52 ?_
          refine g_al_0 hR dX5_dragFor_53 ?_
          refine g_iconst_2 hR dX5_dragFor_54 ?_
          refine g_il_2 hR dX5_dragFor_55 ?_
          refine g_cvI hR ciX5_behind dX5_dragFor_56 ml_X5_159 (Nat.le_of_ble_eq_true rfl) (by decide) rfl rfl rfl ((em_behind (n := n) (c := c) (j := 2) (d := d) (by decide) (by omega) _ (by rw [e4]; exact hg) (by omega)).weak (congrArg (fun S => daysF S n c 2) e4)) rfl (Nat.le_of_ble_eq_true rfl) rfl ?_
          refine g_il_1 hR dX5_dragFor_59 ?_
          refine g_icmp_ne (tgt := 68) hR dX5_dragFor_60 (by decide) (fun h5 => ?_) (fun h5 => ?_)
          · refine g_iconst_m1 hR dX5_dragFor_68 ?_
            refine g_is_4 hR dX5_dragFor_69 trivial ?_
            refine g_ii_5 hR dX5_dragFor_71 (sub1 _) trivial ?_
            refine g_goto (tgt := 35) hR dX5_dragFor_74 (by decide) ?_
            exact ih (j + 1) _ _ (by omega) hx4 hxe (fstN_none hf (decide_eq_false (by rw [e99]; exact h5)))
          · have hfst := fstN_first hf (decide_eq_true (by rw [e99]; exact h5)) d'
            rw [show j + 1 + d' = 100 by omega] at hfst
            have fin2 := fun y => fin _ _ y (nI d') hx4 hxe (Or.inr ⟨j, by omega, by rw [e99], hfst⟩)
            cases d' with
            | zero =>
              refine g_il_5 hR dX5_dragFor_63 ?_
              refine g_goto (tgt := 69) hR dX5_dragFor_65 (by decide) ?_
              refine g_is_4 hR dX5_dragFor_69 trivial ?_
              refine g_ii_5 hR dX5_dragFor_71 (sub1 _) trivial ?_
              refine g_goto (tgt := 35) hR dX5_dragFor_74 (by decide) ?_
              refine g_il_5 hR dX5_dragFor_35 ?_
              refine g_if_lt (tgt := 77) hR dX5_dragFor_37 (by decide) (fun _ => ?_) (fun hc => absurd ((by decide)) hc)
              exact fin2 _
            | succ e =>
              refine g_il_5 hR dX5_dragFor_63 ?_
              refine g_goto (tgt := 69) hR dX5_dragFor_65 (by decide) ?_
              refine g_is_4 hR dX5_dragFor_69 trivial ?_
              refine g_ii_5 hR dX5_dragFor_71 (sub1 _) trivial ?_
              refine g_goto (tgt := 35) hR dX5_dragFor_74 (by decide) ?_
              rw [nI_pred]
              refine g_il_5 hR dX5_dragFor_35 ?_
              refine g_if_lt (tgt := 77) hR dX5_dragFor_37 (by decide) (fun hc => absurd hc (nI_pos (by omega))) (fun _ => ?_)
              refine g_il_4 hR dX5_dragFor_40 ?_
              refine g_if_ge (tgt := 77) hR dX5_dragFor_42 (by decide) (fun _ => ?_) (fun hc => absurd (nI_pos' (by omega)) hc)
              rw [← nI_pred e]
              exact fin2 _
      refine g_al_0 hR dX5_dragFor_21 ?_
      refine gf_X5_s hR fl_X5_7 dX5_dragFor_22 ?_
      refine g_iconst_3 hR dX5_dragFor_25 ?_
      refine ga_19 hR 3 (by decide) rfl dX5_dragFor_26 ?_
      refine g_is_3 hR dX5_dragFor_27 trivial ?_
      refine g_iconst_m1 hR dX5_dragFor_28 ?_
      refine g_is_4 hR dX5_dragFor_29 trivial ?_
      refine g_bipush_99 hR dX5_dragFor_31 ?_
      refine g_is_5 hR dX5_dragFor_33 trivial ?_
      exact lp 100 0 σ (σ 4 3) rfl (upd_id _ _).symm (by rw [bset_id]; exact Eb.rf σ) rfl
    · exact bad (fun q => bI_0.mp h3 q.2)
set_option maxRecDepth 100000 in
set_option maxHeartbeats 4000000 in
theorem em_ones {s : Nat} (hs : s < 4096) (σ : Hp) : CtI yX5_ones wX5_ones 0 [.int (nI s)] σ (nI (pcn s)) (σ) := by
  refine CtI.of (by decide) (Nat.le_of_ble_eq_true rfl) rfl rfl (fun G hR hE => ?_)
  have lp : ∀ e l k, l ≤ e → l < 4096 → k + pcn l = pcn s → G 4 [some (.int (nI s)), some (.int (nI k)), some (.int (nI l))] [] σ := by
    intro e
    induction e with
    | zero =>
      intro l k h1 h2 h3
      obtain rfl : l = 0 := by omega
      rw [pcn_0] at h3
      obtain rfl : k = pcn s := by omega
      refine g_il_2 hR dX5_ones_4 ?_
      refine g_if_eq (tgt := 20) hR dX5_ones_5 (by decide) (fun _ => ?_) (fun hc => absurd (rfl) hc)
      refine g_il_1 hR dX5_ones_20 ?_
      exact hE dX5_ones_21 (rfl) (rfl)
    | succ e ih =>
      intro l k h1 h2 h3
      by_cases h0 : l = 0
      · subst h0
        rw [pcn_0] at h3
        obtain rfl : k = pcn s := by omega
        refine g_il_2 hR dX5_ones_4 ?_
        refine g_if_eq (tgt := 20) hR dX5_ones_5 (by decide) (fun _ => ?_) (fun hc => absurd (rfl) hc)
        refine g_il_1 hR dX5_ones_20 ?_
        exact hE dX5_ones_21 (rfl) (rfl)
      · obtain ⟨o1, o2, o3⟩ := on_ok l h2 (by omega)
        refine g_il_2 hR dX5_ones_4 ?_
        refine g_if_eq (tgt := 20) hR dX5_ones_5 (by decide) (fun hc => absurd hc (nI_ne0 (by omega) (by omega))) (fun _ => ?_)
        refine g_inc_1 hR dX5_ones_8 trivial ?_
        refine g_il_2 hR dX5_ones_11 ?_
        refine g_il_2 hR dX5_ones_12 ?_
        refine g_iconst_1 hR dX5_ones_13 ?_
        refine g_isub hR dX5_ones_14 ?_
        refine g_iand hR dX5_ones_15 ?_
        refine g_top o1 ?_
        refine g_is_2 hR dX5_ones_16 trivial ?_
        refine g_goto (tgt := 4) hR dX5_ones_17 (by decide) ?_
        exact ih _ (k + 1) (by omega) (by omega) (by omega)
  refine g_iconst_0 hR dX5_ones_0 ?_
  refine g_is_1 hR dX5_ones_1 trivial ?_
  refine g_il_0 hR dX5_ones_2 ?_
  refine g_is_2 hR dX5_ones_3 trivial ?_
  exact lp s s 0 (Nat.le_refl s) hs (by omega)
set_option maxRecDepth 100000 in
set_option maxHeartbeats 4000000 in
theorem cm_loosen {n : Nat} {d : Int} (b v : Int32) (σ : Hp) (hG : Gd (σ 4) n d) (hd : d ≤ 50000) (h64 : σ 4 64 = 0) : CtP yX5_loosen wX5_loosen 8 [.ref 18, .int b, .int v] σ (if (0 ≤ b ∧ b ≤ 11) ∧ 0 ≤ v ∧ v ≤ 20 then rsV (lsnM (fun q => decide (daysF (upd (σ 4) 64 (nI q)) n v.toNatClampNeg 2 = b)) (2 ^ n)) else -1000001) (fun σ' => Eb σ' (if (0 ≤ b ∧ b ≤ 11) ∧ 0 ≤ v ∧ v ≤ 20 then rsT σ 14 (lsnM (fun q => decide (daysF (upd (σ 4) 64 (nI q)) n v.toNatClampNeg 2 = b)) (2 ^ n)) else fnd σ 14 0)) := by
  refine CtP.of (by decide) (Nat.le_of_ble_eq_true rfl) rfl rfl (fun G hR hE => ?_)
  have hn8 := hG.1
  have hpw := pw_le hn8
  have bad : ¬ ((0 ≤ b ∧ b ≤ 11) ∧ 0 ≤ v ∧ v ≤ 20) → G 19 [some (.ref 18), some (.int b), some (.int v), none, none] [] σ := by
    intro h
    rw [if_neg h, if_neg h] at hE
    refine g_al_0 hR dX5_loosen_19 ?_
    refine g_ldc hR dX5_loosen_20 kc_X5_40 ?_
    refine g_cvI hR ciX5_finds dX5_loosen_22 ml_X5_60 (Nat.le_of_ble_eq_true rfl) (by decide) rfl rfl rfl (cm_f0 σ) rfl (Nat.le_of_ble_eq_true rfl) rfl ?_
    exact hE dX5_loosen_25 (rfl) (Eb.rf _)
  refine g_il_1 hR dX5_loosen_0 ?_
  refine g_csI hR ciX5_isPlace dX5_loosen_1 ml_X5_53 (Nat.le_of_ble_eq_true rfl) (em_isPlace b σ) rfl (Nat.le_of_ble_eq_true rfl) rfl ?_
  refine g_if_eq (tgt := 19) hR dX5_loosen_4 (by decide) (fun h2 => ?_) (fun h2 => ?_)
  · exact bad (fun q => bI_0.mp h2 q.1)
  · refine g_il_2 hR dX5_loosen_7 ?_
    refine g_i2l hR dX5_loosen_8 ?_
    refine g_lconst (v := 0) hR dX5_loosen_9 (by decide) ?_
    refine g_ldc2 hR dX5_loosen_10 kl_X5_176 ?_
    refine g_csI hR ciX5_in dX5_loosen_13 ml_X5_43 (Nat.le_of_ble_eq_true rfl) (ev_in v 0 20 rfl rfl σ) rfl (Nat.le_of_ble_eq_true rfl) rfl ?_
    refine g_if_ne (tgt := 26) hR dX5_loosen_16 (by decide) (fun h3 => ?_) (fun h3 => ?_)
    · have hc := And.intro (bI_no h2) (bI_no h3)
      rw [if_pos hc, if_pos hc] at hE
      obtain ⟨c, hc2, rfl⟩ := nle 20 hc.2 (by decide)
      rw [show (nI c).toNatClampNeg = c from nI_clamp (by omega)] at hE
      generalize hC : (fun q : Nat => decide (daysF (upd (σ 4) 64 (nI q)) n c 2 = b)) = C at hE
      have hCq : ∀ q, C q = decide (daysF (upd (σ 4) 64 (nI q)) n c 2 = b) := fun q => by rw [← hC]
      have lp : ∀ d' j σ' x, j + d' = 2 ^ n → σ' 4 = upd (σ 4) 64 x → Eb (bset σ' 4 (σ 4)) σ → G 31 [some (.ref 18), some (.int b), some (.int (nI c)), some (.int (oI (lsnM C j))), some (.int (nI j))] [] σ' := by
        intro d'
        induction d' with
        | zero =>
          intro j σ' x hj h4 he
          have eb : Eb (hset σ' 4 64 0) σ := by rw [hset_e, h4, upd_upd, ← h64, upd_id]; exact he
          rw [show j = 2 ^ n by omega]
          refine g_il_4 hR dX5_loosen_31 ?_
          refine g_iconst_1 hR dX5_loosen_33 ?_
          refine g_al_0 hR dX5_loosen_34 ?_
          refine gf_X5_s hR fl_X5_7 dX5_loosen_35 ?_
          refine g_iconst_1 hR dX5_loosen_38 ?_
          refine ga_19 hR 1 (by decide) rfl dX5_loosen_39 ?_
          refine g_top (show σ' 4 1 = nI n by rw [h4, upd_n (by decide)]; exact hG.2.1) ?_
          refine g_ishl hR dX5_loosen_40 ?_
          refine g_top (shl_n n (by omega)) ?_
          cases hm : lsnM C (2 ^ n) with
          | none =>
            rw [hm] at hE
            refine g_icmp_ge (tgt := 89) hR dX5_loosen_41 (by decide) (fun _ => ?_) (fun hc => absurd (Int32.le_refl _) hc)
            refine g_al_0 hR dX5_loosen_89 ?_
            refine g_iconst_0 hR dX5_loosen_90 ?_
            refine pf_X5_loose hR fl_X5_85 dX5_loosen_91 ?_
            refine g_il_3 hR dX5_loosen_94 ?_
            refine g_if_ge (tgt := 107) hR dX5_loosen_95 (by decide) (fun hc => absurd hc ((by decide))) (fun _ => ?_)
            refine g_al_0 hR dX5_loosen_98 ?_
            refine g_ldc hR dX5_loosen_99 kc_X5_162 ?_
            refine g_cvI hR ciX5_finds dX5_loosen_101 ml_X5_60 (Nat.le_of_ble_eq_true rfl) (by decide) rfl rfl rfl (cm_f3 _) rfl (Nat.le_of_ble_eq_true rfl) rfl ?_
            refine g_goto (tgt := 108) hR dX5_loosen_104 (by decide) ?_
            exact hE dX5_loosen_108 (rfl) (Eb.fn eb 3 (by decide) (by decide) (by decide) (by decide))
          | some q =>
            have hq := lsnM_lt hm
            rw [hm] at hE
            refine g_icmp_ge (tgt := 89) hR dX5_loosen_41 (by decide) (fun _ => ?_) (fun hc => absurd (Int32.le_refl _) hc)
            refine g_al_0 hR dX5_loosen_89 ?_
            refine g_iconst_0 hR dX5_loosen_90 ?_
            refine pf_X5_loose hR fl_X5_85 dX5_loosen_91 ?_
            refine g_il_3 hR dX5_loosen_94 ?_
            refine g_if_ge (tgt := 107) hR dX5_loosen_95 (by decide) (fun _ => ?_) (fun hc => absurd (nI_pos' (by omega)) hc)
            refine g_il_3 hR dX5_loosen_107 ?_
            exact hE dX5_loosen_108 (rfl) (eb)
        | succ d' ih =>
          intro j σ' x hj h4 he
          have e4 : hset σ' 4 64 (nI j) 4 = upd (σ 4) 64 (nI j) := by rw [hset_e, bset_s, h4, upd_upd]
          have hg : Gd (upd (σ 4) 64 (nI j)) n d := Gd_loose hG
          have hx4 : bset (hset σ' 4 64 (nI j)) 7 (cpN (hset σ' 4 64 (nI j) 4) (hset σ' 4 64 (nI j) 7) 64) 4 = upd (σ 4) 64 (nI j) := by rw [bset_n (by decide), e4]
          have hxe := (Eb_tri σ' _ _ _ (σ 4) : Eb (bset (bset (hset σ' 4 64 (nI j)) 7 (cpN (hset σ' 4 64 (nI j) 4) (hset σ' 4 64 (nI j) 7) 64)) 4 (σ 4)) (bset σ' 4 (σ 4))).tr he
          have stay := ih (j + 1) σ' x (by omega) h4 he
          have went := ih (j + 1) _ _ (by omega) hx4 hxe
          have test : ∀ r, (C j = true → lsnM C (j + 1) = some j) → (C j = false → oI (lsnM C (j + 1)) = r) → G 60 [some (.ref 18), some (.int b), some (.int (nI c)), some (.int r), some (.int (nI j))] [] σ' := by
            intro r ht hf
            refine g_al_0 hR dX5_loosen_60 ?_
            refine g_il_4 hR dX5_loosen_61 ?_
            refine pf_X5_loose hR fl_X5_85 dX5_loosen_63 ?_
            refine g_al_0 hR dX5_loosen_66 ?_
            refine g_iconst_2 hR dX5_loosen_67 ?_
            refine g_il_2 hR dX5_loosen_68 ?_
            refine g_cvI hR ciX5_behind dX5_loosen_69 ml_X5_159 (Nat.le_of_ble_eq_true rfl) (by decide) rfl rfl rfl ((em_behind (n := n) (c := c) (j := 2) (d := d) (by decide) (by omega) _ (by rw [e4]; exact hg) (by omega)).weak (congrArg (fun S => daysF S n c 2) e4)) rfl (Nat.le_of_ble_eq_true rfl) rfl ?_
            refine g_il_1 hR dX5_loosen_72 ?_
            refine g_icmp_ne (tgt := 81) hR dX5_loosen_73 (by decide) (fun h5 => ?_) (fun h5 => ?_)
            · rw [hf (by rw [hCq]; exact decide_eq_false h5)] at went
              refine g_il_3 hR dX5_loosen_81 ?_
              refine g_is_3 hR dX5_loosen_82 trivial ?_
              refine g_inc_4 hR dX5_loosen_83 trivial ?_
              refine g_goto (tgt := 31) hR dX5_loosen_86 (by decide) ?_
              exact went
            · rw [ht (by rw [hCq]; exact decide_eq_true h5)] at went
              refine g_il_4 hR dX5_loosen_76 ?_
              refine g_goto (tgt := 82) hR dX5_loosen_78 (by decide) ?_
              refine g_is_3 hR dX5_loosen_82 trivial ?_
              refine g_inc_4 hR dX5_loosen_83 trivial ?_
              refine g_goto (tgt := 31) hR dX5_loosen_86 (by decide) ?_
              exact went
          refine g_il_4 hR dX5_loosen_31 ?_
          refine g_iconst_1 hR dX5_loosen_33 ?_
          refine g_al_0 hR dX5_loosen_34 ?_
          refine gf_X5_s hR fl_X5_7 dX5_loosen_35 ?_
          refine g_iconst_1 hR dX5_loosen_38 ?_
          refine ga_19 hR 1 (by decide) rfl dX5_loosen_39 ?_
          refine g_top (show σ' 4 1 = nI n by rw [h4, upd_n (by decide)]; exact hG.2.1) ?_
          refine g_ishl hR dX5_loosen_40 ?_
          refine g_top (shl_n n (by omega)) ?_
          cases hm : lsnM C j with
          | none =>
            refine g_icmp_ge (tgt := 89) hR dX5_loosen_41 (by decide) (fun hc => absurd hc (nI_ge (by omega) (by omega))) (fun _ => ?_)
            refine g_il_3 hR dX5_loosen_44 ?_
            refine g_if_lt (tgt := 60) hR dX5_loosen_45 (by decide) (fun _ => ?_) (fun hc => absurd ((by decide)) hc)
            exact test _ (fun h => by rw [lsnM, hm]; simp [h]) (fun h => by rw [lsnM, hm]; simp [h])
          | some q =>
            have hq := lsnM_lt hm
            have p1 : pcn j ≤ 12 := by unfold pcn; omega
            have p2 : pcn q ≤ 12 := by unfold pcn; omega
            refine g_icmp_ge (tgt := 89) hR dX5_loosen_41 (by decide) (fun hc => absurd hc (nI_ge (by omega) (by omega))) (fun _ => ?_)
            refine g_il_3 hR dX5_loosen_44 ?_
            refine g_if_lt (tgt := 60) hR dX5_loosen_45 (by decide) (fun hc => absurd hc (nI_pos (by omega))) (fun _ => ?_)
            refine g_il_4 hR dX5_loosen_48 ?_
            refine g_csI hR ciX5_ones dX5_loosen_50 ml_X5_178 (Nat.le_of_ble_eq_true rfl) (em_ones (s := j) (by omega) σ') rfl (Nat.le_of_ble_eq_true rfl) rfl ?_
            refine g_il_3 hR dX5_loosen_53 ?_
            refine g_csI hR ciX5_ones dX5_loosen_54 ml_X5_178 (Nat.le_of_ble_eq_true rfl) (em_ones (s := q) (by omega) σ') rfl (Nat.le_of_ble_eq_true rfl) rfl ?_
            refine g_icmp_ge (tgt := 83) hR dX5_loosen_57 (by decide) (fun h5 => ?_) (fun h5 => ?_)
            · have hn : ¬ pcn j < pcn q := fun h => nI_ge h (by omega) h5
              have e5 : lsnM C (j + 1) = some q := by rw [lsnM, hm]; show (if pcn j < pcn q ∧ C j = true then some j else some q) = some q; rw [if_neg (fun h => hn h.1)]
              rw [e5] at stay
              refine g_inc_4 hR dX5_loosen_83 trivial ?_
              refine g_goto (tgt := 31) hR dX5_loosen_86 (by decide) ?_
              exact stay
            · have hn : pcn j < pcn q := by
                rcases Nat.lt_or_ge (pcn j) (pcn q) with h | h
                · exact h
                · exact absurd (nI_le h (by omega)) h5
              exact test _ (fun h => by rw [lsnM, hm]; show (if pcn j < pcn q ∧ C j = true then some j else some q) = some j; rw [if_pos ⟨hn, h⟩]) (fun h => by rw [lsnM, hm]; show oI (if pcn j < pcn q ∧ C j = true then some j else some q) = _; rw [if_neg (fun h' => by rw [h] at h'; cases h'.2)])
      refine g_iconst_m1 hR dX5_loosen_26 ?_
      refine g_is_3 hR dX5_loosen_27 trivial ?_
      refine g_iconst_0 hR dX5_loosen_28 ?_
      refine g_is_4 hR dX5_loosen_29 trivial ?_
      exact lp (2 ^ n) 0 σ 0 (by omega) (by rw [← h64, upd_id]) (by rw [bset_id]; exact Eb.rf σ)
    · exact bad (fun q => bI_0.mp h3 q.2)
