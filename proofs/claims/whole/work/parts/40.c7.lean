set_option maxRecDepth 100000 in
set_option maxHeartbeats 4000000 in
theorem cx_parcels {n : Nat} {d : Int} (a : Int32) (σ : Hp) (hG : Gd (σ 0) n d) (hd : d ≤ 40000) : CtP yX4_parcels wX4_parcels 5 [.ref 0, .int a] σ (if 1 ≤ a ∧ a ≤ 20 then prcN (σ 0) n a.toNatClampNeg 2 else -1000001) (fun σ' => Eb σ' (if 1 ≤ a ∧ a ≤ 20 then bset σ 0 (prcN (σ 0) n a.toNatClampNeg) else fnd σ 13 0)) := by
  refine CtP.of (by decide) (Nat.le_of_ble_eq_true rfl) rfl rfl (fun G hR hE => ?_)
  have hn8 := hG.1
  refine g_il_1 hR dX4_parcels_0 ?_
  refine g_iconst_1 hR dX4_parcels_1 ?_
  refine g_bipush_20 hR dX4_parcels_2 ?_
  refine g_csI hR ciX4_isWithin dX4_parcels_4 ml_X4_66 (Nat.le_of_ble_eq_true rfl) (ev_isWithin a 1 20 σ) rfl (Nat.le_of_ble_eq_true rfl) rfl ?_
  refine g_if_ne (tgt := 17) hR dX4_parcels_7 (by decide) (fun h => ?_) (fun h => ?_)
  · have hc := bI_no h
    rw [if_pos hc, if_pos hc] at hE
    obtain ⟨c, hc2, rfl⟩ := nle 20 ⟨Int32.le_trans (by decide) hc.1, hc.2⟩ (by decide)
    rw [show (nI c).toNatClampNeg = c from nI_clamp (by omega)] at hE
    have lp : ∀ d' j σ' x3 x4, j + d' = c → Eb σ' (bset σ 0 (prcN (σ 0) n j)) → G 40 [some (.ref 0), some (.int (nI c)), some (.int (nI j)), x3, x4] [] σ' := by
      intro d'
      induction d' with
      | zero =>
        intro j σ' x3 x4 hj he
        obtain rfl : j = c := by omega
        have e0 : σ' 0 = prcN (σ 0) n j := by rw [he 0 (by decide) (by decide) (by decide) (by decide), bset_s]
        refine g_il_2 hR dX4_parcels_40 ?_
        refine g_il_1 hR dX4_parcels_41 ?_
        refine g_icmp_ge (tgt := 103) hR dX4_parcels_42 (by decide) (fun _ => ?_) (fun hc => absurd (Int32.le_refl _) hc)
        refine g_al_0 hR dX4_parcels_103 ?_
        refine gf_X4_current hR fl_X4_12 dX4_parcels_104 ?_
        refine gf_X3_at hR z0 fl_X4_62 dX4_parcels_107 ?_
        exact hE dX4_parcels_110 (congrFun e0 2) (he)
      | succ d' ih =>
        intro j σ' x3 x4 hj he
        have e0 : σ' 0 = prcN (σ 0) n j := by rw [he 0 (by decide) (by decide) (by decide) (by decide), bset_s]
        have hg := Gd_prcN hG j (by omega)
        have hst := prc_st hg
        have e1 := fun σ'' x y h => ih (j + 1) σ'' x y (by omega) h
        rw [prcN, prc1] at e1
        generalize hP : prcN (σ 0) n j = Q at *
        obtain ⟨p, hp, ep⟩ := drw_r (Q 5) 8 (by decide) (by decide)
        obtain ⟨t, ht, et⟩ := drw_r (drwZ (Q 5)) 12 (by decide) (by decide)
        have ep : drwV (Q 5) - drwV (Q 5) / 8 * 8 = nI p := ep
        have et : drwV (drwZ (Q 5)) - drwV (drwZ (Q 5)) / 12 * 12 = nI t := et
        rw [ep, et, nI_clamp (by omega)] at e1 hst
        have e5 : bset σ' 0 (upd (σ' 0) 5 (drwZ (σ' 0 5))) 0 5 = drwZ (Q 5) := by rw [bset_s, upd_s, e0]
        refine g_il_2 hR dX4_parcels_40 ?_
        refine g_il_1 hR dX4_parcels_41 ?_
        refine g_icmp_ge (tgt := 103) hR dX4_parcels_42 (by decide) (fun hc => absurd hc (nI_ge (by omega) (by omega))) (fun _ => ?_)
        refine g_al_0 hR dX4_parcels_45 ?_
        refine gf_X4_current hR fl_X4_12 dX4_parcels_46 ?_
        refine g_cvI hR ciX3_nextDraw dX4_parcels_49 ml_X4_170 (Nat.le_of_ble_eq_true rfl) (by omega) (lay_w z0) rfl rfl (ev_nextDraw (k := 0) z0 σ') rfl (Nat.le_of_ble_eq_true rfl) rfl ?_
        refine g_bipush_8 hR dX4_parcels_52 ?_
        refine g_irem hR dX4_parcels_54 (by decide) ?_
        refine g_top (show _ = nI p by rw [e0]; exact ep) ?_
        refine g_is_3 hR dX4_parcels_55 trivial ?_
        refine g_al_0 hR dX4_parcels_56 ?_
        refine gf_X4_current hR fl_X4_12 dX4_parcels_57 ?_
        refine g_cvI hR ciX3_nextDraw dX4_parcels_60 ml_X4_170 (Nat.le_of_ble_eq_true rfl) (by omega) (lay_w z0) rfl rfl ((ev_nextDraw (k := 0) z0 _).weak (congrArg drwV e5)) rfl (Nat.le_of_ble_eq_true rfl) rfl ?_
        refine g_bipush_12 hR dX4_parcels_63 ?_
        refine g_irem hR dX4_parcels_65 (by decide) ?_
        refine g_top et ?_
        rw [e5, bset_s, bset_bset, e0]
        have eM : bset σ' 0 (upd (upd Q 5 (drwZ (Q 5))) 5 (drwZ (drwZ (Q 5)))) 0 1 = nI n := by rw [bset_s, upd_n (by decide), upd_n (by decide)]; exact hg.2.1
        by_cases hpn : p < n
        · have hin : 0 ≤ nI p ∧ nI p < nI n := ⟨nI_pos' (by omega), nI_lt hpn (by omega)⟩
          rw [if_pos hin] at hst e1
          refine g_is_4 hR dX4_parcels_66 trivial ?_
          refine g_al_0 hR dX4_parcels_68 ?_
          refine gf_X4_current hR fl_X4_12 dX4_parcels_69 ?_
          refine g_il_3 hR dX4_parcels_72 ?_
          refine g_cvI hR ciX3_hasPiece dX4_parcels_73 ml_X4_85 (Nat.le_of_ble_eq_true rfl) (by omega) (lay_w z0) rfl rfl (ev_hasPiece (k := 0) z0 (nI p) _) rfl (Nat.le_of_ble_eq_true rfl) rfl ?_
          refine g_if_eq (tgt := 90) hR dX4_parcels_76 (by decide) (fun hc => absurd hc (bI_pos ⟨hin.1, by rw [eM]; exact hin.2⟩)) (fun _ => ?_)
          refine g_al_0 hR dX4_parcels_79 ?_
          refine gf_X4_current hR fl_X4_12 dX4_parcels_80 ?_
          refine g_il_3 hR dX4_parcels_83 ?_
          refine g_iconst_1 hR dX4_parcels_84 ?_
          refine g_il_4 hR dX4_parcels_85 ?_
          refine g_cvV hR ciX3_setFact dX4_parcels_87 ml_X4_98 (Nat.le_of_ble_eq_true rfl) (by omega) (lay_w z0) rfl rfl (ev_setFact (k := 0) (p := p) (w := 1) z0 hp (by decide) (nI t) _) rfl (Nat.le_of_ble_eq_true rfl) rfl ?_
          rw [bset_s, bset_bset]
          refine g_al_0 hR dX4_parcels_90 ?_
          refine gf_X4_current hR fl_X4_12 dX4_parcels_91 ?_
          refine g_cvV hR ciX3_passDay dX4_parcels_94 ml_X4_146 (Nat.le_of_ble_eq_true rfl) (by omega) (lay_w z0) rfl rfl (ev_passDay (k := 0) (n := n) (d := d + j) z0 _ (by rw [bset_s]; exact hst) (by omega)) rfl (Nat.le_of_ble_eq_true rfl) rfl ?_
          refine g_inc_2 hR dX4_parcels_97 trivial ?_
          refine g_goto (tgt := 40) hR dX4_parcels_100 (by decide) ?_
          exact e1 _ _ _ ((Eb.wday rfl).tr (by rw [bset_s, bset_bset]; exact Eb_b he))
        · have hin : ¬ (0 ≤ nI p ∧ nI p < nI n) := fun q => nI_nlt (by omega) (by omega) q.2
          rw [if_neg hin] at hst e1
          refine g_is_4 hR dX4_parcels_66 trivial ?_
          refine g_al_0 hR dX4_parcels_68 ?_
          refine gf_X4_current hR fl_X4_12 dX4_parcels_69 ?_
          refine g_il_3 hR dX4_parcels_72 ?_
          refine g_cvI hR ciX3_hasPiece dX4_parcels_73 ml_X4_85 (Nat.le_of_ble_eq_true rfl) (by omega) (lay_w z0) rfl rfl (ev_hasPiece (k := 0) z0 (nI p) _) rfl (Nat.le_of_ble_eq_true rfl) rfl ?_
          refine g_if_eq (tgt := 90) hR dX4_parcels_76 (by decide) (fun _ => ?_) (fun hc => absurd (bI_0.mpr (by rw [eM]; exact hin)) hc)
          refine g_al_0 hR dX4_parcels_90 ?_
          refine gf_X4_current hR fl_X4_12 dX4_parcels_91 ?_
          refine g_cvV hR ciX3_passDay dX4_parcels_94 ml_X4_146 (Nat.le_of_ble_eq_true rfl) (by omega) (lay_w z0) rfl rfl (ev_passDay (k := 0) (n := n) (d := d + j) z0 _ (by rw [bset_s]; exact hst) (by omega)) rfl (Nat.le_of_ble_eq_true rfl) rfl ?_
          refine g_inc_2 hR dX4_parcels_97 trivial ?_
          refine g_goto (tgt := 40) hR dX4_parcels_100 (by decide) ?_
          exact e1 _ _ _ ((Eb.wday rfl).tr (by rw [bset_s, bset_bset]; exact Eb_b he))
    refine g_al_0 hR dX4_parcels_17 ?_
    refine gf_X4_current hR fl_X4_12 dX4_parcels_18 ?_
    refine gf_X3_day hR z0 fl_X4_112 dX4_parcels_21 ?_
    refine g_ldc hR dX4_parcels_24 kc_X4_115 ?_
    refine g_il_1 hR dX4_parcels_26 ?_
    refine g_isub hR dX4_parcels_27 ?_
    refine g_icmp_le (tgt := 38) hR dX4_parcels_28 (by decide) (fun _ => ?_) (fun hc => absurd (day_c hG hd (by omega)) hc)
    refine g_iconst_0 hR dX4_parcels_38 ?_
    refine g_is_2 hR dX4_parcels_39 trivial ?_
    exact lp c 0 σ none none (by omega) (by show Eb σ (bset σ 0 (σ 0)); rw [bset_id]; exact Eb.rf σ)
  · rw [if_neg (bI_0.mp h), if_neg (bI_0.mp h)] at hE
    refine g_al_0 hR dX4_parcels_10 ?_
    refine g_ldc hR dX4_parcels_11 kc_X4_57 ?_
    refine g_cvI hR ciX4_finding dX4_parcels_13 ml_X4_58 (Nat.le_of_ble_eq_true rfl) (by decide) rfl rfl rfl (cx_f0 σ) rfl (Nat.le_of_ble_eq_true rfl) rfl ?_
    exact hE dX4_parcels_16 (rfl) (Eb.rf _)
set_option maxRecDepth 100000 in
set_option maxHeartbeats 4000000 in
theorem ev_lowest {s m : Nat} (hs : s ≤ 12) (hm : m ≤ 12) (σ : Hp) : CtI yX4_inLowestTerms wX4_inLowestTerms 0 [.int (nI s), .int (nI m)] σ (nI (s / lowD m)) (σ) := by
  refine CtI.of (by decide) (Nat.le_of_ble_eq_true rfl) rfl rfl (fun G hR hE => ?_)
  have lp : ∀ d' j, j + d' = 11 → fstN (lowC m) j = none → G 3 [some (.int (nI s)), some (.int (nI m)), some (.int (nI (d' + 1)))] [] σ := by
    intro d'
    induction d' with
    | zero =>
      intro j hj hf
      have e11 : j = 11 := by omega
      rw [e11] at hf
      refine g_il_2 hR dX4_inLowestTerms_3 ?_
      refine g_iconst_1 hR dX4_inLowestTerms_4 ?_
      refine g_icmp_le (tgt := 31) hR dX4_inLowestTerms_5 (by decide) (fun _ => ?_) (fun hc => absurd ((by decide)) hc)
      refine g_il_0 hR dX4_inLowestTerms_31 ?_
      exact hE dX4_inLowestTerms_32 (by unfold lowD; rw [hf]; show nI s = nI (s / 1); rw [Nat.div_one]) (rfl)
    | succ d' ih =>
      intro j hj hf
      have ed : 12 - j = d' + 1 + 1 := by omega
      refine g_il_2 hR dX4_inLowestTerms_3 ?_
      refine g_iconst_1 hR dX4_inLowestTerms_4 ?_
      refine g_icmp_le (tgt := 31) hR dX4_inLowestTerms_5 (by decide) (fun hc => absurd hc (nI_ge (a := 1) (b := d' + 1 + 1) (by omega) (by omega))) (fun _ => ?_)
      refine g_il_1 hR dX4_inLowestTerms_8 ?_
      refine g_il_2 hR dX4_inLowestTerms_9 ?_
      refine g_irem hR dX4_inLowestTerms_10 (nI_ne0 (by omega) (by omega)) ?_
      refine g_top (pk_rem (a := m) (d := d' + 1 + 1) (by omega) (by omega) (by omega)) ?_
      have next : lowC m j = false → G 25 [some (.int (nI s)), some (.int (nI m)), some (.int (nI (d' + 1 + 1)))] [] σ := by
        intro hc
        refine g_dec_2 hR dX4_inLowestTerms_25 trivial ?_
        refine g_goto (tgt := 3) hR dX4_inLowestTerms_28 (by decide) ?_
        exact ih (j + 1) (by omega) (fstN_none hf hc)
      by_cases h1 : m % (d' + 1 + 1) = 0
      · rw [h1]
        refine g_if_ne (tgt := 25) hR dX4_inLowestTerms_11 (by decide) (fun hc => absurd (rfl) hc) (fun _ => ?_)
        refine g_bipush_12 hR dX4_inLowestTerms_14 ?_
        refine g_il_2 hR dX4_inLowestTerms_16 ?_
        refine g_irem hR dX4_inLowestTerms_17 (nI_ne0 (by omega) (by omega)) ?_
        refine g_top (pk_rem (a := 12) (d := d' + 1 + 1) (by omega) (by omega) (by omega)) ?_
        by_cases h2 : 12 % (d' + 1 + 1) = 0
        · have hfst := fstN_first hf (decide_eq_true (by rw [ed]; exact ⟨h1, h2⟩)) d'
          rw [show j + 1 + d' = 11 by omega] at hfst
          have el : lowD m = d' + 1 + 1 := by unfold lowD; rw [hfst]; exact ed
          rw [h2]
          refine g_if_ne (tgt := 25) hR dX4_inLowestTerms_18 (by decide) (fun hc => absurd (rfl) hc) (fun _ => ?_)
          refine g_il_0 hR dX4_inLowestTerms_21 ?_
          refine g_il_2 hR dX4_inLowestTerms_22 ?_
          refine g_idiv hR dX4_inLowestTerms_23 (nI_ne0 (by omega) (by omega)) ?_
          exact hE dX4_inLowestTerms_24 (by rw [el]; exact pk_div (by omega) (by omega) (by omega)) (rfl)
        · refine g_if_ne (tgt := 25) hR dX4_inLowestTerms_18 (by decide) (fun _ => ?_) (fun hc => absurd hc (nI_ne0 (by omega) (by have := Nat.mod_lt 12 (show 0 < d' + 1 + 1 by omega); omega)))
          exact next (decide_eq_false (by rw [ed]; exact fun q => h2 q.2))
      · refine g_if_ne (tgt := 25) hR dX4_inLowestTerms_11 (by decide) (fun _ => ?_) (fun hc => absurd hc (nI_ne0 (by omega) (by have := Nat.mod_lt m (show 0 < d' + 1 + 1 by omega); omega)))
        exact next (decide_eq_false (by rw [ed]; exact fun q => h1 q.1))
  refine g_bipush_12 hR dX4_inLowestTerms_0 ?_
  refine g_is_2 hR dX4_inLowestTerms_2 trivial ?_
  exact lp 11 0 rfl rfl
set_option maxRecDepth 100000 in
set_option maxHeartbeats 4000000 in
theorem cx_odds {n : Nat} {d : Int} (a b : Int32) (σ : Hp) (hG : Gd (σ 0) n d) {m : Nat} (hm : m < 4096) (hM : plsN (σ 0) n = nI m) : CtL yX4_odds wX4_odds 2 [.ref 0, .int a, .int b] σ (if (0 ≤ a ∧ a ≤ 17) ∧ 0 ≤ b ∧ b ≤ 1 then powL (nI ((if b = 0 then pcn m else 12) / lowD (pcn m))).toInt64 a.toNatClampNeg else -1000001) (if (0 ≤ a ∧ a ≤ 17) ∧ 0 ≤ b ∧ b ≤ 1 then σ else fnd σ 13 0) := by
  refine CtL.of (by decide) (Nat.le_of_ble_eq_true rfl) rfl (fun G hR hE => ?_)
  have hn8 := hG.1
  have h12 := pcn12 m
  have bad : ¬ ((0 ≤ a ∧ a ≤ 17) ∧ 0 ≤ b ∧ b ≤ 1) → G 19 [some (.ref 0), some (.int a), some (.int b), none, none, none, none, none] [] σ := by
    intro h
    refine g_al_0 hR dX4_odds_19 ?_
    refine g_ldc hR dX4_odds_20 kc_X4_57 ?_
    refine g_cvI hR ciX4_finding dX4_odds_22 ml_X4_58 (Nat.le_of_ble_eq_true rfl) (by decide) rfl rfl rfl (cx_f0 σ) rfl (Nat.le_of_ble_eq_true rfl) rfl ?_
    refine g_i2l hR dX4_odds_25 ?_
    exact hE dX4_odds_26 (by rw [if_neg h]; decide) ((if_neg h).symm)
  refine g_il_1 hR dX4_odds_0 ?_
  refine g_iconst_0 hR dX4_odds_1 ?_
  refine g_bipush_17 hR dX4_odds_2 ?_
  refine g_csI hR ciX4_isWithin dX4_odds_4 ml_X4_66 (Nat.le_of_ble_eq_true rfl) (ev_isWithin a 0 17 σ) rfl (Nat.le_of_ble_eq_true rfl) rfl ?_
  refine g_if_eq (tgt := 19) hR dX4_odds_7 (by decide) (fun h1 => ?_) (fun h1 => ?_)
  · exact bad (fun q => bI_0.mp h1 q.1)
  · refine g_il_2 hR dX4_odds_10 ?_
    refine g_iconst_0 hR dX4_odds_11 ?_
    refine g_iconst_1 hR dX4_odds_12 ?_
    refine g_csI hR ciX4_isWithin dX4_odds_13 ml_X4_66 (Nat.le_of_ble_eq_true rfl) (ev_isWithin b 0 1 σ) rfl (Nat.le_of_ble_eq_true rfl) rfl ?_
    refine g_if_ne (tgt := 27) hR dX4_odds_16 (by decide) (fun h2 => ?_) (fun h2 => ?_)
    · have hc := And.intro (bI_no h1) (bI_no h2)
      rw [if_pos hc, if_pos hc] at hE
      obtain ⟨c, hc2, rfl⟩ := nle 17 hc.1 (by decide)
      rw [show (nI c).toNatClampNeg = c from nI_clamp (by omega)] at hE
      generalize hx : (nI ((if b = 0 then pcn m else 12) / lowD (pcn m))).toInt64 = x at hE
      have lp : ∀ d' j, j + d' = c → G 60 [some (.ref 0), some (.int (nI c)), some (.int b), some (.int (nI (pcn m))), some (.int (nI ((if b = 0 then pcn m else 12) / lowD (pcn m)))), some (.long (powL x j)), none, some (.int (nI j))] [] σ := by
        intro d'
        induction d' with
        | zero =>
          intro j hj
          obtain rfl : j = c := by omega
          refine g_il_7 hR dX4_odds_60 ?_
          refine g_il_1 hR dX4_odds_62 ?_
          refine g_icmp_ge (tgt := 80) hR dX4_odds_63 (by decide) (fun _ => ?_) (fun hc => absurd (Int32.le_refl _) hc)
          refine g_ll_5 hR dX4_odds_80 ?_
          exact hE dX4_odds_82 (rfl) (rfl)
        | succ d' ih =>
          intro j hj
          refine g_il_7 hR dX4_odds_60 ?_
          refine g_il_1 hR dX4_odds_62 ?_
          refine g_icmp_ge (tgt := 80) hR dX4_odds_63 (by decide) (fun hc => absurd hc (nI_ge (by omega) (by omega))) (fun _ => ?_)
          refine g_ll_5 hR dX4_odds_66 ?_
          refine g_il_4 hR dX4_odds_68 ?_
          refine g_i2l hR dX4_odds_70 ?_
          rw [hx]
          refine g_lmul hR dX4_odds_71 ?_
          refine g_lstore hR dX4_odds_72 trivial (Nat.le_of_ble_eq_true rfl) rfl ?_
          refine g_inc_7 hR dX4_odds_74 trivial ?_
          refine g_goto (tgt := 60) hR dX4_odds_77 (by decide) ?_
          exact ih (j + 1) (by omega)
      have key : G 48 [some (.ref 0), some (.int (nI c)), some (.int b), some (.int (nI (pcn m))), none, none, none, none] [.int (nI (if b = 0 then pcn m else 12))] σ := by
        have h13 : (if b = 0 then pcn m else 12) ≤ 12 := by split <;> omega
        refine g_il_3 hR dX4_odds_48 ?_
        refine g_csI hR ciX4_inLowestTerms dX4_odds_49 ml_X4_173 (Nat.le_of_ble_eq_true rfl) (ev_lowest h13 h12 σ) rfl (Nat.le_of_ble_eq_true rfl) rfl ?_
        refine g_is_4 hR dX4_odds_52 trivial ?_
        refine g_lconst (v := 1) hR dX4_odds_54 (by decide) ?_
        refine g_lstore hR dX4_odds_55 trivial (Nat.le_of_ble_eq_true rfl) rfl ?_
        refine g_iconst_0 hR dX4_odds_57 ?_
        refine g_is_7 hR dX4_odds_58 trivial ?_
        exact lp c 0 (by omega)
      refine g_al_0 hR dX4_odds_27 ?_
      refine gf_X4_current hR fl_X4_12 dX4_odds_28 ?_
      refine g_cvI hR ciX3_placeSet dX4_odds_31 ml_X4_135 (Nat.le_of_ble_eq_true rfl) (by omega) (lay_w z0) rfl rfl ((ev_placeSet (k := 0) z0 hn8 σ hG.2.1).weak hM) rfl (Nat.le_of_ble_eq_true rfl) rfl ?_
      refine g_csI hR ciJ6_bitCount_0f7a4 dX4_odds_34 ml_X4_158 (Nat.le_of_ble_eq_true rfl) (ev_bitCount hm σ) rfl (Nat.le_of_ble_eq_true rfl) rfl ?_
      refine g_is_3 hR dX4_odds_37 trivial ?_
      refine g_il_2 hR dX4_odds_38 ?_
      refine g_if_ne (tgt := 46) hR dX4_odds_39 (by decide) (fun h3 => ?_) (fun h3 => ?_)
      · rw [if_neg h3] at key
        refine g_bipush_12 hR dX4_odds_46 ?_
        exact key
      · rw [if_pos h3] at key
        refine g_il_3 hR dX4_odds_42 ?_
        refine g_goto (tgt := 48) hR dX4_odds_43 (by decide) ?_
        exact key
    · exact bad (fun q => bI_0.mp h2 q.2)
set_option maxRecDepth 100000 in
set_option maxHeartbeats 4000000 in
theorem ev_under {k w : Nat} (hk : k < 7) (hw : w < 7) (σ : Hp) : CtI yX4_isKindUnder wX4_isKindUnder 2 [.int (nI k), .int (nI w)] σ (bI (und 6 k w = true)) (σ) := by
  refine CtI.of (by decide) (Nat.le_of_ble_eq_true rfl) (bI_nar _) rfl (fun G hR hE => ?_)
  have lp : ∀ f k' j, k' ≤ f → j + k' ≤ 6 → f ≤ 6 → und f k' w = und 6 k w → G 4 [some (.int (nI k)), some (.int (nI w)), some (.int (nI k')), some (.int (nI j))] [] σ := by
    intro f
    induction f with
    | zero =>
      intro k' j h1 h2 h3 h4
      obtain rfl : k' = 0 := by omega
      by_cases hw0 : 0 = w
      · refine g_il_3 hR dX4_isKindUnder_4 ?_
        refine g_bipush_7 hR dX4_isKindUnder_5 ?_
        refine g_icmp_ge (tgt := 36) hR dX4_isKindUnder_7 (by decide) (fun hc => absurd hc (nI_ge (b := 7) (by omega) (by decide))) (fun _ => ?_)
        refine g_il_2 hR dX4_isKindUnder_10 ?_
        refine g_csI hR ciX4_isKind dX4_isKindUnder_11 ml_X4_73 (Nat.le_of_ble_eq_true rfl) (ev_isKind (nI 0) σ) rfl (Nat.le_of_ble_eq_true rfl) rfl ?_
        refine g_if_eq (tgt := 36) hR dX4_isKindUnder_14 (by decide) (fun hc => absurd hc (bI_pos ⟨by decide, by decide⟩)) (fun _ => ?_)
        refine g_il_2 hR dX4_isKindUnder_17 ?_
        refine g_il_1 hR dX4_isKindUnder_18 ?_
        refine g_icmp_ne (tgt := 24) hR dX4_isKindUnder_19 (by decide) (fun hc => absurd (congrArg nI hw0) hc) (fun _ => ?_)
        refine g_iconst_1 hR dX4_isKindUnder_22 ?_
        exact hE dX4_isKindUnder_23 (bI_t (by rw [← h4]; exact decide_eq_true hw0)) (rfl)
      · refine g_il_3 hR dX4_isKindUnder_4 ?_
        refine g_bipush_7 hR dX4_isKindUnder_5 ?_
        refine g_icmp_ge (tgt := 36) hR dX4_isKindUnder_7 (by decide) (fun hc => absurd hc (nI_ge (b := 7) (by omega) (by decide))) (fun _ => ?_)
        refine g_il_2 hR dX4_isKindUnder_10 ?_
        refine g_csI hR ciX4_isKind dX4_isKindUnder_11 ml_X4_73 (Nat.le_of_ble_eq_true rfl) (ev_isKind (nI 0) σ) rfl (Nat.le_of_ble_eq_true rfl) rfl ?_
        refine g_if_eq (tgt := 36) hR dX4_isKindUnder_14 (by decide) (fun hc => absurd hc (bI_pos ⟨by decide, by decide⟩)) (fun _ => ?_)
        refine g_il_2 hR dX4_isKindUnder_17 ?_
        refine g_il_1 hR dX4_isKindUnder_18 ?_
        refine g_icmp_ne (tgt := 24) hR dX4_isKindUnder_19 (by decide) (fun _ => ?_) (fun hc => absurd hc ((fun e => hw0 ((nI_eq (by decide) (by omega)).mp e))))
        refine g_gets (t := 40) hR z_KA fl_X4_253 dX4_isKindUnder_24 ?_
        refine g_il_2 hR dX4_isKindUnder_27 ?_
        refine g_roald hR 0 rfl (by decide) (by decide) rfl dX4_isKindUnder_28 ?_
        refine g_is_2 hR dX4_isKindUnder_29 trivial ?_
        refine g_inc_3 hR dX4_isKindUnder_30 trivial ?_
        refine g_goto (tgt := 4) hR dX4_isKindUnder_33 (by decide) ?_
        by_cases hj : j + 1 < 7
        · refine g_il_3 hR dX4_isKindUnder_4 ?_
          refine g_bipush_7 hR dX4_isKindUnder_5 ?_
          refine g_icmp_ge (tgt := 36) hR dX4_isKindUnder_7 (by decide) (fun hc => absurd hc (nI_ge (b := 7) hj (by decide))) (fun _ => ?_)
          refine g_il_2 hR dX4_isKindUnder_10 ?_
          refine g_csI hR ciX4_isKind dX4_isKindUnder_11 ml_X4_73 (Nat.le_of_ble_eq_true rfl) (ev_isKind (-1) σ) rfl (Nat.le_of_ble_eq_true rfl) rfl ?_
          refine g_if_eq (tgt := 36) hR dX4_isKindUnder_14 (by decide) (fun _ => ?_) (fun hc => absurd (bI_0.mpr (by decide)) hc)
          refine g_iconst_0 hR dX4_isKindUnder_36 ?_
          exact hE dX4_isKindUnder_37 (bI_f (by rw [← h4]; simp [und, hw0])) (rfl)
        · refine g_il_3 hR dX4_isKindUnder_4 ?_
          refine g_bipush_7 hR dX4_isKindUnder_5 ?_
          refine g_icmp_ge (tgt := 36) hR dX4_isKindUnder_7 (by decide) (fun _ => ?_) (fun hc => absurd (nI_le (a := 7) (by omega) (by omega)) hc)
          refine g_iconst_0 hR dX4_isKindUnder_36 ?_
          exact hE dX4_isKindUnder_37 (bI_f (by rw [← h4]; simp [und, hw0])) (rfl)
    | succ f ih =>
      intro k' j h1 h2 h3 h4
      rw [und] at h4
      by_cases e : k' = w
      · rw [if_pos e] at h4
        refine g_il_3 hR dX4_isKindUnder_4 ?_
        refine g_bipush_7 hR dX4_isKindUnder_5 ?_
        refine g_icmp_ge (tgt := 36) hR dX4_isKindUnder_7 (by decide) (fun hc => absurd hc (nI_ge (b := 7) (by omega) (by decide))) (fun _ => ?_)
        refine g_il_2 hR dX4_isKindUnder_10 ?_
        refine g_csI hR ciX4_isKind dX4_isKindUnder_11 ml_X4_73 (Nat.le_of_ble_eq_true rfl) (ev_isKind (nI k') σ) rfl (Nat.le_of_ble_eq_true rfl) rfl ?_
        refine g_if_eq (tgt := 36) hR dX4_isKindUnder_14 (by decide) (fun hc => absurd hc (bI_pos ⟨nI_pos' (by omega), nI_le (b := 6) (by omega) (by decide)⟩)) (fun _ => ?_)
        refine g_il_2 hR dX4_isKindUnder_17 ?_
        refine g_il_1 hR dX4_isKindUnder_18 ?_
        refine g_icmp_ne (tgt := 24) hR dX4_isKindUnder_19 (by decide) (fun hc => absurd (congrArg nI e) hc) (fun _ => ?_)
        refine g_iconst_1 hR dX4_isKindUnder_22 ?_
        exact hE dX4_isKindUnder_23 (bI_t h4.symm) (rfl)
      · rw [if_neg e] at h4
        by_cases e0 : k' = 0
        · subst e0
          rw [if_pos rfl] at h4
          refine g_il_3 hR dX4_isKindUnder_4 ?_
          refine g_bipush_7 hR dX4_isKindUnder_5 ?_
          refine g_icmp_ge (tgt := 36) hR dX4_isKindUnder_7 (by decide) (fun hc => absurd hc (nI_ge (b := 7) (by omega) (by decide))) (fun _ => ?_)
          refine g_il_2 hR dX4_isKindUnder_10 ?_
          refine g_csI hR ciX4_isKind dX4_isKindUnder_11 ml_X4_73 (Nat.le_of_ble_eq_true rfl) (ev_isKind (nI 0) σ) rfl (Nat.le_of_ble_eq_true rfl) rfl ?_
          refine g_if_eq (tgt := 36) hR dX4_isKindUnder_14 (by decide) (fun hc => absurd hc (bI_pos ⟨by decide, by decide⟩)) (fun _ => ?_)
          refine g_il_2 hR dX4_isKindUnder_17 ?_
          refine g_il_1 hR dX4_isKindUnder_18 ?_
          refine g_icmp_ne (tgt := 24) hR dX4_isKindUnder_19 (by decide) (fun _ => ?_) (fun hc => absurd hc ((fun q => e ((nI_eq (by decide) (by omega)).mp q))))
          refine g_gets (t := 40) hR z_KA fl_X4_253 dX4_isKindUnder_24 ?_
          refine g_il_2 hR dX4_isKindUnder_27 ?_
          refine g_roald hR 0 rfl (by decide) (by decide) rfl dX4_isKindUnder_28 ?_
          refine g_is_2 hR dX4_isKindUnder_29 trivial ?_
          refine g_inc_3 hR dX4_isKindUnder_30 trivial ?_
          refine g_goto (tgt := 4) hR dX4_isKindUnder_33 (by decide) ?_
          by_cases hj : j + 1 < 7
          · refine g_il_3 hR dX4_isKindUnder_4 ?_
            refine g_bipush_7 hR dX4_isKindUnder_5 ?_
            refine g_icmp_ge (tgt := 36) hR dX4_isKindUnder_7 (by decide) (fun hc => absurd hc (nI_ge (b := 7) hj (by decide))) (fun _ => ?_)
            refine g_il_2 hR dX4_isKindUnder_10 ?_
            refine g_csI hR ciX4_isKind dX4_isKindUnder_11 ml_X4_73 (Nat.le_of_ble_eq_true rfl) (ev_isKind (-1) σ) rfl (Nat.le_of_ble_eq_true rfl) rfl ?_
            refine g_if_eq (tgt := 36) hR dX4_isKindUnder_14 (by decide) (fun _ => ?_) (fun hc => absurd (bI_0.mpr (by decide)) hc)
            refine g_iconst_0 hR dX4_isKindUnder_36 ?_
            exact hE dX4_isKindUnder_37 (bI_f (by rw [← h4]; decide)) (rfl)
          · refine g_il_3 hR dX4_isKindUnder_4 ?_
            refine g_bipush_7 hR dX4_isKindUnder_5 ?_
            refine g_icmp_ge (tgt := 36) hR dX4_isKindUnder_7 (by decide) (fun _ => ?_) (fun hc => absurd (nI_le (a := 7) (by omega) (by omega)) hc)
            refine g_iconst_0 hR dX4_isKindUnder_36 ?_
            exact hE dX4_isKindUnder_37 (bI_f (by rw [← h4]; decide)) (rfl)
        · rw [if_neg e0] at h4
          have hp := par_lt k' (by omega) (by omega)
          refine g_il_3 hR dX4_isKindUnder_4 ?_
          refine g_bipush_7 hR dX4_isKindUnder_5 ?_
          refine g_icmp_ge (tgt := 36) hR dX4_isKindUnder_7 (by decide) (fun hc => absurd hc (nI_ge (b := 7) (by omega) (by decide))) (fun _ => ?_)
          refine g_il_2 hR dX4_isKindUnder_10 ?_
          refine g_csI hR ciX4_isKind dX4_isKindUnder_11 ml_X4_73 (Nat.le_of_ble_eq_true rfl) (ev_isKind (nI k') σ) rfl (Nat.le_of_ble_eq_true rfl) rfl ?_
          refine g_if_eq (tgt := 36) hR dX4_isKindUnder_14 (by decide) (fun hc => absurd hc (bI_pos ⟨nI_pos' (by omega), nI_le (b := 6) (by omega) (by decide)⟩)) (fun _ => ?_)
          refine g_il_2 hR dX4_isKindUnder_17 ?_
          refine g_il_1 hR dX4_isKindUnder_18 ?_
          refine g_icmp_ne (tgt := 24) hR dX4_isKindUnder_19 (by decide) (fun _ => ?_) (fun hc => absurd hc ((fun q => e ((nI_eq (by omega) (by omega)).mp q))))
          refine g_gets (t := 40) hR z_KA fl_X4_253 dX4_isKindUnder_24 ?_
          refine g_il_2 hR dX4_isKindUnder_27 ?_
          refine g_roald hR k' rfl (by decide) (by omega) rfl dX4_isKindUnder_28 ?_
          refine g_top (ka_par k' (by omega) (by omega)) ?_
          refine g_is_2 hR dX4_isKindUnder_29 trivial ?_
          refine g_inc_3 hR dX4_isKindUnder_30 trivial ?_
          refine g_goto (tgt := 4) hR dX4_isKindUnder_33 (by decide) ?_
          exact ih (par k') (j + 1) (by omega) (by omega) (by omega) h4
  refine g_il_0 hR dX4_isKindUnder_0 ?_
  refine g_is_2 hR dX4_isKindUnder_1 trivial ?_
  refine g_iconst_0 hR dX4_isKindUnder_2 ?_
  refine g_is_3 hR dX4_isKindUnder_3 trivial ?_
  exact lp 6 k 0 (by omega) (by omega) (by omega) rfl
set_option maxRecDepth 100000 in
set_option maxHeartbeats 4000000 in
theorem cx_as {n : Nat} {d : Int} (a b : Int32) (σ : Hp) (hG : Gd (σ 0) n d) (hSp : Sp (σ 0)) : CtI yX4_as wX4_as 3 [.ref 0, .int a, .int b] σ (if (0 ≤ a ∧ a ≤ 9) ∧ 0 ≤ b ∧ b ≤ 6 then (if σ 0 (54 + a.toNatClampNeg) = -1 then -1000006 else if und 6 (pf (σ 0) (σ 0 (54 + a.toNatClampNeg)).toNatClampNeg 0).toNatClampNeg b.toNatClampNeg = true then σ 0 (54 + a.toNatClampNeg) else -1000003) else -1000001) (if (0 ≤ a ∧ a ≤ 9) ∧ 0 ≤ b ∧ b ≤ 6 then (if σ 0 (54 + a.toNatClampNeg) = -1 then fnd σ 13 5 else if und 6 (pf (σ 0) (σ 0 (54 + a.toNatClampNeg)).toNatClampNeg 0).toNatClampNeg b.toNatClampNeg = true then σ else fnd σ 13 2) else fnd σ 13 0) := by
  refine CtI.of (by decide) (Nat.le_of_ble_eq_true rfl) rfl rfl (fun G hR hE => ?_)
  have bad : ¬ ((0 ≤ a ∧ a ≤ 9) ∧ 0 ≤ b ∧ b ≤ 6) → G 14 [some (.ref 0), some (.int a), some (.int b), none] [] σ := by
    intro h
    refine g_al_0 hR dX4_as_14 ?_
    refine g_ldc hR dX4_as_15 kc_X4_57 ?_
    refine g_cvI hR ciX4_finding dX4_as_17 ml_X4_58 (Nat.le_of_ble_eq_true rfl) (by decide) rfl rfl rfl (cx_f0 σ) rfl (Nat.le_of_ble_eq_true rfl) rfl ?_
    exact hE dX4_as_20 ((if_neg h).symm) ((if_neg h).symm)
  refine g_il_1 hR dX4_as_0 ?_
  refine g_csI hR ciX4_isSpot dX4_as_1 ml_X4_191 (Nat.le_of_ble_eq_true rfl) (ev_isSpot a σ) rfl (Nat.le_of_ble_eq_true rfl) rfl ?_
  refine g_if_eq (tgt := 14) hR dX4_as_4 (by decide) (fun h => ?_) (fun h => ?_)
  · exact bad (fun q => bI_0.mp h q.1)
  · refine g_il_2 hR dX4_as_7 ?_
    refine g_csI hR ciX4_isKind dX4_as_8 ml_X4_73 (Nat.le_of_ble_eq_true rfl) (ev_isKind b σ) rfl (Nat.le_of_ble_eq_true rfl) rfl ?_
    refine g_if_ne (tgt := 21) hR dX4_as_11 (by decide) (fun h2 => ?_) (fun h2 => ?_)
    · have hc := And.intro (bI_no h) (bI_no h2)
      rw [if_pos hc, if_pos hc] at hE
      obtain ⟨i, hi, rfl⟩ := nle 9 hc.1 (by decide)
      obtain ⟨w, hw, rfl⟩ := nle 6 hc.2 (by decide)
      rw [show (nI i).toNatClampNeg = i from nI_clamp (by omega), show (nI w).toNatClampNeg = w from nI_clamp (by omega)] at hE
      have hs := hSp i (by omega)
      refine g_al_0 hR dX4_as_21 ?_
      refine gf_X4_current hR fl_X4_12 dX4_as_22 ?_
      refine g_il_1 hR dX4_as_25 ?_
      refine g_cvI hR ciX3_spot dX4_as_26 ml_X4_198 (Nat.le_of_ble_eq_true rfl) (by omega) (lay_w z0) rfl rfl (ev_spot (k := 0) (i := i) z0 (by omega) σ) rfl (Nat.le_of_ble_eq_true rfl) rfl ?_
      refine g_is_3 hR dX4_as_29 trivial ?_
      refine g_il_3 hR dX4_as_30 ?_
      refine g_iconst_m1 hR dX4_as_31 ?_
      refine g_icmp_ne (tgt := 42) hR dX4_as_32 (by decide) (fun h3 => ?_) (fun h3 => ?_)
      · rw [if_neg h3, if_neg h3] at hE
        have em1 : (-1 : Int32).toInt = -1 := rfl
        have hne : ¬ (σ 0 (54 + i)).toInt = -1 := fun e => h3 (i_eq.mpr (by rw [e, em1]))
        obtain ⟨p, hp, ep⟩ := rg_n (x := σ 0 (54 + i)) (m := 7) ⟨by omega, hs.2⟩ (by decide)
        obtain ⟨k, hk, ek⟩ := rg_n (hG.2.2.1 p 0 (by omega) (by decide)) (by decide)
        have hk : (k : Int) ≤ 6 := hk
        rw [ep, show (nI p).toNatClampNeg = p from nI_clamp (by omega), ek, show (nI k).toNatClampNeg = k from nI_clamp (by omega)] at hE
        rw [ep]
        refine g_al_0 hR dX4_as_42 ?_
        refine gf_X4_current hR fl_X4_12 dX4_as_43 ?_
        refine g_il_3 hR dX4_as_46 ?_
        refine g_iconst_0 hR dX4_as_47 ?_
        refine g_cvI hR ciX3_fact dX4_as_48 ml_X4_95 (Nat.le_of_ble_eq_true rfl) (by omega) (lay_w z0) rfl rfl ((ev_fact (k := 0) (p := p) (w := 0) z0 (by omega) (by decide) σ).weak ek) rfl (Nat.le_of_ble_eq_true rfl) rfl ?_
        refine g_il_2 hR dX4_as_51 ?_
        refine g_csI hR ciX4_isKindUnder dX4_as_52 ml_X4_202 (Nat.le_of_ble_eq_true rfl) (ev_under (k := k) (w := w) (by omega) (by omega) σ) rfl (Nat.le_of_ble_eq_true rfl) rfl ?_
        refine g_if_ne (tgt := 65) hR dX4_as_55 (by decide) (fun h4 => ?_) (fun h4 => ?_)
        · refine g_il_3 hR dX4_as_65 ?_
          exact hE dX4_as_66 ((if_pos (bI_no h4)).symm) ((if_pos (bI_no h4)).symm)
        · refine g_al_0 hR dX4_as_58 ?_
          refine g_ldc hR dX4_as_59 kc_X4_205 ?_
          refine g_cvI hR ciX4_finding dX4_as_61 ml_X4_58 (Nat.le_of_ble_eq_true rfl) (by decide) rfl rfl rfl (cx_f2 σ) rfl (Nat.le_of_ble_eq_true rfl) rfl ?_
          exact hE dX4_as_64 ((if_neg (bI_0.mp h4)).symm) ((if_neg (bI_0.mp h4)).symm)
      · rw [if_pos h3, if_pos h3] at hE
        refine g_al_0 hR dX4_as_35 ?_
        refine g_ldc hR dX4_as_36 kc_X4_201 ?_
        refine g_cvI hR ciX4_finding dX4_as_38 ml_X4_58 (Nat.le_of_ble_eq_true rfl) (by decide) rfl rfl rfl (cx_f5 σ) rfl (Nat.le_of_ble_eq_true rfl) rfl ?_
        exact hE dX4_as_41 (rfl) (rfl)
    · exact bad (fun q => bI_0.mp h2 q.2)
set_option maxRecDepth 100000 in
set_option maxHeartbeats 4000000 in
theorem ev_tadd {t : Nat} (ht : t < 120) (v : Int32) (σ : Hp) (hT : σ 3 1 = nI t) : CtV yX1_add wX1_add 0 [.ref 10, .int v] σ (bset (bset σ 9 (upd (σ 9) t v)) 3 (upd (σ 3) 1 (nI (t + 1)))) := by
  refine CtV.of (by decide) (Nat.le_of_ble_eq_true rfl) rfl (fun G hR hE => ?_)
  refine g_al_0 hR dX1_add_0 ?_
  refine gf_X1_size hR fl_X1_9 dX1_add_1 ?_
  refine g_top hT ?_
  refine g_if_lt (tgt := 36) hR dX1_add_4 (by decide) (fun hc => absurd hc (nI_pos (by omega))) (fun _ => ?_)
  refine g_al_0 hR dX1_add_7 ?_
  refine gf_X1_size hR fl_X1_9 dX1_add_8 ?_
  refine g_top hT ?_
  refine g_bipush_120 hR dX1_add_11 ?_
  refine g_icmp_ge (tgt := 36) hR dX1_add_13 (by decide) (fun hc => absurd hc (nI_ge (b := 120) ht (by decide))) (fun _ => ?_)
  refine g_al_0 hR dX1_add_16 ?_
  refine gf_X1_bytes hR fl_X1_15 dX1_add_17 ?_
  refine g_al_0 hR dX1_add_20 ?_
  refine gf_X1_size hR fl_X1_9 dX1_add_21 ?_
  refine g_il_1 hR dX1_add_24 ?_
  refine gs_11 hR t ht hT dX1_add_25 ?_
  refine g_al_0 hR dX1_add_26 ?_
  refine g_dup hR dX1_add_27 rfl ?_
  refine gf_X1_size hR fl_X1_9 dX1_add_28 ?_
  refine g_iconst_1 hR dX1_add_31 ?_
  refine g_iadd hR dX1_add_32 ?_
  refine pf_X1_size hR fl_X1_9 dX1_add_33 ?_
  exact hE dX1_add_36 (by simp only [hset_e]; rw [bset_n (show 3 ≠ 9 by decide), hT, nI_1])
set_option maxRecDepth 100000 in
set_option maxHeartbeats 4000000 in
theorem cx_feed {t : Nat} (ht : t ≤ 120) (a b : Int32) (σ : Hp) (hT : σ 3 1 = nI t) : CtI yX4_feed wX4_feed 1 [.ref 0, .int a, .int b] σ (if 1 ≤ b ∧ b ≤ 4 then (if 120 < t + b.toNatClampNeg then -1000002 else nI (t + b.toNatClampNeg)) else -1000001) (if 1 ≤ b ∧ b ≤ 4 then (if 120 < t + b.toNatClampNeg then fnd σ 13 1 else bset (bset σ 9 (fedN (σ 9) t a b.toNatClampNeg b.toNatClampNeg)) 3 (upd (σ 3) 1 (nI (t + b.toNatClampNeg)))) else fnd σ 13 0) := by
  refine CtI.of (by decide) (Nat.le_of_ble_eq_true rfl) rfl rfl (fun G hR hE => ?_)
  refine g_il_2 hR dX4_feed_0 ?_
  refine g_iconst_1 hR dX4_feed_1 ?_
  refine g_iconst_4 hR dX4_feed_2 ?_
  refine g_csI hR ciX4_isWithin dX4_feed_3 ml_X4_66 (Nat.le_of_ble_eq_true rfl) (ev_isWithin b 1 4 σ) rfl (Nat.le_of_ble_eq_true rfl) rfl ?_
  refine g_if_ne (tgt := 16) hR dX4_feed_6 (by decide) (fun h => ?_) (fun h => ?_)
  · have hc := bI_no h
    rw [if_pos hc, if_pos hc] at hE
    obtain ⟨n, hn, rfl⟩ := nle 4 ⟨Int32.le_trans (by decide) hc.1, hc.2⟩ (by decide)
    have hn1 : 1 ≤ n := by have := hc.1; rw [i_le, i_n (by omega)] at this; have e1 : (1 : Int32).toInt = 1 := rfl; omega
    rw [show (nI n).toNatClampNeg = n from nI_clamp (by omega)] at hE
    have e120 : 120 - nI n = nI (120 - n) := pk_sub (a := 120) (by omega)
    refine g_al_0 hR dX4_feed_16 ?_
    refine gf_X4_tape hR fl_X4_29 dX4_feed_17 ?_
    refine gf_X1_size hR fl_X4_179 dX4_feed_20 ?_
    refine g_top hT ?_
    refine g_bipush_120 hR dX4_feed_23 ?_
    refine g_il_2 hR dX4_feed_25 ?_
    refine g_isub hR dX4_feed_26 ?_
    refine g_top e120 ?_
    by_cases hf : 120 < t + n
    · rw [if_pos hf, if_pos hf] at hE
      refine g_icmp_le (tgt := 37) hR dX4_feed_27 (by decide) (fun hc => absurd hc (nI_ge (by omega) (by omega))) (fun _ => ?_)
      refine g_al_0 hR dX4_feed_30 ?_
      refine g_ldc hR dX4_feed_31 kc_X4_80 ?_
      refine g_cvI hR ciX4_finding dX4_feed_33 ml_X4_58 (Nat.le_of_ble_eq_true rfl) (by decide) rfl rfl rfl (cx_f1 σ) rfl (Nat.le_of_ble_eq_true rfl) rfl ?_
      exact hE dX4_feed_36 (rfl) (rfl)
    · rw [if_neg hf, if_neg hf] at hE
      have lp : ∀ d' j, j + d' = n → G 41 [some (.ref 0), some (.int a), some (.int (nI n)), some (.int (nI d' - 1))] [] (bset (bset σ 9 (fedN (σ 9) t a n j)) 3 (upd (σ 3) 1 (nI (t + j)))) := by
        intro d'
        induction d' with
        | zero =>
          intro j hj
          obtain rfl : j = n := by omega
          refine g_il_3 hR dX4_feed_41 ?_
          refine g_if_lt (tgt := 68) hR dX4_feed_42 (by decide) (fun _ => ?_) (fun hc => absurd ((by decide)) hc)
          refine g_al_0 hR dX4_feed_68 ?_
          refine gf_X4_tape hR fl_X4_29 dX4_feed_69 ?_
          refine gf_X1_size hR fl_X4_179 dX4_feed_72 ?_
          exact hE dX4_feed_75 (by rw [bset_s, upd_s]) (rfl)
        | succ d' ih =>
          intro j hj
          rw [nI_pred]
          refine g_il_3 hR dX4_feed_41 ?_
          refine g_if_lt (tgt := 68) hR dX4_feed_42 (by decide) (fun hc => absurd hc (nI_pos (by omega))) (fun _ => ?_)
          refine g_al_0 hR dX4_feed_45 ?_
          refine gf_X4_tape hR fl_X4_29 dX4_feed_46 ?_
          refine g_il_1 hR dX4_feed_49 ?_
          refine g_bipush_8 hR dX4_feed_50 ?_
          refine g_il_3 hR dX4_feed_52 ?_
          refine g_imul hR dX4_feed_53 ?_
          refine g_iushr hR dX4_feed_54 ?_
          refine g_sipush_255 hR dX4_feed_55 ?_
          refine g_iand hR dX4_feed_58 ?_
          refine g_top (byt_u a d' (by omega)) ?_
          refine g_cvV hR ciX1_add dX4_feed_59 ml_X4_182 (Nat.le_of_ble_eq_true rfl) (by decide) rfl rfl rfl (ev_tadd (t := t + j) (by omega) (bytV a d') _ (by rw [bset_s, upd_s])) rfl (Nat.le_of_ble_eq_true rfl) rfl ?_
          refine g_eq (τ := bset (bset σ 9 (fedN (σ 9) t a n (j + 1))) 3 (upd (σ 3) 1 (nI (t + (j + 1))))) (by rw [bset_s, bset_n (show 9 ≠ 3 by decide), bset_s, bset_comm (show 3 ≠ 9 by decide), bset_bset, bset_bset, upd_upd, fedN, show n - 1 - j = d' by omega]; rfl) ?_
          refine g_ii_3 hR dX4_feed_62 (sub1 _) trivial ?_
          refine g_goto (tgt := 41) hR dX4_feed_65 (by decide) ?_
          exact ih (j + 1) (by omega)
      refine g_icmp_le (tgt := 37) hR dX4_feed_27 (by decide) (fun _ => ?_) (fun hc => absurd (nI_le (by omega) (by omega)) hc)
      refine g_il_2 hR dX4_feed_37 ?_
      refine g_iconst_1 hR dX4_feed_38 ?_
      refine g_isub hR dX4_feed_39 ?_
      refine g_is_3 hR dX4_feed_40 trivial ?_
      refine g_eq (τ := bset (bset σ 9 (fedN (σ 9) t a n 0)) 3 (upd (σ 3) 1 (nI (t + 0)))) (by show σ = bset (bset σ 9 (σ 9)) 3 (upd (σ 3) 1 (nI t)); rw [← hT, upd_id, bset_id, bset_id]) ?_
      exact lp n 0 (by omega)
  · refine g_al_0 hR dX4_feed_9 ?_
    refine g_ldc hR dX4_feed_10 kc_X4_57 ?_
    refine g_cvI hR ciX4_finding dX4_feed_12 ml_X4_58 (Nat.le_of_ble_eq_true rfl) (by decide) rfl rfl rfl (cx_f0 σ) rfl (Nat.le_of_ble_eq_true rfl) rfl ?_
    exact hE dX4_feed_15 ((if_neg (bI_0.mp h)).symm) ((if_neg (bI_0.mp h)).symm)
