set_option maxRecDepth 100000 in
set_option maxHeartbeats 4000000 in
theorem ev_bitCount {s : Nat} (hs : s < 4096) (σ : Hp) : CtI yJ6_bitCount_0f7a4 wJ6_bitCount_0f7a4 0 [.int (nI s)] σ (nI (pcn s)) (σ) := by
  refine CtI.of (by decide) (Nat.le_of_ble_eq_true rfl) rfl rfl (fun G hR hE => ?_)
  refine g_il_0 hR dJ6_bitCount_0f7a4_0 ?_
  refine g_il_0 hR dJ6_bitCount_0f7a4_1 ?_
  refine g_iconst_1 hR dJ6_bitCount_0f7a4_2 ?_
  refine g_iushr hR dJ6_bitCount_0f7a4_3 ?_
  refine g_ldcw hR dJ6_bitCount_0f7a4_4 kc_J6_265 ?_
  refine g_iand hR dJ6_bitCount_0f7a4_7 ?_
  refine g_isub hR dJ6_bitCount_0f7a4_8 ?_
  refine g_top (w := bc1 (nI s)) rfl ?_
  refine g_is_0 hR dJ6_bitCount_0f7a4_9 ?_
  refine g_il_0 hR dJ6_bitCount_0f7a4_10 ?_
  refine g_ldcw hR dJ6_bitCount_0f7a4_11 kc_J6_266 ?_
  refine g_iand hR dJ6_bitCount_0f7a4_14 ?_
  refine g_il_0 hR dJ6_bitCount_0f7a4_15 ?_
  refine g_iconst_2 hR dJ6_bitCount_0f7a4_16 ?_
  refine g_iushr hR dJ6_bitCount_0f7a4_17 ?_
  refine g_ldcw hR dJ6_bitCount_0f7a4_18 kc_J6_266 ?_
  refine g_iand hR dJ6_bitCount_0f7a4_21 ?_
  refine g_iadd hR dJ6_bitCount_0f7a4_22 ?_
  refine g_top (w := bc2 (bc1 (nI s))) rfl ?_
  refine g_is_0 hR dJ6_bitCount_0f7a4_23 ?_
  refine g_il_0 hR dJ6_bitCount_0f7a4_24 ?_
  refine g_il_0 hR dJ6_bitCount_0f7a4_25 ?_
  refine g_iconst_4 hR dJ6_bitCount_0f7a4_26 ?_
  refine g_iushr hR dJ6_bitCount_0f7a4_27 ?_
  refine g_iadd hR dJ6_bitCount_0f7a4_28 ?_
  refine g_ldcw hR dJ6_bitCount_0f7a4_29 kc_J6_267 ?_
  refine g_iand hR dJ6_bitCount_0f7a4_32 ?_
  refine g_top (w := bc3 (bc2 (bc1 (nI s)))) rfl ?_
  refine g_is_0 hR dJ6_bitCount_0f7a4_33 ?_
  refine g_il_0 hR dJ6_bitCount_0f7a4_34 ?_
  refine g_il_0 hR dJ6_bitCount_0f7a4_35 ?_
  refine g_bipush_8 hR dJ6_bitCount_0f7a4_36 ?_
  refine g_iushr hR dJ6_bitCount_0f7a4_38 ?_
  refine g_iadd hR dJ6_bitCount_0f7a4_39 ?_
  refine g_top (w := bc4 (bc3 (bc2 (bc1 (nI s))))) rfl ?_
  refine g_is_0 hR dJ6_bitCount_0f7a4_40 ?_
  refine g_il_0 hR dJ6_bitCount_0f7a4_41 ?_
  refine g_il_0 hR dJ6_bitCount_0f7a4_42 ?_
  refine g_bipush_16 hR dJ6_bitCount_0f7a4_43 ?_
  refine g_iushr hR dJ6_bitCount_0f7a4_45 ?_
  refine g_iadd hR dJ6_bitCount_0f7a4_46 ?_
  refine g_top (w := bc5 (bc4 (bc3 (bc2 (bc1 (nI s)))))) rfl ?_
  refine g_is_0 hR dJ6_bitCount_0f7a4_47 ?_
  refine g_il_0 hR dJ6_bitCount_0f7a4_48 ?_
  refine g_bipush_63 hR dJ6_bitCount_0f7a4_49 ?_
  refine g_iand hR dJ6_bitCount_0f7a4_51 ?_
  exact hE dJ6_bitCount_0f7a4_52 (bc_ok s hs) (rfl)
set_option maxRecDepth 100000 in
set_option maxHeartbeats 4000000 in
theorem cx_longFor {n : Nat} {d : Int} (a b v : Int32) (σ : Hp) (hG : Gd (σ 0) n d) (hd : d ≤ 50000) (h64 : σ 0 64 = 0) : CtP yX4_longFor wX4_longFor 6 [.ref 0, .int a, .int b, .int v] σ (if (0 ≤ a ∧ a < σ 0 1) ∧ (0 ≤ b ∧ b ≤ 11) ∧ 0 ≤ v ∧ v ≤ 40 then lgV (fstN (fun q => decide (daysF (pset (σ 0) a.toNatClampNeg 2 (nI (q + 1))) n v.toNatClampNeg 2 = b)) 99) else -1000001) (fun σ' => Eb σ' (if (0 ≤ a ∧ a < σ 0 1) ∧ (0 ≤ b ∧ b ≤ 11) ∧ 0 ≤ v ∧ v ≤ 40 then rsT σ 13 (fstN (fun q => decide (daysF (pset (σ 0) a.toNatClampNeg 2 (nI (q + 1))) n v.toNatClampNeg 2 = b)) 99) else fnd σ 13 0)) := by
  refine CtP.of (by decide) (Nat.le_of_ble_eq_true rfl) rfl rfl (fun G hR hE => ?_)
  have hn8 := hG.1
  have bad : ¬ ((0 ≤ a ∧ a < σ 0 1) ∧ (0 ≤ b ∧ b ≤ 11) ∧ 0 ≤ v ∧ v ≤ 40) → G 28 [some (.ref 0), some (.int a), some (.int b), some (.int v), none] [] σ := by
    intro h
    rw [if_neg h, if_neg h] at hE
    refine g_al_0 hR dX4_longFor_28 ?_
    refine g_ldc hR dX4_longFor_29 kc_X4_57 ?_
    refine g_cvI hR ciX4_finding dX4_longFor_31 ml_X4_58 (Nat.le_of_ble_eq_true rfl) (by decide) rfl rfl rfl (cx_f0 σ) rfl (Nat.le_of_ble_eq_true rfl) rfl ?_
    exact hE dX4_longFor_34 (rfl) (Eb.rf _)
  refine g_al_0 hR dX4_longFor_0 ?_
  refine gf_X4_current hR fl_X4_12 dX4_longFor_1 ?_
  refine g_il_1 hR dX4_longFor_4 ?_
  refine g_cvI hR ciX3_hasPiece dX4_longFor_5 ml_X4_85 (Nat.le_of_ble_eq_true rfl) (by omega) (lay_w z0) rfl rfl (ev_hasPiece (k := 0) z0 a σ) rfl (Nat.le_of_ble_eq_true rfl) rfl ?_
  refine g_if_eq (tgt := 28) hR dX4_longFor_8 (by decide) (fun h1 => ?_) (fun h1 => ?_)
  · exact bad (fun q => bI_0.mp h1 q.1)
  · refine g_il_2 hR dX4_longFor_11 ?_
    refine g_csI hR ciX4_isPlace dX4_longFor_12 ml_X4_53 (Nat.le_of_ble_eq_true rfl) (ev_isPlace b σ) rfl (Nat.le_of_ble_eq_true rfl) rfl ?_
    refine g_if_eq (tgt := 28) hR dX4_longFor_15 (by decide) (fun h2 => ?_) (fun h2 => ?_)
    · exact bad (fun q => bI_0.mp h2 q.2.1)
    · refine g_il_3 hR dX4_longFor_18 ?_
      refine g_iconst_0 hR dX4_longFor_19 ?_
      refine g_bipush_40 hR dX4_longFor_20 ?_
      refine g_csI hR ciX4_isWithin dX4_longFor_22 ml_X4_66 (Nat.le_of_ble_eq_true rfl) (ev_isWithin v 0 40 σ) rfl (Nat.le_of_ble_eq_true rfl) rfl ?_
      refine g_if_ne (tgt := 35) hR dX4_longFor_25 (by decide) (fun h3 => ?_) (fun h3 => ?_)
      · have hc := And.intro (bI_no h1) (And.intro (bI_no h2) (bI_no h3))
        rw [if_pos hc, if_pos hc] at hE
        obtain ⟨p, hp, rfl⟩ := nlt (n := n) (by rw [← hG.2.1]; exact hc.1) (by omega)
        obtain ⟨c, hc2, rfl⟩ := nle 40 hc.2.2 (by decide)
        rw [show (nI p).toNatClampNeg = p from nI_clamp (by omega), show (nI c).toNatClampNeg = c from nI_clamp (by omega)] at hE
        have lp : ∀ d' j σ', j + d' = 99 → Eb σ' σ → fstN (fun q => decide (daysF (pset (σ 0) p 2 (nI (q + 1))) n c 2 = b)) j = none → G 38 [some (.ref 0), some (.int (nI p)), some (.int b), some (.int (nI c)), some (.int (nI (j + 1)))] [] σ' := by
          intro d'
          induction d' with
          | zero =>
            intro j σ' hj he hf
            have e99 : j = 99 := by omega
            rw [e99] at hf
            rw [hf] at hE
            refine g_il_4 hR dX4_longFor_38 ?_
            refine g_bipush_99 hR dX4_longFor_40 ?_
            refine g_icmp_gt (tgt := 81) hR dX4_longFor_42 (by decide) (fun _ => ?_) (fun hc => absurd (nI_lt (a := 99) (by omega) (by omega)) hc)
            refine g_al_0 hR dX4_longFor_81 ?_
            refine g_ldc hR dX4_longFor_82 kc_X4_149 ?_
            refine g_cvI hR ciX4_finding dX4_longFor_84 ml_X4_58 (Nat.le_of_ble_eq_true rfl) (by decide) rfl rfl rfl (cx_f3 σ') rfl (Nat.le_of_ble_eq_true rfl) rfl ?_
            exact hE dX4_longFor_87 (rfl) (Eb.fn he 3 (by decide) (by decide) (by decide) (by decide))
          | succ d' ih =>
            intro j σ' hj he hf
            have e0 : σ' 0 = σ 0 := he 0 (by decide) (by decide) (by decide) (by decide)
            have hg : Gd (pset (cpB (σ 0) (σ' 1)) p 2 (nI (j + 1))) n d := Gd_pset (cpB_G hG) (by omega) (by decide) (n_rg (show ((j + 1 : Nat) : Int) ≤ 99 by omega) (by decide))
            have hq : Bq (pset (cpB (σ 0) (σ' 1)) p 2 (nI (j + 1))) (pset (σ 0) p 2 (nI (j + 1))) := (cpB_q _ _ h64).pset _ _ _
            refine g_il_4 hR dX4_longFor_38 ?_
            refine g_bipush_99 hR dX4_longFor_40 ?_
            refine g_icmp_gt (tgt := 81) hR dX4_longFor_42 (by decide) (fun hc => absurd hc (nI_nlt (a := 99) (by omega) (by decide))) (fun _ => ?_)
            refine g_al_0 hR dX4_longFor_45 ?_
            refine g_il_1 hR dX4_longFor_46 ?_
            refine g_iconst_2 hR dX4_longFor_47 ?_
            refine g_il_4 hR dX4_longFor_48 ?_
            refine g_cvV hR ciX4_tryFact dX4_longFor_50 ml_X4_150 (Nat.le_of_ble_eq_true rfl) (by decide) rfl rfl rfl (cx_tryFact (p := p) (w := 2) (by omega) (by decide) (nI (j + 1)) σ') rfl (Nat.le_of_ble_eq_true rfl) rfl ?_
            rw [e0]
            refine g_al_0 hR dX4_longFor_53 ?_
            refine gf_X4_trial hR fl_X4_16 dX4_longFor_54 ?_
            refine g_il_3 hR dX4_longFor_57 ?_
            refine g_cvV hR ciX3_passDays dX4_longFor_58 ml_X4_116 (Nat.le_of_ble_eq_true rfl) (by omega) (lay_w z1) rfl rfl (ev_passDays (k := 1) (n := n) (c := c) (d := d) z1 _ (by rw [bset_s]; exact hg) (by omega) (by omega)) rfl (Nat.le_of_ble_eq_true rfl) rfl ?_
            refine g_al_0 hR dX4_longFor_61 ?_
            refine gf_X4_trial hR fl_X4_16 dX4_longFor_62 ?_
            refine gf_X3_at hR z1 fl_X4_62 dX4_longFor_65 ?_
            refine g_top (tr_v hq hn8 (by decide) (by decide)) ?_
            refine g_il_2 hR dX4_longFor_68 ?_
            refine g_icmp_ne (tgt := 75) hR dX4_longFor_69 (by decide) (fun h4 => ?_) (fun h4 => ?_)
            · refine g_inc_4 hR dX4_longFor_75 trivial ?_
              refine g_goto (tgt := 38) hR dX4_longFor_78 (by decide) ?_
              exact ih (j + 1) _ (by omega) ((Eb.days n c).tr ((Eb.trial σ' _).tr he)) (fstN_none hf (decide_eq_false h4))
            · have hfst := fstN_first hf (decide_eq_true h4) d'
              rw [show j + 1 + d' = 99 by omega] at hfst
              rw [hfst] at hE
              refine g_il_4 hR dX4_longFor_72 ?_
              exact hE dX4_longFor_74 (rfl) ((Eb.days n c).tr ((Eb.trial σ' _).tr he))
        refine g_iconst_1 hR dX4_longFor_35 ?_
        refine g_is_4 hR dX4_longFor_36 trivial ?_
        exact lp 99 0 σ rfl (Eb.rf σ) rfl
      · exact bad (fun q => bI_0.mp h3 q.2.2)
set_option maxRecDepth 100000 in
set_option maxHeartbeats 4000000 in
theorem cx_kindFor {n : Nat} {d : Int} (a v : Int32) (σ : Hp) (hG : Gd (σ 0) n d) (hd : d ≤ 50000) (h64 : σ 0 64 = 0) : CtP yX4_kindFor wX4_kindFor 6 [.ref 0, .int a, .int v] σ (if (0 ≤ a ∧ a < σ 0 1) ∧ 0 ≤ v ∧ v ≤ 40 then (amax (fun q => pf (daysF (pset (σ 0) a.toNatClampNeg 0 (nI q)) n v.toNatClampNeg) a.toNatClampNeg 5) 7).1 else -1000001) (fun σ' => Eb σ' (if (0 ≤ a ∧ a < σ 0 1) ∧ 0 ≤ v ∧ v ≤ 40 then σ else fnd σ 13 0)) := by
  refine CtP.of (by decide) (Nat.le_of_ble_eq_true rfl) rfl rfl (fun G hR hE => ?_)
  have hn8 := hG.1
  have bad : ¬ ((0 ≤ a ∧ a < σ 0 1) ∧ 0 ≤ v ∧ v ≤ 40) → G 21 [some (.ref 0), some (.int a), some (.int v), none, none, none, none] [] σ := by
    intro h
    rw [if_neg h, if_neg h] at hE
    refine g_al_0 hR dX4_kindFor_21 ?_
    refine g_ldc hR dX4_kindFor_22 kc_X4_57 ?_
    refine g_cvI hR ciX4_finding dX4_kindFor_24 ml_X4_58 (Nat.le_of_ble_eq_true rfl) (by decide) rfl rfl rfl (cx_f0 σ) rfl (Nat.le_of_ble_eq_true rfl) rfl ?_
    exact hE dX4_kindFor_27 (rfl) (Eb.rf _)
  refine g_al_0 hR dX4_kindFor_0 ?_
  refine gf_X4_current hR fl_X4_12 dX4_kindFor_1 ?_
  refine g_il_1 hR dX4_kindFor_4 ?_
  refine g_cvI hR ciX3_hasPiece dX4_kindFor_5 ml_X4_85 (Nat.le_of_ble_eq_true rfl) (by omega) (lay_w z0) rfl rfl (ev_hasPiece (k := 0) z0 a σ) rfl (Nat.le_of_ble_eq_true rfl) rfl ?_
  refine g_if_eq (tgt := 21) hR dX4_kindFor_8 (by decide) (fun h1 => ?_) (fun h1 => ?_)
  · exact bad (fun q => bI_0.mp h1 q.1)
  · refine g_il_2 hR dX4_kindFor_11 ?_
    refine g_iconst_0 hR dX4_kindFor_12 ?_
    refine g_bipush_40 hR dX4_kindFor_13 ?_
    refine g_csI hR ciX4_isWithin dX4_kindFor_15 ml_X4_66 (Nat.le_of_ble_eq_true rfl) (ev_isWithin v 0 40 σ) rfl (Nat.le_of_ble_eq_true rfl) rfl ?_
    refine g_if_ne (tgt := 28) hR dX4_kindFor_18 (by decide) (fun h3 => ?_) (fun h3 => ?_)
    · have hc := And.intro (bI_no h1) (bI_no h3)
      rw [if_pos hc, if_pos hc] at hE
      obtain ⟨p, hp, rfl⟩ := nlt (n := n) (by rw [← hG.2.1]; exact hc.1) (by omega)
      obtain ⟨c, hc2, rfl⟩ := nle 40 hc.2 (by decide)
      rw [show (nI p).toNatClampNeg = p from nI_clamp (by omega), show (nI c).toNatClampNeg = c from nI_clamp (by omega)] at hE
      have lp : ∀ d' j σ' x6, j + d' = 7 → Eb σ' σ → G 36 [some (.ref 0), some (.int (nI p)), some (.int (nI c)), some (.int (amax (fun q => pf (daysF (pset (σ 0) p 0 (nI q)) n c) p 5) j).1), some (.int (amax (fun q => pf (daysF (pset (σ 0) p 0 (nI q)) n c) p 5) j).2), some (.int (nI j)), x6] [] σ' := by
        intro d'
        induction d' with
        | zero =>
          intro j σ' x7 hj he
          obtain rfl : j = 7 := by omega
          refine g_il_5 hR dX4_kindFor_36 ?_
          refine g_bipush_7 hR dX4_kindFor_38 ?_
          refine g_icmp_ge (tgt := 90) hR dX4_kindFor_40 (by decide) (fun _ => ?_) (fun hc => absurd (Int32.le_refl _) hc)
          refine g_il_3 hR dX4_kindFor_90 ?_
          exact hE dX4_kindFor_91 (rfl) (he)
        | succ d' ih =>
          intro j σ' x7 hj he
          have e0 : σ' 0 = σ 0 := he 0 (by decide) (by decide) (by decide) (by decide)
          have hg : Gd (pset (cpB (σ 0) (σ' 1)) p 0 (nI j)) n d := Gd_pset (cpB_G hG) (by omega) (by decide) (n_rg (show (j : Int) ≤ 6 by omega) (by decide))
          have hq : Bq (pset (cpB (σ 0) (σ' 1)) p 0 (nI j)) (pset (σ 0) p 0 (nI j)) := (cpB_q _ _ h64).pset _ _ _
          have e1 := fun x => ih (j + 1) (daysT (bset σ' 1 (pset (cpB (σ 0) (σ' 1)) p 0 (nI j))) 1 n c) x (by omega) ((Eb.days n c).tr ((Eb.trial σ' _).tr he))
          rw [amax] at e1
          refine g_il_5 hR dX4_kindFor_36 ?_
          refine g_bipush_7 hR dX4_kindFor_38 ?_
          refine g_icmp_ge (tgt := 90) hR dX4_kindFor_40 (by decide) (fun hc => absurd hc (nI_ge (b := 7) (by omega) (by decide))) (fun _ => ?_)
          refine g_al_0 hR dX4_kindFor_43 ?_
          refine g_il_1 hR dX4_kindFor_44 ?_
          refine g_iconst_0 hR dX4_kindFor_45 ?_
          refine g_il_5 hR dX4_kindFor_46 ?_
          refine g_cvV hR ciX4_tryFact dX4_kindFor_48 ml_X4_150 (Nat.le_of_ble_eq_true rfl) (by decide) rfl rfl rfl (cx_tryFact (p := p) (w := 0) (by omega) (by decide) (nI j) σ') rfl (Nat.le_of_ble_eq_true rfl) rfl ?_
          rw [e0]
          refine g_al_0 hR dX4_kindFor_51 ?_
          refine gf_X4_trial hR fl_X4_16 dX4_kindFor_52 ?_
          refine g_il_2 hR dX4_kindFor_55 ?_
          refine g_cvV hR ciX3_passDays dX4_kindFor_56 ml_X4_116 (Nat.le_of_ble_eq_true rfl) (by omega) (lay_w z1) rfl rfl (ev_passDays (k := 1) (n := n) (c := c) (d := d) z1 _ (by rw [bset_s]; exact hg) (by omega) (by omega)) rfl (Nat.le_of_ble_eq_true rfl) rfl ?_
          refine g_al_0 hR dX4_kindFor_59 ?_
          refine gf_X4_trial hR fl_X4_16 dX4_kindFor_60 ?_
          refine g_il_1 hR dX4_kindFor_63 ?_
          refine g_iconst_5 hR dX4_kindFor_64 ?_
          refine g_cvI hR ciX3_fact dX4_kindFor_65 ml_X4_95 (Nat.le_of_ble_eq_true rfl) (by omega) (lay_w z1) rfl rfl ((ev_fact (k := 1) (p := p) (w := 5) z1 (by omega) (by decide) _).weak (tr_pf hq hn8 (by omega) (by decide))) rfl (Nat.le_of_ble_eq_true rfl) rfl ?_
          refine g_is_6 hR dX4_kindFor_68 trivial ?_
          refine g_il_6 hR dX4_kindFor_70 ?_
          refine g_il_4 hR dX4_kindFor_72 ?_
          refine g_icmp_le (tgt := 84) hR dX4_kindFor_74 (by decide) (fun h4 => ?_) (fun h4 => ?_)
          · rw [if_neg (Int32.not_lt.mpr h4)] at e1
            refine g_inc_5 hR dX4_kindFor_84 trivial ?_
            refine g_goto (tgt := 36) hR dX4_kindFor_87 (by decide) ?_
            exact e1 _
          · rw [if_pos (Int32.not_le.mp h4)] at e1
            refine g_il_5 hR dX4_kindFor_77 ?_
            refine g_is_3 hR dX4_kindFor_79 trivial ?_
            refine g_il_6 hR dX4_kindFor_80 ?_
            refine g_is_4 hR dX4_kindFor_82 trivial ?_
            refine g_inc_5 hR dX4_kindFor_84 trivial ?_
            refine g_goto (tgt := 36) hR dX4_kindFor_87 (by decide) ?_
            exact e1 _
      refine g_iconst_0 hR dX4_kindFor_28 ?_
      refine g_is_3 hR dX4_kindFor_29 trivial ?_
      refine g_iconst_m1 hR dX4_kindFor_30 ?_
      refine g_is_4 hR dX4_kindFor_31 trivial ?_
      refine g_iconst_0 hR dX4_kindFor_33 ?_
      refine g_is_5 hR dX4_kindFor_34 trivial ?_
      exact lp 7 0 σ none rfl (Eb.rf σ)
    · exact bad (fun q => bI_0.mp h3 q.2)
set_option maxRecDepth 100000 in
set_option maxHeartbeats 4000000 in
theorem cx_dragFor {n : Nat} {d : Int} (b v : Int32) (σ : Hp) (hG : Gd (σ 0) n d) (hd : d ≤ 50000) (h64 : σ 0 64 = 0) : CtP yX4_dragFor wX4_dragFor 6 [.ref 0, .int b, .int v] σ (if (0 ≤ b ∧ b ≤ 11) ∧ 0 ≤ v ∧ v ≤ 40 then dgV (fstN (fun q => decide (daysF (upd (σ 0) 3 (nI (99 - q))) n v.toNatClampNeg 2 = b)) 100) else -1000001) (fun σ' => Eb σ' (if (0 ≤ b ∧ b ≤ 11) ∧ 0 ≤ v ∧ v ≤ 40 then rsT σ 13 (fstN (fun q => decide (daysF (upd (σ 0) 3 (nI (99 - q))) n v.toNatClampNeg 2 = b)) 100) else fnd σ 13 0)) := by
  refine CtP.of (by decide) (Nat.le_of_ble_eq_true rfl) rfl rfl (fun G hR hE => ?_)
  have hn8 := hG.1
  have bad : ¬ ((0 ≤ b ∧ b ≤ 11) ∧ 0 ≤ v ∧ v ≤ 40) → G 17 [some (.ref 0), some (.int b), some (.int v), none] [] σ := by
    intro h
    rw [if_neg h, if_neg h] at hE
    refine g_al_0 hR dX4_dragFor_17 ?_
    refine g_ldc hR dX4_dragFor_18 kc_X4_57 ?_
    refine g_cvI hR ciX4_finding dX4_dragFor_20 ml_X4_58 (Nat.le_of_ble_eq_true rfl) (by decide) rfl rfl rfl (cx_f0 σ) rfl (Nat.le_of_ble_eq_true rfl) rfl ?_
    exact hE dX4_dragFor_23 (rfl) (Eb.rf _)
  refine g_il_1 hR dX4_dragFor_0 ?_
  refine g_csI hR ciX4_isPlace dX4_dragFor_1 ml_X4_53 (Nat.le_of_ble_eq_true rfl) (ev_isPlace b σ) rfl (Nat.le_of_ble_eq_true rfl) rfl ?_
  refine g_if_eq (tgt := 17) hR dX4_dragFor_4 (by decide) (fun h2 => ?_) (fun h2 => ?_)
  · exact bad (fun q => bI_0.mp h2 q.1)
  · refine g_il_2 hR dX4_dragFor_7 ?_
    refine g_iconst_0 hR dX4_dragFor_8 ?_
    refine g_bipush_40 hR dX4_dragFor_9 ?_
    refine g_csI hR ciX4_isWithin dX4_dragFor_11 ml_X4_66 (Nat.le_of_ble_eq_true rfl) (ev_isWithin v 0 40 σ) rfl (Nat.le_of_ble_eq_true rfl) rfl ?_
    refine g_if_ne (tgt := 24) hR dX4_dragFor_14 (by decide) (fun h3 => ?_) (fun h3 => ?_)
    · have hc := And.intro (bI_no h2) (bI_no h3)
      rw [if_pos hc, if_pos hc] at hE
      obtain ⟨c, hc2, rfl⟩ := nle 40 hc.2 (by decide)
      rw [show (nI c).toNatClampNeg = c from nI_clamp (by omega)] at hE
      have lp : ∀ d' j σ', j + d' = 100 → Eb σ' σ → fstN (fun q => decide (daysF (upd (σ 0) 3 (nI (99 - q))) n c 2 = b)) j = none → G 27 [some (.ref 0), some (.int b), some (.int (nI c)), some (.int (nI d' - 1))] [] σ' := by
        intro d'
        induction d' with
        | zero =>
          intro j σ' hj he hf
          have e99 : j = 100 := by omega
          rw [e99] at hf
          rw [hf] at hE
          refine g_il_3 hR dX4_dragFor_27 ?_
          refine g_if_lt (tgt := 77) hR dX4_dragFor_28 (by decide) (fun _ => ?_) (fun hc => absurd ((by decide)) hc)
          refine g_al_0 hR dX4_dragFor_77 ?_
          refine g_ldc hR dX4_dragFor_78 kc_X4_149 ?_
          refine g_cvI hR ciX4_finding dX4_dragFor_80 ml_X4_58 (Nat.le_of_ble_eq_true rfl) (by decide) rfl rfl rfl (cx_f3 σ') rfl (Nat.le_of_ble_eq_true rfl) rfl ?_
          exact hE dX4_dragFor_83 (rfl) (Eb.fn he 3 (by decide) (by decide) (by decide) (by decide))
        | succ d' ih =>
          intro j σ' hj he hf
          have e0 : σ' 0 = σ 0 := he 0 (by decide) (by decide) (by decide) (by decide)
          have hg : Gd (upd (cpB (σ 0) (σ' 1)) 3 (nI d')) n d := Gd_drag (cpB_G hG) (n_rg (show (d' : Int) ≤ 99 by omega) (by decide))
          have hq : Bq (upd (cpB (σ 0) (σ' 1)) 3 (nI d')) (upd (σ 0) 3 (nI d')) := (cpB_q _ _ h64).uq _ _
          have e99 : 99 - j = d' := by omega
          rw [nI_pred]
          refine g_il_3 hR dX4_dragFor_27 ?_
          refine g_if_lt (tgt := 77) hR dX4_dragFor_28 (by decide) (fun hc => absurd hc (nI_pos (by omega))) (fun _ => ?_)
          refine g_al_0 hR dX4_dragFor_31 ?_
          refine gf_X4_trial hR fl_X4_16 dX4_dragFor_32 ?_
          refine g_al_0 hR dX4_dragFor_35 ?_
          refine gf_X4_current hR fl_X4_12 dX4_dragFor_36 ?_
          refine g_cvV hR ciX3_becomeBall dX4_dragFor_39 ml_X4_142 (Nat.le_of_ble_eq_true rfl) (by omega) (lay_w z1) rfl rfl (ev_becomeBall (k := 1) (j := 0) z1 z0 (by decide) σ') rfl (Nat.le_of_ble_eq_true rfl) rfl ?_
          refine g_al_0 hR dX4_dragFor_42 ?_
          refine gf_X4_trial hR fl_X4_16 dX4_dragFor_43 ?_
          refine g_il_3 hR dX4_dragFor_46 ?_
          refine pf_X3_drag hR z1 fl_X4_70 dX4_dragFor_47 ?_
          rw [e0, hset_e, bset_s, bset_bset]
          refine g_al_0 hR dX4_dragFor_50 ?_
          refine gf_X4_trial hR fl_X4_16 dX4_dragFor_51 ?_
          refine g_il_2 hR dX4_dragFor_54 ?_
          refine g_cvV hR ciX3_passDays dX4_dragFor_55 ml_X4_116 (Nat.le_of_ble_eq_true rfl) (by omega) (lay_w z1) rfl rfl (ev_passDays (k := 1) (n := n) (c := c) (d := d) z1 _ (by rw [bset_s]; exact hg) (by omega) (by omega)) rfl (Nat.le_of_ble_eq_true rfl) rfl ?_
          refine g_al_0 hR dX4_dragFor_58 ?_
          refine gf_X4_trial hR fl_X4_16 dX4_dragFor_59 ?_
          refine gf_X3_at hR z1 fl_X4_62 dX4_dragFor_62 ?_
          refine g_top (tr_v hq hn8 (by decide) (by decide)) ?_
          refine g_il_1 hR dX4_dragFor_65 ?_
          refine g_icmp_ne (tgt := 71) hR dX4_dragFor_66 (by decide) (fun h4 => ?_) (fun h4 => ?_)
          · refine g_ii_3 hR dX4_dragFor_71 (sub1 _) trivial ?_
            refine g_goto (tgt := 27) hR dX4_dragFor_74 (by decide) ?_
            exact ih (j + 1) _ (by omega) ((Eb.days n c).tr ((Eb.trial σ' _).tr he)) (fstN_none hf (decide_eq_false (by rw [e99]; exact h4)))
          · have hfst := fstN_first hf (decide_eq_true (by rw [e99]; exact h4)) d'
            rw [show j + 1 + d' = 100 by omega] at hfst
            rw [hfst] at hE
            refine g_il_3 hR dX4_dragFor_69 ?_
            exact hE dX4_dragFor_70 (by show _ = nI (99 - j); rw [e99]) ((Eb.days n c).tr ((Eb.trial σ' _).tr he))
      refine g_bipush_99 hR dX4_dragFor_24 ?_
      refine g_is_3 hR dX4_dragFor_26 trivial ?_
      exact lp 100 0 σ rfl (Eb.rf σ) rfl
    · exact bad (fun q => bI_0.mp h3 q.2)
set_option maxRecDepth 100000 in
set_option maxHeartbeats 4000000 in
theorem cx_loosen {n : Nat} {d : Int} (b v : Int32) (σ : Hp) (hG : Gd (σ 0) n d) (hd : d ≤ 50000) (h64 : σ 0 64 = 0) : CtP yX4_loosen wX4_loosen 6 [.ref 0, .int b, .int v] σ (if (0 ≤ b ∧ b ≤ 11) ∧ 0 ≤ v ∧ v ≤ 20 then rsV (lsnM (fun q => decide (daysF (upd (σ 0) 64 (nI q)) n v.toNatClampNeg 2 = b)) (2 ^ n)) else -1000001) (fun σ' => Eb σ' (if (0 ≤ b ∧ b ≤ 11) ∧ 0 ≤ v ∧ v ≤ 20 then rsT σ 13 (lsnM (fun q => decide (daysF (upd (σ 0) 64 (nI q)) n v.toNatClampNeg 2 = b)) (2 ^ n)) else fnd σ 13 0)) := by
  refine CtP.of (by decide) (Nat.le_of_ble_eq_true rfl) rfl rfl (fun G hR hE => ?_)
  have hn8 := hG.1
  have hpw := pw_le hn8
  have bad : ¬ ((0 ≤ b ∧ b ≤ 11) ∧ 0 ≤ v ∧ v ≤ 20) → G 17 [some (.ref 0), some (.int b), some (.int v), none, none, none] [] σ := by
    intro h
    rw [if_neg h, if_neg h] at hE
    refine g_al_0 hR dX4_loosen_17 ?_
    refine g_ldc hR dX4_loosen_18 kc_X4_57 ?_
    refine g_cvI hR ciX4_finding dX4_loosen_20 ml_X4_58 (Nat.le_of_ble_eq_true rfl) (by decide) rfl rfl rfl (cx_f0 σ) rfl (Nat.le_of_ble_eq_true rfl) rfl ?_
    exact hE dX4_loosen_23 (rfl) (Eb.rf _)
  refine g_il_1 hR dX4_loosen_0 ?_
  refine g_csI hR ciX4_isPlace dX4_loosen_1 ml_X4_53 (Nat.le_of_ble_eq_true rfl) (ev_isPlace b σ) rfl (Nat.le_of_ble_eq_true rfl) rfl ?_
  refine g_if_eq (tgt := 17) hR dX4_loosen_4 (by decide) (fun h2 => ?_) (fun h2 => ?_)
  · exact bad (fun q => bI_0.mp h2 q.1)
  · refine g_il_2 hR dX4_loosen_7 ?_
    refine g_iconst_0 hR dX4_loosen_8 ?_
    refine g_bipush_20 hR dX4_loosen_9 ?_
    refine g_csI hR ciX4_isWithin dX4_loosen_11 ml_X4_66 (Nat.le_of_ble_eq_true rfl) (ev_isWithin v 0 20 σ) rfl (Nat.le_of_ble_eq_true rfl) rfl ?_
    refine g_if_ne (tgt := 24) hR dX4_loosen_14 (by decide) (fun h3 => ?_) (fun h3 => ?_)
    · have hc := And.intro (bI_no h2) (bI_no h3)
      rw [if_pos hc, if_pos hc] at hE
      obtain ⟨c, hc2, rfl⟩ := nle 20 hc.2 (by decide)
      rw [show (nI c).toNatClampNeg = c from nI_clamp (by omega)] at hE
      generalize hC : (fun q : Nat => decide (daysF (upd (σ 0) 64 (nI q)) n c 2 = b)) = C at hE
      have hCq : ∀ q, C q = decide (daysF (upd (σ 0) 64 (nI q)) n c 2 = b) := fun q => by rw [← hC]
      have outer : ∀ e m σ' x5, m + e = n + 1 → Eb σ' σ → (∀ s, s < 2 ^ n → C s = true → m ≤ pcn s) → G 37 [some (.ref 0), some (.int b), some (.int (nI c)), some (.int (nI (2 ^ n))), some (.int (nI m)), x5] [] σ' := by
        intro e
        induction e with
        | zero =>
          intro m σ' x5 hm he hmin
          have e0 : σ' 0 = σ 0 := he 0 (by decide) (by decide) (by decide) (by decide)
          rw [lsn_none (fun s hs => by
            cases hcs : C s with
            | false => rfl
            | true => have h5 := hmin s hs hcs; have h6 := pcn_le n hn8 s hs; omega)] at hE
          refine g_il_4 hR dX4_loosen_37 ?_
          refine g_al_0 hR dX4_loosen_39 ?_
          refine gf_X4_current hR fl_X4_12 dX4_loosen_40 ?_
          refine gf_X3_pieceCount hR z0 fl_X4_102 dX4_loosen_43 ?_
          refine g_top (show σ' 0 1 = nI n by rw [e0]; exact hG.2.1) ?_
          refine g_icmp_gt (tgt := 122) hR dX4_loosen_46 (by decide) (fun _ => ?_) (fun hc => absurd (nI_lt (by omega) (by omega)) hc)
          refine g_al_0 hR dX4_loosen_122 ?_
          refine g_ldc hR dX4_loosen_123 kc_X4_149 ?_
          refine g_cvI hR ciX4_finding dX4_loosen_125 ml_X4_58 (Nat.le_of_ble_eq_true rfl) (by decide) rfl rfl rfl (cx_f3 σ') rfl (Nat.le_of_ble_eq_true rfl) rfl ?_
          exact hE dX4_loosen_128 (rfl) (Eb.fn he 3 (by decide) (by decide) (by decide) (by decide))
        | succ e ihe =>
          intro m σ' x5 hm he hmin
          have e0 : σ' 0 = σ 0 := he 0 (by decide) (by decide) (by decide) (by decide)
          have inner : ∀ d' j σ', j + d' = 2 ^ n → Eb σ' σ → (∀ s, s < j → pcn s = m → C s = false) → G 52 [some (.ref 0), some (.int b), some (.int (nI c)), some (.int (nI (2 ^ n))), some (.int (nI m)), some (.int (nI j))] [] σ' := by
            intro d'
            induction d' with
            | zero =>
              intro j σ' hj he hno
              refine g_il_5 hR dX4_loosen_52 ?_
              refine g_il_3 hR dX4_loosen_54 ?_
              refine g_icmp_ge (tgt := 116) hR dX4_loosen_55 (by decide) (fun _ => ?_) (fun hc => absurd (nI_le (by omega) (by omega)) hc)
              refine g_inc_4 hR dX4_loosen_116 trivial ?_
              refine g_goto (tgt := 37) hR dX4_loosen_119 (by decide) ?_
              exact ihe (m + 1) σ' _ (by omega) he (fun s hs hcs => by
                have h5 := hmin s hs hcs
                rcases Nat.lt_or_ge m (pcn s) with q | q
                · exact q
                · rw [hno s (by omega) (by omega)] at hcs; cases hcs)
            | succ d' ih =>
              intro j σ' hj he hno
              have e0 : σ' 0 = σ 0 := he 0 (by decide) (by decide) (by decide) (by decide)
              refine g_il_5 hR dX4_loosen_52 ?_
              refine g_il_3 hR dX4_loosen_54 ?_
              refine g_icmp_ge (tgt := 116) hR dX4_loosen_55 (by decide) (fun hc => absurd hc (nI_ge (by omega) (by omega))) (fun _ => ?_)
              refine g_il_5 hR dX4_loosen_58 ?_
              refine g_csI hR ciJ6_bitCount_0f7a4 dX4_loosen_60 ml_X4_158 (Nat.le_of_ble_eq_true rfl) (ev_bitCount (s := j) (by omega) σ') rfl (Nat.le_of_ble_eq_true rfl) rfl ?_
              refine g_il_4 hR dX4_loosen_63 ?_
              refine g_icmp_ne (tgt := 110) hR dX4_loosen_65 (by decide) (fun h4 => ?_) (fun h4 => ?_)
              · have hne : pcn j ≠ m := fun q => h4 (by rw [q])
                refine g_inc_5 hR dX4_loosen_110 trivial ?_
                refine g_goto (tgt := 52) hR dX4_loosen_113 (by decide) ?_
                exact ih (j + 1) σ' (by omega) he (fun s hs hp => by
                  by_cases q : s = j
                  · rw [q] at hp; exact absurd hp hne
                  · exact hno s (by omega) hp)
              · have h12 : pcn j ≤ 12 := by unfold pcn; omega
                have heq : pcn j = m := (nI_eq (by omega) (by omega)).mp h4
                have hg : Gd (upd (cpB (σ 0) (σ' 1)) 64 (nI j)) n d := Gd_loose (cpB_G hG)
                have hq : Bq (upd (cpB (σ 0) (σ' 1)) 64 (nI j)) (upd (σ 0) 64 (nI j)) := (cpB_q _ _ h64).uq _ _
                refine g_al_0 hR dX4_loosen_68 ?_
                refine gf_X4_trial hR fl_X4_16 dX4_loosen_69 ?_
                refine g_al_0 hR dX4_loosen_72 ?_
                refine gf_X4_current hR fl_X4_12 dX4_loosen_73 ?_
                refine g_cvV hR ciX3_becomeBall dX4_loosen_76 ml_X4_142 (Nat.le_of_ble_eq_true rfl) (by omega) (lay_w z1) rfl rfl (ev_becomeBall (k := 1) (j := 0) z1 z0 (by decide) σ') rfl (Nat.le_of_ble_eq_true rfl) rfl ?_
                refine g_al_0 hR dX4_loosen_79 ?_
                refine gf_X4_trial hR fl_X4_16 dX4_loosen_80 ?_
                refine g_il_5 hR dX4_loosen_83 ?_
                refine pf_X3_loose hR z1 fl_X4_163 dX4_loosen_85 ?_
                rw [e0, hset_e, bset_s, bset_bset]
                refine g_al_0 hR dX4_loosen_88 ?_
                refine gf_X4_trial hR fl_X4_16 dX4_loosen_89 ?_
                refine g_il_2 hR dX4_loosen_92 ?_
                refine g_cvV hR ciX3_passDays dX4_loosen_93 ml_X4_116 (Nat.le_of_ble_eq_true rfl) (by omega) (lay_w z1) rfl rfl (ev_passDays (k := 1) (n := n) (c := c) (d := d) z1 _ (by rw [bset_s]; exact hg) (by omega) (by omega)) rfl (Nat.le_of_ble_eq_true rfl) rfl ?_
                refine g_al_0 hR dX4_loosen_96 ?_
                refine gf_X4_trial hR fl_X4_16 dX4_loosen_97 ?_
                refine gf_X3_at hR z1 fl_X4_62 dX4_loosen_100 ?_
                refine g_top (tr_v hq hn8 (by decide) (by decide)) ?_
                refine g_il_1 hR dX4_loosen_103 ?_
                refine g_icmp_ne (tgt := 110) hR dX4_loosen_104 (by decide) (fun h5 => ?_) (fun h5 => ?_)
                · refine g_inc_5 hR dX4_loosen_110 trivial ?_
                  refine g_goto (tgt := 52) hR dX4_loosen_113 (by decide) ?_
                  exact ih (j + 1) _ (by omega) ((Eb.days n c).tr ((Eb.trial σ' _).tr he)) (fun s hs hp => by
                    by_cases q : s = j
                    · rw [q, hCq]; exact decide_eq_false h5
                    · exact hno s (by omega) hp)
                · rw [lsn_is (s := j) (by omega) (by rw [hCq]; exact decide_eq_true h5) (fun t ht hct => by rw [heq]; exact hmin t ht hct) (fun t ht hp => hno t ht (by omega))] at hE
                  refine g_il_5 hR dX4_loosen_107 ?_
                  exact hE dX4_loosen_109 (rfl) ((Eb.days n c).tr ((Eb.trial σ' _).tr he))
          refine g_il_4 hR dX4_loosen_37 ?_
          refine g_al_0 hR dX4_loosen_39 ?_
          refine gf_X4_current hR fl_X4_12 dX4_loosen_40 ?_
          refine gf_X3_pieceCount hR z0 fl_X4_102 dX4_loosen_43 ?_
          refine g_top (show σ' 0 1 = nI n by rw [e0]; exact hG.2.1) ?_
          refine g_icmp_gt (tgt := 122) hR dX4_loosen_46 (by decide) (fun hc => absurd hc (nI_nlt (by omega) (by omega))) (fun _ => ?_)
          refine g_iconst_0 hR dX4_loosen_49 ?_
          refine g_is_5 hR dX4_loosen_50 trivial ?_
          exact inner (2 ^ n) 0 σ' (by omega) he (fun s hs => by omega)
      refine g_iconst_1 hR dX4_loosen_24 ?_
      refine g_al_0 hR dX4_loosen_25 ?_
      refine gf_X4_current hR fl_X4_12 dX4_loosen_26 ?_
      refine gf_X3_pieceCount hR z0 fl_X4_102 dX4_loosen_29 ?_
      refine g_top hG.2.1 ?_
      refine g_ishl hR dX4_loosen_32 ?_
      refine g_top (shl_n n (by omega)) ?_
      refine g_is_3 hR dX4_loosen_33 trivial ?_
      refine g_iconst_0 hR dX4_loosen_34 ?_
      refine g_is_4 hR dX4_loosen_35 trivial ?_
      exact outer (n + 1) 0 σ none (by omega) (Eb.rf σ) (fun s _ _ => Nat.zero_le _)
    · exact bad (fun q => bI_0.mp h3 q.2)
