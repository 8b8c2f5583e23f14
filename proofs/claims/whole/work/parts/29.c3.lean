set_option maxRecDepth 100000 in
set_option maxHeartbeats 4000000 in
theorem cx_tryFact {p w : Nat} (hp : p < 8) (hw : w < 6) (v : Int32) (σ : Hp) : CtV yX4_tryFact wX4_tryFact 2 [.ref 0, .int (nI p), .int (nI w), .int v] σ (bset σ 1 (pset (cpB (σ 0) (σ 1)) p w v)) := by
  refine CtV.of (by decide) (Nat.le_of_ble_eq_true rfl) rfl (fun G hR hE => ?_)
  refine g_al_0 hR dX4_tryFact_0 ?_
  refine gf_X4_trial hR fl_X4_16 dX4_tryFact_1 ?_
  refine g_al_0 hR dX4_tryFact_4 ?_
  refine gf_X4_current hR fl_X4_12 dX4_tryFact_5 ?_
  refine g_cvV hR ciX3_becomeBall dX4_tryFact_8 ml_X4_142 (Nat.le_of_ble_eq_true rfl) (by omega) (lay_w z1) rfl rfl (ev_becomeBall (k := 1) (j := 0) z1 z0 (by decide) σ) rfl (Nat.le_of_ble_eq_true rfl) rfl ?_
  refine g_al_0 hR dX4_tryFact_11 ?_
  refine gf_X4_trial hR fl_X4_16 dX4_tryFact_12 ?_
  refine g_il_1 hR dX4_tryFact_15 ?_
  refine g_il_2 hR dX4_tryFact_16 ?_
  refine g_il_3 hR dX4_tryFact_17 ?_
  refine g_cvV hR ciX3_setFact dX4_tryFact_18 ml_X4_98 (Nat.le_of_ble_eq_true rfl) (by omega) (lay_w z1) rfl rfl (ev_setFact (k := 1) z1 hp hw v _) rfl (Nat.le_of_ble_eq_true rfl) rfl ?_
  exact hE dX4_tryFact_21 (by rw [bset_s, bset_bset])
set_option maxRecDepth 100000 in
set_option maxHeartbeats 4000000 in
theorem cx_where {n : Nat} {d : Int} (a : Int32) (σ : Hp) (hG : Gd (σ 0) n d) (hd : d ≤ 50000) (h64 : σ 0 64 = 0) : CtP yX4_where wX4_where 6 [.ref 0, .int a] σ (if 0 ≤ a ∧ a ≤ 100 then daysF (σ 0) n a.toNatClampNeg 2 else -1000001) (fun σ' => Eb σ' (if 0 ≤ a ∧ a ≤ 100 then σ else fnd σ 13 0)) := by
  refine CtP.of (by decide) (Nat.le_of_ble_eq_true rfl) rfl rfl (fun G hR hE => ?_)
  have hn8 := hG.1
  refine g_il_1 hR dX4_where_0 ?_
  refine g_iconst_0 hR dX4_where_1 ?_
  refine g_bipush_100 hR dX4_where_2 ?_
  refine g_csI hR ciX4_isWithin dX4_where_4 ml_X4_66 (Nat.le_of_ble_eq_true rfl) (ev_isWithin a 0 100 σ) rfl (Nat.le_of_ble_eq_true rfl) rfl ?_
  refine g_if_ne (tgt := 17) hR dX4_where_7 (by decide) (fun h => ?_) (fun h => ?_)
  · have hc := bI_no h
    rw [if_pos hc, if_pos hc] at hE
    obtain ⟨c, hc2, rfl⟩ := nle 100 hc (by decide)
    rw [show (nI c).toNatClampNeg = c from nI_clamp (by omega)] at hE
    refine g_al_0 hR dX4_where_17 ?_
    refine gf_X4_trial hR fl_X4_16 dX4_where_18 ?_
    refine g_al_0 hR dX4_where_21 ?_
    refine gf_X4_current hR fl_X4_12 dX4_where_22 ?_
    refine g_cvV hR ciX3_becomeBall dX4_where_25 ml_X4_142 (Nat.le_of_ble_eq_true rfl) (by omega) (lay_w z1) rfl rfl (ev_becomeBall (k := 1) (j := 0) z1 z0 (by decide) σ) rfl (Nat.le_of_ble_eq_true rfl) rfl ?_
    refine g_al_0 hR dX4_where_28 ?_
    refine gf_X4_trial hR fl_X4_16 dX4_where_29 ?_
    refine g_il_1 hR dX4_where_32 ?_
    refine g_cvV hR ciX3_passDays dX4_where_33 ml_X4_116 (Nat.le_of_ble_eq_true rfl) (by omega) (lay_w z1) rfl rfl (ev_passDays (k := 1) (n := n) (c := c) (d := d) z1 _ (by rw [bset_s]; exact cpB_G hG) (by omega) (by omega)) rfl (Nat.le_of_ble_eq_true rfl) rfl ?_
    refine g_al_0 hR dX4_where_36 ?_
    refine gf_X4_trial hR fl_X4_16 dX4_where_37 ?_
    refine gf_X3_at hR z1 fl_X4_62 dX4_where_40 ?_
    exact hE dX4_where_43 (tr_v (cpB_q _ _ h64) hn8 (by decide) (by decide)) ((Eb.days n c).tr (Eb.trial σ _))
  · rw [if_neg (bI_0.mp h), if_neg (bI_0.mp h)] at hE
    refine g_al_0 hR dX4_where_10 ?_
    refine g_ldc hR dX4_where_11 kc_X4_57 ?_
    refine g_cvI hR ciX4_finding dX4_where_13 ml_X4_58 (Nat.le_of_ble_eq_true rfl) (by decide) rfl rfl rfl (cx_f0 σ) rfl (Nat.le_of_ble_eq_true rfl) rfl ?_
    exact hE dX4_where_16 (rfl) (Eb.rf _)
set_option maxRecDepth 100000 in
set_option maxHeartbeats 4000000 in
theorem cx_ahead {n : Nat} {d : Int} (a b v : Int32) (σ : Hp) (hG : Gd (σ 0) n d) (hd : d ≤ 50000) (h64 : σ 0 64 = 0) : CtP yX4_ahead wX4_ahead 6 [.ref 0, .int a, .int b, .int v] σ (if (0 ≤ a ∧ a < σ 0 1) ∧ (2 ≤ b ∧ b ≤ 5 ∨ b = 9) ∧ 0 ≤ v ∧ v ≤ 100 then (if b = 9 then fltF (daysF (σ 0) n v.toNatClampNeg) n a.toNatClampNeg else pf (daysF (σ 0) n v.toNatClampNeg) a.toNatClampNeg b.toNatClampNeg) else -1000001) (fun σ' => Eb σ' (if (0 ≤ a ∧ a < σ 0 1) ∧ (2 ≤ b ∧ b ≤ 5 ∨ b = 9) ∧ 0 ≤ v ∧ v ≤ 100 then σ else fnd σ 13 0)) := by
  refine CtP.of (by decide) (Nat.le_of_ble_eq_true rfl) rfl rfl (fun G hR hE => ?_)
  have hn8 := hG.1
  have bad : ∀ x, ¬ ((0 ≤ a ∧ a < σ 0 1) ∧ (2 ≤ b ∧ b ≤ 5 ∨ b = 9) ∧ 0 ≤ v ∧ v ≤ 100) → G 48 [some (.ref 0), some (.int a), some (.int b), some (.int v), x] [] σ := by
    intro x h
    rw [if_neg h, if_neg h] at hE
    refine g_al_0 hR dX4_ahead_48 ?_
    refine g_ldc hR dX4_ahead_49 kc_X4_57 ?_
    refine g_cvI hR ciX4_finding dX4_ahead_51 ml_X4_58 (Nat.le_of_ble_eq_true rfl) (by decide) rfl rfl rfl (cx_f0 σ) rfl (Nat.le_of_ble_eq_true rfl) rfl ?_
    exact hE dX4_ahead_54 (rfl) (Eb.rf _)
  have rest : G 20 [some (.ref 0), some (.int a), some (.int b), some (.int v), none] [.int (bI (2 ≤ b ∧ b ≤ 5 ∨ b = 9))] σ := by
    refine g_is_4 hR dX4_ahead_20 trivial ?_
    refine g_al_0 hR dX4_ahead_22 ?_
    refine gf_X4_current hR fl_X4_12 dX4_ahead_23 ?_
    refine g_il_1 hR dX4_ahead_26 ?_
    refine g_cvI hR ciX3_hasPiece dX4_ahead_27 ml_X4_85 (Nat.le_of_ble_eq_true rfl) (by omega) (lay_w z0) rfl rfl (ev_hasPiece (k := 0) z0 a σ) rfl (Nat.le_of_ble_eq_true rfl) rfl ?_
    refine g_if_eq (tgt := 48) hR dX4_ahead_30 (by decide) (fun h1 => ?_) (fun h1 => ?_)
    · exact bad _ (fun q => bI_0.mp h1 q.1)
    · refine g_il_4 hR dX4_ahead_33 ?_
      refine g_if_eq (tgt := 48) hR dX4_ahead_35 (by decide) (fun h2 => ?_) (fun h2 => ?_)
      · exact bad _ (fun q => bI_0.mp h2 q.2.1)
      · refine g_il_3 hR dX4_ahead_38 ?_
        refine g_iconst_0 hR dX4_ahead_39 ?_
        refine g_bipush_100 hR dX4_ahead_40 ?_
        refine g_csI hR ciX4_isWithin dX4_ahead_42 ml_X4_66 (Nat.le_of_ble_eq_true rfl) (ev_isWithin v 0 100 σ) rfl (Nat.le_of_ble_eq_true rfl) rfl ?_
        refine g_if_ne (tgt := 55) hR dX4_ahead_45 (by decide) (fun h3 => ?_) (fun h3 => ?_)
        · have hc := And.intro (bI_no h1) (And.intro (bI_no h2) (bI_no h3))
          rw [if_pos hc, if_pos hc] at hE
          obtain ⟨p, hp, rfl⟩ := nlt (n := n) (by rw [← hG.2.1]; exact hc.1) (by omega)
          obtain ⟨c, hc2, rfl⟩ := nle 100 hc.2.2 (by decide)
          rw [show (nI p).toNatClampNeg = p from nI_clamp (by omega), show (nI c).toNatClampNeg = c from nI_clamp (by omega)] at hE
          have hT : Gd (daysT (bset σ 1 (cpB (σ 0) (σ 1))) 1 n c 1) n (d + c) := by rw [daysT_k, bset_s]; exact Gd_daysF (cpB_G hG) c (by omega)
          refine g_al_0 hR dX4_ahead_55 ?_
          refine gf_X4_trial hR fl_X4_16 dX4_ahead_56 ?_
          refine g_al_0 hR dX4_ahead_59 ?_
          refine gf_X4_current hR fl_X4_12 dX4_ahead_60 ?_
          refine g_cvV hR ciX3_becomeBall dX4_ahead_63 ml_X4_142 (Nat.le_of_ble_eq_true rfl) (by omega) (lay_w z1) rfl rfl (ev_becomeBall (k := 1) (j := 0) z1 z0 (by decide) σ) rfl (Nat.le_of_ble_eq_true rfl) rfl ?_
          refine g_al_0 hR dX4_ahead_66 ?_
          refine gf_X4_trial hR fl_X4_16 dX4_ahead_67 ?_
          refine g_il_3 hR dX4_ahead_70 ?_
          refine g_cvV hR ciX3_passDays dX4_ahead_71 ml_X4_116 (Nat.le_of_ble_eq_true rfl) (by omega) (lay_w z1) rfl rfl (ev_passDays (k := 1) (n := n) (c := c) (d := d) z1 _ (by rw [bset_s]; exact cpB_G hG) (by omega) (by omega)) rfl (Nat.le_of_ble_eq_true rfl) rfl ?_
          refine g_al_0 hR dX4_ahead_74 ?_
          refine gf_X4_trial hR fl_X4_16 dX4_ahead_75 ?_
          refine g_il_1 hR dX4_ahead_78 ?_
          refine g_il_2 hR dX4_ahead_79 ?_
          rcases hc.2.1 with hb | hb
          · obtain ⟨w, hw, rfl⟩ := nle 5 ⟨Int32.le_trans (by decide) hb.1, hb.2⟩ (by decide)
            rw [if_neg (show ¬ nI w = 9 from fun e => by have := (nI_eq (b := 9) (by omega) (by decide)).mp e; omega), show (nI w).toNatClampNeg = w from nI_clamp (by omega)] at hE
            refine g_cvI hR ciX3_tell dX4_ahead_80 ml_X4_88 (Nat.le_of_ble_eq_true rfl) (by omega) (lay_w z1) rfl rfl (ev_tell0 (k := 1) (p := p) (w := w) z1 (by omega) (by omega) _) rfl (Nat.le_of_ble_eq_true rfl) rfl ?_
            exact hE dX4_ahead_83 (tr_pf (cpB_q _ _ h64) hn8 (by omega) (by omega)) ((Eb.days n c).tr (Eb.trial σ _))
          · subst hb
            rw [if_pos rfl] at hE
            refine g_cvI hR ciX3_tell dX4_ahead_80 ml_X4_88 (Nat.le_of_ble_eq_true rfl) (by omega) (lay_w z1) rfl rfl (ev_tell9 (k := 1) (p := p) (n := n) (d := d + c) z1 hp _ hT (by omega)) rfl (Nat.le_of_ble_eq_true rfl) rfl ?_
            exact hE dX4_ahead_83 (tr_flt (cpB_q _ _ h64) hn8 (by omega)) ((Eb.days n c).tr (Eb.trial σ _))
        · exact bad _ (fun q => bI_0.mp h3 q.2.2)
  refine g_il_2 hR dX4_ahead_0 ?_
  refine g_iconst_2 hR dX4_ahead_1 ?_
  refine g_iconst_5 hR dX4_ahead_2 ?_
  refine g_csI hR ciX4_isWithin dX4_ahead_3 ml_X4_66 (Nat.le_of_ble_eq_true rfl) (ev_isWithin b 2 5 σ) rfl (Nat.le_of_ble_eq_true rfl) rfl ?_
  refine g_if_ne (tgt := 15) hR dX4_ahead_6 (by decide) (fun h => ?_) (fun h => ?_)
  · refine g_iconst_1 hR dX4_ahead_15 ?_
    refine g_goto (tgt := 20) hR dX4_ahead_16 (by decide) ?_
    exact g_top (bI_t (Or.inl (bI_no h))) rest
  · refine g_il_2 hR dX4_ahead_9 ?_
    refine g_bipush_9 hR dX4_ahead_10 ?_
    refine g_icmp_ne (tgt := 19) hR dX4_ahead_12 (by decide) (fun h2 => ?_) (fun h2 => ?_)
    · refine g_iconst_0 hR dX4_ahead_19 ?_
      exact g_top (bI_f (fun q => q.elim (bI_0.mp h) h2)) rest
    · refine g_iconst_1 hR dX4_ahead_15 ?_
      refine g_goto (tgt := 20) hR dX4_ahead_16 (by decide) ?_
      exact g_top (bI_t (Or.inr h2)) rest
set_option maxRecDepth 100000 in
set_option maxHeartbeats 4000000 in
theorem cx_when {n : Nat} {d : Int} (a : Int32) (σ : Hp) (hG : Gd (σ 0) n d) (hd : d ≤ 50000) (h64 : σ 0 64 = 0) : CtP yX4_when wX4_when 5 [.ref 0, .int a] σ (if 0 ≤ a ∧ a ≤ 11 then rsV (fstN (fun j => decide (daysF (σ 0) n j 2 = a)) 201) else -1000001) (fun σ' => Eb σ' (if 0 ≤ a ∧ a ≤ 11 then rsT σ 13 (fstN (fun j => decide (daysF (σ 0) n j 2 = a)) 201) else fnd σ 13 0)) := by
  refine CtP.of (by decide) (Nat.le_of_ble_eq_true rfl) rfl rfl (fun G hR hE => ?_)
  have hn8 := hG.1
  have hq := cpB_q (σ 0) (σ 1) h64
  refine g_il_1 hR dX4_when_0 ?_
  refine g_csI hR ciX4_isPlace dX4_when_1 ml_X4_53 (Nat.le_of_ble_eq_true rfl) (ev_isPlace a σ) rfl (Nat.le_of_ble_eq_true rfl) rfl ?_
  refine g_if_ne (tgt := 14) hR dX4_when_4 (by decide) (fun h => ?_) (fun h => ?_)
  · rw [if_pos (bI_no h), if_pos (bI_no h)] at hE
    have lp : ∀ d' j, j + d' = 201 → fstN (fun j => decide (daysF (σ 0) n j 2 = a)) j = none → G 27 [some (.ref 0), some (.int a), some (.int (nI j))] [] (daysT (bset σ 1 (cpB (σ 0) (σ 1))) 1 n j) := by
      intro d'
      induction d' with
      | zero =>
        intro j hj hf
        have e201 : j = 201 := by omega
        have hf2 := hf
        rw [e201] at hf2
        rw [hf2] at hE
        refine g_il_2 hR dX4_when_27 ?_
        refine g_sipush_200 hR dX4_when_28 ?_
        refine g_icmp_gt (tgt := 60) hR dX4_when_31 (by decide) (fun _ => ?_) (fun hc => absurd ((by rw [e201]; decide)) hc)
        refine g_al_0 hR dX4_when_60 ?_
        refine g_ldc hR dX4_when_61 kc_X4_149 ?_
        refine g_cvI hR ciX4_finding dX4_when_63 ml_X4_58 (Nat.le_of_ble_eq_true rfl) (by decide) rfl rfl rfl (cx_f3 _) rfl (Nat.le_of_ble_eq_true rfl) rfl ?_
        exact hE dX4_when_66 (rfl) (Eb.fn ((Eb.days n _).tr (Eb.trial σ _)) 3 (by decide) (by decide) (by decide) (by decide))
      | succ d' ih =>
        intro j hj hf
        have ev : daysT (bset σ 1 (cpB (σ 0) (σ 1))) 1 n j 1 2 = daysF (σ 0) n j 2 := tr_v hq hn8 (by decide) (by decide)
        refine g_il_2 hR dX4_when_27 ?_
        refine g_sipush_200 hR dX4_when_28 ?_
        refine g_icmp_gt (tgt := 60) hR dX4_when_31 (by decide) (fun hc => absurd hc (nI_nlt (a := 200) (b := j) (by omega) (by decide))) (fun _ => ?_)
        refine g_al_0 hR dX4_when_34 ?_
        refine gf_X4_trial hR fl_X4_16 dX4_when_35 ?_
        refine gf_X3_at hR z1 fl_X4_62 dX4_when_38 ?_
        refine g_top ev ?_
        refine g_il_1 hR dX4_when_41 ?_
        refine g_icmp_ne (tgt := 47) hR dX4_when_42 (by decide) (fun h2 => ?_) (fun h2 => ?_)
        · refine g_al_0 hR dX4_when_47 ?_
          refine gf_X4_trial hR fl_X4_16 dX4_when_48 ?_
          refine g_cvV hR ciX3_passDay dX4_when_51 ml_X4_146 (Nat.le_of_ble_eq_true rfl) (by omega) (lay_w z1) rfl rfl (ev_passDay (k := 1) (n := n) (d := d + j) z1 _ (by rw [daysT_k, bset_s]; exact Gd_daysF (cpB_G hG) j (by omega)) (by omega)) rfl (Nat.le_of_ble_eq_true rfl) rfl ?_
          refine g_inc_2 hR dX4_when_54 trivial ?_
          refine g_goto (tgt := 27) hR dX4_when_57 (by decide) ?_
          exact ih (j + 1) (by omega) (fstN_none hf (decide_eq_false h2))
        · have hfst := fstN_first hf (decide_eq_true h2) d'
          rw [show j + 1 + d' = 201 by omega] at hfst
          rw [hfst] at hE
          refine g_il_2 hR dX4_when_45 ?_
          exact hE dX4_when_46 (rfl) ((Eb.days n _).tr (Eb.trial σ _))
    refine g_al_0 hR dX4_when_14 ?_
    refine gf_X4_trial hR fl_X4_16 dX4_when_15 ?_
    refine g_al_0 hR dX4_when_18 ?_
    refine gf_X4_current hR fl_X4_12 dX4_when_19 ?_
    refine g_cvV hR ciX3_becomeBall dX4_when_22 ml_X4_142 (Nat.le_of_ble_eq_true rfl) (by omega) (lay_w z1) rfl rfl (ev_becomeBall (k := 1) (j := 0) z1 z0 (by decide) σ) rfl (Nat.le_of_ble_eq_true rfl) rfl ?_
    refine g_iconst_0 hR dX4_when_25 ?_
    refine g_is_2 hR dX4_when_26 trivial ?_
    exact lp 201 0 rfl rfl
  · rw [if_neg (bI_0.mp h), if_neg (bI_0.mp h)] at hE
    refine g_al_0 hR dX4_when_7 ?_
    refine g_ldc hR dX4_when_8 kc_X4_57 ?_
    refine g_cvI hR ciX4_finding dX4_when_10 ml_X4_58 (Nat.le_of_ble_eq_true rfl) (by decide) rfl rfl rfl (cx_f0 σ) rfl (Nat.le_of_ble_eq_true rfl) rfl ?_
    exact hE dX4_when_13 (rfl) (Eb.rf _)
set_option maxRecDepth 100000 in
set_option maxHeartbeats 4000000 in
theorem cx_comes {n : Nat} {d : Int} (a : Int32) (σ : Hp) (hG : Gd (σ 0) n d) (hd : d ≤ 50000) (h64 : σ 0 64 = 0) : CtP yX4_comes wX4_comes 5 [.ref 0, .int a] σ (if 0 ≤ a ∧ a < σ 0 1 then rsV (fstN (fun j => decide (pf (σ 0) a.toNatClampNeg 5 < pf (daysF (σ 0) n j) a.toNatClampNeg 5)) 201) else -1000001) (fun σ' => Eb σ' (if 0 ≤ a ∧ a < σ 0 1 then rsT σ 13 (fstN (fun j => decide (pf (σ 0) a.toNatClampNeg 5 < pf (daysF (σ 0) n j) a.toNatClampNeg 5)) 201) else fnd σ 13 0)) := by
  refine CtP.of (by decide) (Nat.le_of_ble_eq_true rfl) rfl rfl (fun G hR hE => ?_)
  have hn8 := hG.1
  have hq := cpB_q (σ 0) (σ 1) h64
  refine g_al_0 hR dX4_comes_0 ?_
  refine gf_X4_current hR fl_X4_12 dX4_comes_1 ?_
  refine g_il_1 hR dX4_comes_4 ?_
  refine g_cvI hR ciX3_hasPiece dX4_comes_5 ml_X4_85 (Nat.le_of_ble_eq_true rfl) (by omega) (lay_w z0) rfl rfl (ev_hasPiece (k := 0) z0 a σ) rfl (Nat.le_of_ble_eq_true rfl) rfl ?_
  refine g_if_ne (tgt := 18) hR dX4_comes_8 (by decide) (fun h => ?_) (fun h => ?_)
  · have hc := bI_no h
    rw [if_pos hc, if_pos hc] at hE
    obtain ⟨p, hp, rfl⟩ := nlt (n := n) (by rw [← hG.2.1]; exact hc) (by omega)
    rw [show (nI p).toNatClampNeg = p from nI_clamp (by omega)] at hE
    have lp : ∀ d' j, j + 1 + d' = 201 → fstN (fun j => decide (pf (σ 0) p 5 < pf (daysF (σ 0) n j) p 5)) (j + 1) = none → G 31 [some (.ref 0), some (.int (nI p)), some (.int (nI (j + 1)))] [] (daysT (bset σ 1 (cpB (σ 0) (σ 1))) 1 n j) := by
      intro d'
      induction d' with
      | zero =>
        intro j hj hf
        have e201 : j + 1 = 201 := by omega
        have hf2 := hf
        rw [e201] at hf2
        rw [hf2] at hE
        refine g_il_2 hR dX4_comes_31 ?_
        refine g_sipush_200 hR dX4_comes_32 ?_
        refine g_icmp_gt (tgt := 74) hR dX4_comes_35 (by decide) (fun _ => ?_) (fun hc => absurd ((by rw [e201]; decide)) hc)
        refine g_al_0 hR dX4_comes_74 ?_
        refine g_ldc hR dX4_comes_75 kc_X4_149 ?_
        refine g_cvI hR ciX4_finding dX4_comes_77 ml_X4_58 (Nat.le_of_ble_eq_true rfl) (by decide) rfl rfl rfl (cx_f3 _) rfl (Nat.le_of_ble_eq_true rfl) rfl ?_
        exact hE dX4_comes_80 (rfl) (Eb.fn ((Eb.days n _).tr (Eb.trial σ _)) 3 (by decide) (by decide) (by decide) (by decide))
      | succ d' ih =>
        intro j hj hf
        have ev : pf (daysT (bset σ 1 (cpB (σ 0) (σ 1))) 1 n (j + 1) 1) p 5 = pf (daysF (σ 0) n (j + 1)) p 5 := tr_pf hq hn8 (by omega) (by decide)
        have e0 : daysT (bset σ 1 (cpB (σ 0) (σ 1))) 1 n (j + 1) 0 = σ 0 := ((Eb.days n _).tr (Eb.trial σ _)) 0 (by decide) (by decide) (by decide) (by decide)
        refine g_il_2 hR dX4_comes_31 ?_
        refine g_sipush_200 hR dX4_comes_32 ?_
        refine g_icmp_gt (tgt := 74) hR dX4_comes_35 (by decide) (fun hc => absurd hc (nI_nlt (a := 200) (b := j + 1) (by omega) (by decide))) (fun _ => ?_)
        refine g_al_0 hR dX4_comes_38 ?_
        refine gf_X4_trial hR fl_X4_16 dX4_comes_39 ?_
        refine g_cvV hR ciX3_passDay dX4_comes_42 ml_X4_146 (Nat.le_of_ble_eq_true rfl) (by omega) (lay_w z1) rfl rfl (ev_passDay (k := 1) (n := n) (d := d + j) z1 _ (by rw [daysT_k, bset_s]; exact Gd_daysF (cpB_G hG) j (by omega)) (by omega)) rfl (Nat.le_of_ble_eq_true rfl) rfl ?_
        refine g_al_0 hR dX4_comes_45 ?_
        refine gf_X4_trial hR fl_X4_16 dX4_comes_46 ?_
        refine g_il_1 hR dX4_comes_49 ?_
        refine g_iconst_5 hR dX4_comes_50 ?_
        refine g_cvI hR ciX3_fact dX4_comes_51 ml_X4_95 (Nat.le_of_ble_eq_true rfl) (by omega) (lay_w z1) rfl rfl ((ev_fact (k := 1) (p := p) (w := 5) z1 (by omega) (by decide) (daysT (bset σ 1 (cpB (σ 0) (σ 1))) 1 n (j + 1))).weak ev) rfl (Nat.le_of_ble_eq_true rfl) rfl ?_
        refine g_al_0 hR dX4_comes_54 ?_
        refine gf_X4_current hR fl_X4_12 dX4_comes_55 ?_
        refine g_il_1 hR dX4_comes_58 ?_
        refine g_iconst_5 hR dX4_comes_59 ?_
        refine g_cvI hR ciX3_fact dX4_comes_60 ml_X4_95 (Nat.le_of_ble_eq_true rfl) (by omega) (lay_w z0) rfl rfl ((ev_fact (k := 0) (p := p) (w := 5) z0 (by omega) (by decide) (daysT (bset σ 1 (cpB (σ 0) (σ 1))) 1 n (j + 1))).weak (congrArg (fun S => pf S p 5) e0)) rfl (Nat.le_of_ble_eq_true rfl) rfl ?_
        refine g_icmp_le (tgt := 68) hR dX4_comes_63 (by decide) (fun h2 => ?_) (fun h2 => ?_)
        · refine g_inc_2 hR dX4_comes_68 trivial ?_
          refine g_goto (tgt := 31) hR dX4_comes_71 (by decide) ?_
          exact ih (j + 1) (by omega) (fstN_none hf (decide_eq_false (Int32.not_lt.mpr h2)))
        · have hfst := fstN_first hf (decide_eq_true (Int32.not_le.mp h2)) d'
          rw [show j + 1 + 1 + d' = 201 by omega] at hfst
          rw [hfst] at hE
          refine g_il_2 hR dX4_comes_66 ?_
          exact hE dX4_comes_67 (rfl) ((Eb.days n (j + 1)).tr (Eb.trial σ _))
    refine g_al_0 hR dX4_comes_18 ?_
    refine gf_X4_trial hR fl_X4_16 dX4_comes_19 ?_
    refine g_al_0 hR dX4_comes_22 ?_
    refine gf_X4_current hR fl_X4_12 dX4_comes_23 ?_
    refine g_cvV hR ciX3_becomeBall dX4_comes_26 ml_X4_142 (Nat.le_of_ble_eq_true rfl) (by omega) (lay_w z1) rfl rfl (ev_becomeBall (k := 1) (j := 0) z1 z0 (by decide) σ) rfl (Nat.le_of_ble_eq_true rfl) rfl ?_
    refine g_iconst_1 hR dX4_comes_29 ?_
    refine g_is_2 hR dX4_comes_30 trivial ?_
    exact lp 200 0 rfl (fstN_none rfl (decide_eq_false (Int32.lt_irrefl)))
  · rw [if_neg (bI_0.mp h), if_neg (bI_0.mp h)] at hE
    refine g_al_0 hR dX4_comes_11 ?_
    refine g_ldc hR dX4_comes_12 kc_X4_57 ?_
    refine g_cvI hR ciX4_finding dX4_comes_14 ml_X4_58 (Nat.le_of_ble_eq_true rfl) (by decide) rfl rfl rfl (cx_f0 σ) rfl (Nat.le_of_ble_eq_true rfl) rfl ?_
    exact hE dX4_comes_17 (rfl) (Eb.rf _)
set_option maxRecDepth 100000 in
set_option maxHeartbeats 4000000 in
theorem cx_off {n : Nat} {d : Int} (σ : Hp) (hG : Gd (σ 0) n d) (hd : d ≤ 50000) (h64 : σ 0 64 = 0) : CtP yX4_off wX4_off 5 [.ref 0] σ (rsV (fstN (fun j => decide (σ 0 4 < daysF (σ 0) n j 4)) 201)) (fun σ' => Eb σ' (rsT σ 13 (fstN (fun j => decide (σ 0 4 < daysF (σ 0) n j 4)) 201))) := by
  refine CtP.of (by decide) (Nat.le_of_ble_eq_true rfl) rfl rfl (fun G hR hE => ?_)
  have hn8 := hG.1
  have hq := cpB_q (σ 0) (σ 1) h64
  have lp : ∀ d' j, j + 1 + d' = 201 → fstN (fun j => decide (σ 0 4 < daysF (σ 0) n j 4)) (j + 1) = none → G 13 [some (.ref 0), some (.int (nI (j + 1)))] [] (daysT (bset σ 1 (cpB (σ 0) (σ 1))) 1 n j) := by
    intro d'
    induction d' with
    | zero =>
      intro j hj hf
      have e201 : j + 1 = 201 := by omega
      have hf2 := hf
      rw [e201] at hf2
      rw [hf2] at hE
      refine g_il_1 hR dX4_off_13 ?_
      refine g_sipush_200 hR dX4_off_14 ?_
      refine g_icmp_gt (tgt := 52) hR dX4_off_17 (by decide) (fun _ => ?_) (fun hc => absurd ((by rw [e201]; decide)) hc)
      refine g_al_0 hR dX4_off_52 ?_
      refine g_ldc hR dX4_off_53 kc_X4_149 ?_
      refine g_cvI hR ciX4_finding dX4_off_55 ml_X4_58 (Nat.le_of_ble_eq_true rfl) (by decide) rfl rfl rfl (cx_f3 _) rfl (Nat.le_of_ble_eq_true rfl) rfl ?_
      exact hE dX4_off_58 (rfl) (Eb.fn ((Eb.days n _).tr (Eb.trial σ _)) 3 (by decide) (by decide) (by decide) (by decide))
    | succ d' ih =>
      intro j hj hf
      have ev : daysT (bset σ 1 (cpB (σ 0) (σ 1))) 1 n (j + 1) 1 4 = daysF (σ 0) n (j + 1) 4 := tr_v hq hn8 (by decide) (by decide)
      have e0 : daysT (bset σ 1 (cpB (σ 0) (σ 1))) 1 n (j + 1) 0 = σ 0 := ((Eb.days n _).tr (Eb.trial σ _)) 0 (by decide) (by decide) (by decide) (by decide)
      refine g_il_1 hR dX4_off_13 ?_
      refine g_sipush_200 hR dX4_off_14 ?_
      refine g_icmp_gt (tgt := 52) hR dX4_off_17 (by decide) (fun hc => absurd hc (nI_nlt (a := 200) (b := j + 1) (by omega) (by decide))) (fun _ => ?_)
      refine g_al_0 hR dX4_off_20 ?_
      refine gf_X4_trial hR fl_X4_16 dX4_off_21 ?_
      refine g_cvV hR ciX3_passDay dX4_off_24 ml_X4_146 (Nat.le_of_ble_eq_true rfl) (by omega) (lay_w z1) rfl rfl (ev_passDay (k := 1) (n := n) (d := d + j) z1 _ (by rw [daysT_k, bset_s]; exact Gd_daysF (cpB_G hG) j (by omega)) (by omega)) rfl (Nat.le_of_ble_eq_true rfl) rfl ?_
      refine g_eq (τ := daysT (bset σ 1 (cpB (σ 0) (σ 1))) 1 n (j + 1)) rfl ?_
      refine g_al_0 hR dX4_off_27 ?_
      refine gf_X4_trial hR fl_X4_16 dX4_off_28 ?_
      refine gf_X3_wentOff hR z1 fl_X4_132 dX4_off_31 ?_
      refine g_top ev ?_
      refine g_al_0 hR dX4_off_34 ?_
      refine gf_X4_current hR fl_X4_12 dX4_off_35 ?_
      refine gf_X3_wentOff hR z0 fl_X4_132 dX4_off_38 ?_
      refine g_top (congrFun e0 4) ?_
      refine g_icmp_le (tgt := 46) hR dX4_off_41 (by decide) (fun h2 => ?_) (fun h2 => ?_)
      · refine g_inc_1 hR dX4_off_46 trivial ?_
        refine g_goto (tgt := 13) hR dX4_off_49 (by decide) ?_
        exact ih (j + 1) (by omega) (fstN_none hf (decide_eq_false (Int32.not_lt.mpr h2)))
      · have hfst := fstN_first hf (decide_eq_true (Int32.not_le.mp h2)) d'
        rw [show j + 1 + 1 + d' = 201 by omega] at hfst
        rw [hfst] at hE
        refine g_il_1 hR dX4_off_44 ?_
        exact hE dX4_off_45 (rfl) ((Eb.days n (j + 1)).tr (Eb.trial σ _))
  refine g_al_0 hR dX4_off_0 ?_
  refine gf_X4_trial hR fl_X4_16 dX4_off_1 ?_
  refine g_al_0 hR dX4_off_4 ?_
  refine gf_X4_current hR fl_X4_12 dX4_off_5 ?_
  refine g_cvV hR ciX3_becomeBall dX4_off_8 ml_X4_142 (Nat.le_of_ble_eq_true rfl) (by omega) (lay_w z1) rfl rfl (ev_becomeBall (k := 1) (j := 0) z1 z0 (by decide) σ) rfl (Nat.le_of_ble_eq_true rfl) rfl ?_
  refine g_iconst_1 hR dX4_off_11 ?_
  refine g_is_1 hR dX4_off_12 trivial ?_
  exact lp 200 0 rfl (fstN_none rfl (decide_eq_false (Int32.lt_irrefl)))
set_option maxRecDepth 100000 in
set_option maxHeartbeats 4000000 in
theorem cx_drawTo {n : Nat} {d : Int} (a b v : Int32) (σ : Hp) (hG : Gd (σ 0) n d) (hd : d ≤ 50000) (h64 : σ 0 64 = 0) : CtP yX4_drawTo wX4_drawTo 6 [.ref 0, .int a, .int b, .int v] σ (if (0 ≤ a ∧ a < σ 0 1) ∧ (0 ≤ b ∧ b ≤ 11) ∧ 0 ≤ v ∧ v ≤ 40 then (amin (fun q => dst (daysF (pset (σ 0) a.toNatClampNeg 1 (nI q)) n v.toNatClampNeg 2) b) 12).1 else -1000001) (fun σ' => Eb σ' (if (0 ≤ a ∧ a < σ 0 1) ∧ (0 ≤ b ∧ b ≤ 11) ∧ 0 ≤ v ∧ v ≤ 40 then σ else fnd σ 13 0)) := by
  refine CtP.of (by decide) (Nat.le_of_ble_eq_true rfl) rfl rfl (fun G hR hE => ?_)
  have hn8 := hG.1
  have bad : ¬ ((0 ≤ a ∧ a < σ 0 1) ∧ (0 ≤ b ∧ b ≤ 11) ∧ 0 ≤ v ∧ v ≤ 40) → G 28 [some (.ref 0), some (.int a), some (.int b), some (.int v), none, none, none, none] [] σ := by
    intro h
    rw [if_neg h, if_neg h] at hE
    refine g_al_0 hR dX4_drawTo_28 ?_
    refine g_ldc hR dX4_drawTo_29 kc_X4_57 ?_
    refine g_cvI hR ciX4_finding dX4_drawTo_31 ml_X4_58 (Nat.le_of_ble_eq_true rfl) (by decide) rfl rfl rfl (cx_f0 σ) rfl (Nat.le_of_ble_eq_true rfl) rfl ?_
    exact hE dX4_drawTo_34 (rfl) (Eb.rf _)
  refine g_al_0 hR dX4_drawTo_0 ?_
  refine gf_X4_current hR fl_X4_12 dX4_drawTo_1 ?_
  refine g_il_1 hR dX4_drawTo_4 ?_
  refine g_cvI hR ciX3_hasPiece dX4_drawTo_5 ml_X4_85 (Nat.le_of_ble_eq_true rfl) (by omega) (lay_w z0) rfl rfl (ev_hasPiece (k := 0) z0 a σ) rfl (Nat.le_of_ble_eq_true rfl) rfl ?_
  refine g_if_eq (tgt := 28) hR dX4_drawTo_8 (by decide) (fun h1 => ?_) (fun h1 => ?_)
  · exact bad (fun q => bI_0.mp h1 q.1)
  · refine g_il_2 hR dX4_drawTo_11 ?_
    refine g_csI hR ciX4_isPlace dX4_drawTo_12 ml_X4_53 (Nat.le_of_ble_eq_true rfl) (ev_isPlace b σ) rfl (Nat.le_of_ble_eq_true rfl) rfl ?_
    refine g_if_eq (tgt := 28) hR dX4_drawTo_15 (by decide) (fun h2 => ?_) (fun h2 => ?_)
    · exact bad (fun q => bI_0.mp h2 q.2.1)
    · refine g_il_3 hR dX4_drawTo_18 ?_
      refine g_iconst_0 hR dX4_drawTo_19 ?_
      refine g_bipush_40 hR dX4_drawTo_20 ?_
      refine g_csI hR ciX4_isWithin dX4_drawTo_22 ml_X4_66 (Nat.le_of_ble_eq_true rfl) (ev_isWithin v 0 40 σ) rfl (Nat.le_of_ble_eq_true rfl) rfl ?_
      refine g_if_ne (tgt := 35) hR dX4_drawTo_25 (by decide) (fun h3 => ?_) (fun h3 => ?_)
      · have hc := And.intro (bI_no h1) (And.intro (bI_no h2) (bI_no h3))
        rw [if_pos hc, if_pos hc] at hE
        obtain ⟨p, hp, rfl⟩ := nlt (n := n) (by rw [← hG.2.1]; exact hc.1) (by omega)
        obtain ⟨c, hc2, rfl⟩ := nle 40 hc.2.2 (by decide)
        obtain ⟨pl, hpl, rfl⟩ := nle 11 hc.2.1 (by decide)
        rw [show (nI p).toNatClampNeg = p from nI_clamp (by omega), show (nI c).toNatClampNeg = c from nI_clamp (by omega)] at hE
        have lp : ∀ d' j σ' x7, j + d' = 12 → Eb σ' σ → G 45 [some (.ref 0), some (.int (nI p)), some (.int (nI pl)), some (.int (nI c)), some (.int (amin (fun q => dst (daysF (pset (σ 0) p 1 (nI q)) n c 2) (nI pl)) j).1), some (.int (amin (fun q => dst (daysF (pset (σ 0) p 1 (nI q)) n c 2) (nI pl)) j).2), some (.int (nI j)), x7] [] σ' := by
          intro d'
          induction d' with
          | zero =>
            intro j σ' x7 hj he
            obtain rfl : j = 12 := by omega
            refine g_il_6 hR dX4_drawTo_45 ?_
            refine g_bipush_12 hR dX4_drawTo_47 ?_
            refine g_icmp_ge (tgt := 103) hR dX4_drawTo_49 (by decide) (fun _ => ?_) (fun hc => absurd (Int32.le_refl _) hc)
            refine g_il_4 hR dX4_drawTo_103 ?_
            exact hE dX4_drawTo_105 (rfl) (he)
          | succ d' ih =>
            intro j σ' x7 hj he
            have e0 : σ' 0 = σ 0 := he 0 (by decide) (by decide) (by decide) (by decide)
            have hg : Gd (pset (cpB (σ 0) (σ' 1)) p 1 (nI j)) n d := Gd_pset (cpB_G hG) (by omega) (by decide) (n_rg (show (j : Int) ≤ 11 by omega) (by decide))
            have hq : Bq (pset (cpB (σ 0) (σ' 1)) p 1 (nI j)) (pset (σ 0) p 1 (nI j)) := (cpB_q _ _ h64).pset _ _ _
            have hg2 : Gd (daysF (pset (σ 0) p 1 (nI j)) n c) n (d + c) := Gd_daysF (Gd_pset hG (by omega) (by decide) (n_rg (show (j : Int) ≤ 11 by omega) (by decide))) c (by omega)
            have hbb := hg2.2.2.2.2.2.2.1
            refine g_il_6 hR dX4_drawTo_45 ?_
            refine g_bipush_12 hR dX4_drawTo_47 ?_
            refine g_icmp_ge (tgt := 103) hR dX4_drawTo_49 (by decide) (fun hc => absurd hc (nI_ge (b := 12) (by omega) (by decide))) (fun _ => ?_)
            refine g_al_0 hR dX4_drawTo_52 ?_
            refine g_il_1 hR dX4_drawTo_53 ?_
            refine g_iconst_1 hR dX4_drawTo_54 ?_
            refine g_il_6 hR dX4_drawTo_55 ?_
            refine g_cvV hR ciX4_tryFact dX4_drawTo_57 ml_X4_150 (Nat.le_of_ble_eq_true rfl) (by decide) rfl rfl rfl (cx_tryFact (p := p) (w := 1) (by omega) (by decide) (nI j) σ') rfl (Nat.le_of_ble_eq_true rfl) rfl ?_
            rw [e0]
            refine g_al_0 hR dX4_drawTo_60 ?_
            refine gf_X4_trial hR fl_X4_16 dX4_drawTo_61 ?_
            refine g_il_3 hR dX4_drawTo_64 ?_
            refine g_cvV hR ciX3_passDays dX4_drawTo_65 ml_X4_116 (Nat.le_of_ble_eq_true rfl) (by omega) (lay_w z1) rfl rfl (ev_passDays (k := 1) (n := n) (c := c) (d := d) z1 _ (by rw [bset_s]; exact hg) (by omega) (by omega)) rfl (Nat.le_of_ble_eq_true rfl) rfl ?_
            refine g_al_0 hR dX4_drawTo_68 ?_
            refine gf_X4_trial hR fl_X4_16 dX4_drawTo_69 ?_
            refine gf_X3_at hR z1 fl_X4_62 dX4_drawTo_72 ?_
            refine g_top (tr_v hq hn8 (by decide) (by decide)) ?_
            refine g_il_2 hR dX4_drawTo_75 ?_
            refine g_isub hR dX4_drawTo_76 ?_
            refine g_abs hR (Nat.le_of_ble_eq_true rfl) ml_X4_153 dX4_drawTo_77 (Nat.le_of_ble_eq_true rfl) ?_
            refine g_top (abs_dst2 ⟨by omega, by omega⟩ (n_rg (show (pl : Int) ≤ 11 by omega) (by decide))) ?_
            have e1 := fun x => ih (j + 1) (daysT (bset σ' 1 (pset (cpB (σ 0) (σ' 1)) p 1 (nI j))) 1 n c) x (by omega) ((Eb.days n c).tr ((Eb.trial σ' _).tr he))
            rw [amin] at e1
            refine g_is_7 hR dX4_drawTo_80 trivial ?_
            refine g_il_7 hR dX4_drawTo_82 ?_
            refine g_il_5 hR dX4_drawTo_84 ?_
            refine g_icmp_ge (tgt := 97) hR dX4_drawTo_86 (by decide) (fun h4 => ?_) (fun h4 => ?_)
            · rw [if_neg (Int32.not_lt.mpr h4)] at e1
              refine g_inc_6 hR dX4_drawTo_97 trivial ?_
              refine g_goto (tgt := 45) hR dX4_drawTo_100 (by decide) ?_
              exact e1 _
            · rw [if_pos (Int32.not_le.mp h4)] at e1
              refine g_il_6 hR dX4_drawTo_89 ?_
              refine g_is_4 hR dX4_drawTo_91 trivial ?_
              refine g_il_7 hR dX4_drawTo_93 ?_
              refine g_is_5 hR dX4_drawTo_95 trivial ?_
              refine g_inc_6 hR dX4_drawTo_97 trivial ?_
              refine g_goto (tgt := 45) hR dX4_drawTo_100 (by decide) ?_
              exact e1 _
        refine g_iconst_0 hR dX4_drawTo_35 ?_
        refine g_is_4 hR dX4_drawTo_36 trivial ?_
        refine g_bipush_12 hR dX4_drawTo_38 ?_
        refine g_is_5 hR dX4_drawTo_40 trivial ?_
        refine g_iconst_0 hR dX4_drawTo_42 ?_
        refine g_is_6 hR dX4_drawTo_43 trivial ?_
        exact lp 12 0 σ none rfl (Eb.rf σ)
      · exact bad (fun q => bI_0.mp h3 q.2.2)
