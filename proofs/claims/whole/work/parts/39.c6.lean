set_option maxRecDepth 100000 in
set_option maxHeartbeats 4000000 in
theorem cx_follows {n s z : Nat} {d : Int} (hs : s < 4) (hz : z ≤ 40) (S : Nat → Int32) (σ : Hp) (hG : Gd (σ 1) n d) (hd : d ≤ 50000) (hq : Bq (σ 1) S) (hT : σ 11 (4 + s) = nI z) : CtP yX4_trialFollows wX4_trialFollows 5 [.ref 0, .int (nI s)] σ (bI (folB S (σ 11) n s z = true)) (fun σ' => Eb σ' σ) := by
  refine CtP.of (by decide) (Nat.le_of_ble_eq_true rfl) (bI_nar _) rfl (fun G hR hE => ?_)
  have hn8 := hG.1
  have step : ∀ i σ', i < z → σ' = daysT σ 1 n i → fstN (fun i => decide (¬ (num (σ 11) s i = -1 ∨ num (σ 11) s i = daysF S n i 2))) i = none → (∀ x, fstN (fun i => decide (¬ (num (σ 11) s i = -1 ∨ num (σ 11) s i = daysF S n i 2))) (i + 1) = none → G 2 [some (.ref 0), some (.int (nI s)), some (.int (nI (i + 1))), some (.int x)] [] σ') → ∀ x3, G 25 [some (.ref 0), some (.int (nI s)), some (.int (nI i)), x3] [] σ' := by
    intro i σ' hi he hf next x3
    have e11 : σ' 11 = σ 11 := by rw [he]; exact Eb.days n i 11 (by decide) (by decide) (by decide) (by decide)
    have e2 : σ' 1 2 = daysF S n i 2 := by rw [he, daysT_k]; exact bq_days hq hn8 i 2 (by decide) (by decide)
    have hEb : Eb σ' σ := by rw [he]; exact Eb.days n i
    refine g_al_0 hR dX4_trialFollows_25 ?_
    refine gf_X4_sheets hR fl_X4_45 dX4_trialFollows_26 ?_
    refine g_il_1 hR dX4_trialFollows_29 ?_
    refine g_il_2 hR dX4_trialFollows_30 ?_
    refine g_cvI hR ciX0_number dX4_trialFollows_31 ml_X4_238 (Nat.le_of_ble_eq_true rfl) (by decide) rfl rfl rfl ((ev_number (s := s) (z := z) (i := i) hs hz hi σ' (by rw [e11]; exact hT)).weak (congrArg (fun T => num T s i) e11)) rfl (Nat.le_of_ble_eq_true rfl) rfl ?_
    refine g_is_3 hR dX4_trialFollows_34 trivial ?_
    refine g_il_3 hR dX4_trialFollows_35 ?_
    refine g_iconst_m1 hR dX4_trialFollows_36 ?_
    refine g_icmp_eq (tgt := 53) hR dX4_trialFollows_37 (by decide) (fun h1 => ?_) (fun h1 => ?_)
    · refine g_inc_2 hR dX4_trialFollows_53 trivial ?_
      refine g_goto (tgt := 2) hR dX4_trialFollows_56 (by decide) ?_
      exact next _ (fstN_none hf (decide_eq_false (fun q => q (Or.inl h1))))
    · refine g_il_3 hR dX4_trialFollows_40 ?_
      refine g_al_0 hR dX4_trialFollows_41 ?_
      refine gf_X4_trial hR fl_X4_16 dX4_trialFollows_42 ?_
      refine gf_X3_at hR z1 fl_X4_62 dX4_trialFollows_45 ?_
      refine g_top e2 ?_
      refine g_icmp_eq (tgt := 53) hR dX4_trialFollows_48 (by decide) (fun h2 => ?_) (fun h2 => ?_)
      · refine g_inc_2 hR dX4_trialFollows_53 trivial ?_
        refine g_goto (tgt := 2) hR dX4_trialFollows_56 (by decide) ?_
        exact next _ (fstN_none hf (decide_eq_false (fun q => q (Or.inr h2))))
      · have hfst := fstN_first hf (decide_eq_true (fun q => q.elim h1 h2)) (z - (i + 1))
        rw [show i + 1 + (z - (i + 1)) = z by omega] at hfst
        refine g_iconst_0 hR dX4_trialFollows_51 ?_
        exact hE dX4_trialFollows_52 (by unfold folB; rw [hfst]; rfl) (hEb)
  have fin : ∀ σ' x3, Eb σ' σ → fstN (fun i => decide (¬ (num (σ 11) s i = -1 ∨ num (σ 11) s i = daysF S n i 2))) z = none → G 2 [some (.ref 0), some (.int (nI s)), some (.int (nI z)), x3] [] σ' := by
    intro σ' x3 he hf
    have e11 : σ' 11 = σ 11 := he 11 (by decide) (by decide) (by decide) (by decide)
    refine g_il_2 hR dX4_trialFollows_2 ?_
    refine g_al_0 hR dX4_trialFollows_3 ?_
    refine gf_X4_sheets hR fl_X4_45 dX4_trialFollows_4 ?_
    refine g_il_1 hR dX4_trialFollows_7 ?_
    refine g_cvI hR ciX0_sizeOf dX4_trialFollows_8 ml_X4_216 (Nat.le_of_ble_eq_true rfl) (by decide) rfl rfl rfl ((ev_sizeOf (s := s) hs σ').weak (v' := nI z) (by rw [e11]; exact hT)) rfl (Nat.le_of_ble_eq_true rfl) rfl ?_
    refine g_icmp_ge (tgt := 59) hR dX4_trialFollows_11 (by decide) (fun _ => ?_) (fun hc => absurd (Int32.le_refl _) hc)
    refine g_iconst_1 hR dX4_trialFollows_59 ?_
    exact hE dX4_trialFollows_60 (by unfold folB; rw [hf]; rfl) (he)
  have lp : ∀ d' j x, j + 1 + d' = z → fstN (fun i => decide (¬ (num (σ 11) s i = -1 ∨ num (σ 11) s i = daysF S n i 2))) (j + 1) = none → G 2 [some (.ref 0), some (.int (nI s)), some (.int (nI (j + 1))), some (.int x)] [] (daysT σ 1 n j) := by
    intro d'
    induction d' with
    | zero =>
      intro j x hj hf
      rw [hj] at hf ⊢
      exact fin _ _ (Eb.days n j) hf
    | succ d' ih =>
      intro j x hj hf
      have e11 : daysT σ 1 n j 11 = σ 11 := Eb.days n j 11 (by decide) (by decide) (by decide) (by decide)
      refine g_il_2 hR dX4_trialFollows_2 ?_
      refine g_al_0 hR dX4_trialFollows_3 ?_
      refine gf_X4_sheets hR fl_X4_45 dX4_trialFollows_4 ?_
      refine g_il_1 hR dX4_trialFollows_7 ?_
      refine g_cvI hR ciX0_sizeOf dX4_trialFollows_8 ml_X4_216 (Nat.le_of_ble_eq_true rfl) (by decide) rfl rfl rfl ((ev_sizeOf (s := s) hs (daysT σ 1 n j)).weak (v' := nI z) (by rw [e11]; exact hT)) rfl (Nat.le_of_ble_eq_true rfl) rfl ?_
      refine g_icmp_ge (tgt := 59) hR dX4_trialFollows_11 (by decide) (fun hc => absurd hc (nI_ge (by omega) (by omega))) (fun _ => ?_)
      refine g_il_2 hR dX4_trialFollows_14 ?_
      refine g_if_le (tgt := 25) hR dX4_trialFollows_15 (by decide) (fun hc => absurd hc (nI_nle (by omega) (by omega))) (fun _ => ?_)
      refine g_al_0 hR dX4_trialFollows_18 ?_
      refine gf_X4_trial hR fl_X4_16 dX4_trialFollows_19 ?_
      refine g_cvV hR ciX3_passDay dX4_trialFollows_22 ml_X4_146 (Nat.le_of_ble_eq_true rfl) (by omega) (lay_w z1) rfl rfl (ev_passDay (k := 1) (n := n) (d := d + j) z1 _ (by rw [daysT_k]; exact Gd_daysF hG j (by omega)) (by omega)) rfl (Nat.le_of_ble_eq_true rfl) rfl ?_
      exact step (j + 1) _ (by omega) rfl hf (fun y hf2 => ih (j + 1) y (by omega) hf2) _
  refine g_iconst_0 hR dX4_trialFollows_0 ?_
  refine g_is_2 hR dX4_trialFollows_1 trivial ?_
  cases z with
  | zero => exact fin σ none (Eb.rf σ) rfl
  | succ m =>
    refine g_il_2 hR dX4_trialFollows_2 ?_
    refine g_al_0 hR dX4_trialFollows_3 ?_
    refine gf_X4_sheets hR fl_X4_45 dX4_trialFollows_4 ?_
    refine g_il_1 hR dX4_trialFollows_7 ?_
    refine g_cvI hR ciX0_sizeOf dX4_trialFollows_8 ml_X4_216 (Nat.le_of_ble_eq_true rfl) (by decide) rfl rfl rfl ((ev_sizeOf (s := s) hs σ).weak hT) rfl (Nat.le_of_ble_eq_true rfl) rfl ?_
    refine g_icmp_ge (tgt := 59) hR dX4_trialFollows_11 (by decide) (fun hc => absurd hc (nI_ge (a := 0) (b := m + 1) (by omega) (by omega))) (fun _ => ?_)
    refine g_il_2 hR dX4_trialFollows_14 ?_
    refine g_if_le (tgt := 25) hR dX4_trialFollows_15 (by decide) (fun _ => ?_) (fun hc => absurd ((by decide)) hc)
    exact step 0 σ (by omega) rfl rfl (fun y hf2 => lp m 0 y (by omega) hf2) none
set_option maxRecDepth 100000 in
set_option maxHeartbeats 4000000 in
theorem cx_waysOf {n w m : Nat} {d : Int} (hw : w < 6) (hm : m ≤ 12) (hb : (m : Int) ≤ bnd w + 1) (a b : Int32) (σ : Hp) (hG : Gd (σ 0) n d) (hd : d ≤ 50000) (h64 : σ 0 64 = 0) (hSh : Sh (σ 11)) : CtP yX4_waysOf wX4_waysOf 6 [.ref 0, .int a, .int b, .int (nI w), .int (nI m)] σ (if 0 ≤ a ∧ a ≤ 3 then (if σ 11 a.toNatClampNeg = 0 then -1000006 else if 0 ≤ b ∧ b < σ 0 1 then setN (fun v => folB (pset (σ 0) b.toNatClampNeg w (nI v)) (σ 11) n a.toNatClampNeg (σ 11 (4 + a.toNatClampNeg)).toNatClampNeg) m else -1000001) else -1000001) (fun σ' => Eb σ' (if 0 ≤ a ∧ a ≤ 3 then (if σ 11 a.toNatClampNeg = 0 then fnd σ 13 5 else if 0 ≤ b ∧ b < σ 0 1 then σ else fnd σ 13 0) else fnd σ 13 0)) := by
  refine CtP.of (by decide) (Nat.le_of_ble_eq_true rfl) rfl rfl (fun G hR hE => ?_)
  have hn8 := hG.1
  by_cases ha : 0 ≤ a ∧ a ≤ 3
  · rw [if_pos ha, if_pos ha] at hE
    obtain ⟨s, hs, rfl⟩ := nle 3 ha (by decide)
    rw [show (nI s).toNatClampNeg = s from nI_clamp (by omega)] at hE
    obtain ⟨⟨z, hz, hT⟩, -⟩ := hSh s (by omega)
    by_cases h0 : σ 11 s = 0
    · rw [if_pos h0, if_pos h0] at hE
      refine g_al_0 hR dX4_waysOf_0 ?_
      refine g_il_1 hR dX4_waysOf_1 ?_
      refine g_cvI hR ciX4_sheetFinding dX4_waysOf_2 ml_X4_213 (Nat.le_of_ble_eq_true rfl) (by decide) rfl rfl rfl ((cx_shF (s := s) (by omega) σ).weak (if_pos h0)) rfl (Nat.le_of_ble_eq_true rfl) rfl ?_
      refine g_is_5 hR dX4_waysOf_5 trivial ?_
      refine g_il_5 hR dX4_waysOf_7 ?_
      refine g_if_eq (tgt := 19) hR dX4_waysOf_9 (by decide) (fun hc => absurd hc ((by decide))) (fun _ => ?_)
      refine g_al_0 hR dX4_waysOf_12 ?_
      refine g_il_5 hR dX4_waysOf_13 ?_
      refine g_cvI hR ciX4_finding dX4_waysOf_15 ml_X4_58 (Nat.le_of_ble_eq_true rfl) (by decide) rfl rfl rfl (cx_f5 σ) rfl (Nat.le_of_ble_eq_true rfl) rfl ?_
      exact hE dX4_waysOf_18 (rfl) (Eb.rf _)
    · rw [if_neg h0, if_neg h0, hT, show (nI z).toNatClampNeg = z from nI_clamp (by omega)] at hE
      refine g_al_0 hR dX4_waysOf_0 ?_
      refine g_il_1 hR dX4_waysOf_1 ?_
      refine g_cvI hR ciX4_sheetFinding dX4_waysOf_2 ml_X4_213 (Nat.le_of_ble_eq_true rfl) (by decide) rfl rfl rfl ((cx_shF (s := s) (by omega) σ).weak (if_neg h0)) rfl (Nat.le_of_ble_eq_true rfl) rfl ?_
      refine g_is_5 hR dX4_waysOf_5 trivial ?_
      refine g_il_5 hR dX4_waysOf_7 ?_
      refine g_if_eq (tgt := 19) hR dX4_waysOf_9 (by decide) (fun _ => ?_) (fun hc => absurd (rfl) hc)
      refine g_al_0 hR dX4_waysOf_19 ?_
      refine gf_X4_current hR fl_X4_12 dX4_waysOf_20 ?_
      refine g_il_2 hR dX4_waysOf_23 ?_
      refine g_cvI hR ciX3_hasPiece dX4_waysOf_24 ml_X4_85 (Nat.le_of_ble_eq_true rfl) (by omega) (lay_w z0) rfl rfl (ev_hasPiece (k := 0) z0 b σ) rfl (Nat.le_of_ble_eq_true rfl) rfl ?_
      refine g_if_ne (tgt := 37) hR dX4_waysOf_27 (by decide) (fun h => ?_) (fun h => ?_)
      · have hc := bI_no h
        rw [if_pos hc, if_pos hc] at hE
        obtain ⟨p, hp, rfl⟩ := nlt (n := n) (by rw [← hG.2.1]; exact hc) (by omega)
        rw [show (nI p).toNatClampNeg = p from nI_clamp (by omega)] at hE
        have lp : ∀ d' j σ', j + d' = m → Eb σ' σ → G 43 [some (.ref 0), some (.int (nI s)), some (.int (nI p)), some (.int (nI w)), some (.int (nI m)), some (.int 0), some (.int (setN (fun v => folB (pset (σ 0) p w (nI v)) (σ 11) n s z) j)), some (.int (nI j))] [] σ' := by
          intro d'
          induction d' with
          | zero =>
            intro j σ' hj he
            obtain rfl : j = m := by omega
            refine g_il_7 hR dX4_waysOf_43 ?_
            refine g_il_4 hR dX4_waysOf_45 ?_
            refine g_icmp_ge (tgt := 81) hR dX4_waysOf_47 (by decide) (fun _ => ?_) (fun hc => absurd (Int32.le_refl _) hc)
            refine g_il_6 hR dX4_waysOf_81 ?_
            exact hE dX4_waysOf_83 (rfl) (he)
          | succ d' ih =>
            intro j σ' hj he
            have e0 : σ' 0 = σ 0 := he 0 (by decide) (by decide) (by decide) (by decide)
            have e11 : σ' 11 = σ 11 := he 11 (by decide) (by decide) (by decide) (by decide)
            have hg : Gd (pset (cpB (σ 0) (σ' 1)) p w (nI j)) n d := Gd_pset (cpB_G hG) (by omega) hw (n_rg (by omega) (by have := bnd_le w hw; omega))
            have hq : Bq (pset (cpB (σ 0) (σ' 1)) p w (nI j)) (pset (σ 0) p w (nI j)) := (cpB_q _ _ h64).pset _ _ _
            have e1 := fun σ'' h => ih (j + 1) σ'' (by omega) h
            rw [setN] at e1
            refine g_il_7 hR dX4_waysOf_43 ?_
            refine g_il_4 hR dX4_waysOf_45 ?_
            refine g_icmp_ge (tgt := 81) hR dX4_waysOf_47 (by decide) (fun hc => absurd hc (nI_ge (by omega) (by omega))) (fun _ => ?_)
            refine g_al_0 hR dX4_waysOf_50 ?_
            refine g_il_2 hR dX4_waysOf_51 ?_
            refine g_il_3 hR dX4_waysOf_52 ?_
            refine g_il_7 hR dX4_waysOf_53 ?_
            refine g_cvV hR ciX4_tryFact dX4_waysOf_55 ml_X4_150 (Nat.le_of_ble_eq_true rfl) (by decide) rfl rfl rfl (cx_tryFact (p := p) (w := w) (by omega) hw (nI j) σ') rfl (Nat.le_of_ble_eq_true rfl) rfl ?_
            rw [e0]
            have e11' : bset σ' 1 (pset (cpB (σ 0) (σ' 1)) p w (nI j)) 11 = σ 11 := by rw [bset_n (by decide)]; exact e11
            refine g_al_0 hR dX4_waysOf_58 ?_
            refine g_il_1 hR dX4_waysOf_59 ?_
            refine g_cvP hR ciX4_trialFollows dX4_waysOf_60 ml_X4_244 (Nat.le_of_ble_eq_true rfl) (by decide) rfl rfl rfl (cx_follows (s := s) (z := z) (n := n) (d := d) (by omega) hz (pset (σ 0) p w (nI j)) _ (by rw [bset_s]; exact hg) hd (by rw [bset_s]; exact hq) (by rw [e11']; exact hT)) rfl (Nat.le_of_ble_eq_true rfl) rfl (fun σ2 h2 => ?_)
            refine g_if_eq (tgt := 75) hR dX4_waysOf_63 (by decide) (fun h3 => ?_) (fun h3 => ?_)
            · have e2 := e1 σ2 (h2.tr ((Eb.trial σ' _).tr he))
              have h4 := bI_0.mp h3
              rw [e11'] at h4
              rw [if_neg h4] at e2
              refine g_inc_7 hR dX4_waysOf_75 trivial ?_
              refine g_goto (tgt := 43) hR dX4_waysOf_78 (by decide) ?_
              exact e2
            · have e2 := e1 σ2 (h2.tr ((Eb.trial σ' _).tr he))
              have h4 := bI_no h3
              rw [e11'] at h4
              rw [if_pos h4] at e2
              refine g_il_6 hR dX4_waysOf_66 ?_
              refine g_iconst_1 hR dX4_waysOf_68 ?_
              refine g_il_7 hR dX4_waysOf_69 ?_
              refine g_ishl hR dX4_waysOf_71 ?_
              refine g_ior hR dX4_waysOf_72 ?_
              refine g_is_6 hR dX4_waysOf_73 trivial ?_
              refine g_inc_7 hR dX4_waysOf_75 trivial ?_
              refine g_goto (tgt := 43) hR dX4_waysOf_78 (by decide) ?_
              exact e2
        refine g_iconst_0 hR dX4_waysOf_37 ?_
        refine g_is_6 hR dX4_waysOf_38 trivial ?_
        refine g_iconst_0 hR dX4_waysOf_40 ?_
        refine g_is_7 hR dX4_waysOf_41 trivial ?_
        exact lp m 0 σ (by omega) (Eb.rf σ)
      · rw [if_neg (bI_0.mp h), if_neg (bI_0.mp h)] at hE
        refine g_al_0 hR dX4_waysOf_30 ?_
        refine g_ldc hR dX4_waysOf_31 kc_X4_57 ?_
        refine g_cvI hR ciX4_finding dX4_waysOf_33 ml_X4_58 (Nat.le_of_ble_eq_true rfl) (by decide) rfl rfl rfl (cx_f0 σ) rfl (Nat.le_of_ble_eq_true rfl) rfl ?_
        exact hE dX4_waysOf_36 (rfl) (Eb.rf _)
  · rw [if_neg ha, if_neg ha] at hE
    refine g_al_0 hR dX4_waysOf_0 ?_
    refine g_il_1 hR dX4_waysOf_1 ?_
    refine g_cvI hR ciX4_sheetFinding dX4_waysOf_2 ml_X4_213 (Nat.le_of_ble_eq_true rfl) (by decide) rfl rfl rfl (cx_shF_out ha σ) rfl (Nat.le_of_ble_eq_true rfl) rfl ?_
    refine g_is_5 hR dX4_waysOf_5 trivial ?_
    refine g_il_5 hR dX4_waysOf_7 ?_
    refine g_if_eq (tgt := 19) hR dX4_waysOf_9 (by decide) (fun hc => absurd hc ((by decide))) (fun _ => ?_)
    refine g_al_0 hR dX4_waysOf_12 ?_
    refine g_il_5 hR dX4_waysOf_13 ?_
    refine g_cvI hR ciX4_finding dX4_waysOf_15 ml_X4_58 (Nat.le_of_ble_eq_true rfl) (by decide) rfl rfl rfl (cx_f0 σ) rfl (Nat.le_of_ble_eq_true rfl) rfl ?_
    exact hE dX4_waysOf_18 (rfl) (Eb.rf _)
set_option maxRecDepth 100000 in
set_option maxHeartbeats 4000000 in
theorem cx_fits {n : Nat} {d : Int} (a b : Int32) (σ : Hp) (hG : Gd (σ 0) n d) (hd : d ≤ 50000) (h64 : σ 0 64 = 0) (hSh : Sh (σ 11)) : CtP yX4_fits wX4_fits 7 [.ref 0, .int a, .int b] σ (if 0 ≤ a ∧ a ≤ 3 then (if σ 11 a.toNatClampNeg = 0 then -1000006 else if 0 ≤ b ∧ b < σ 0 1 then setN (fun v => folB (pset (σ 0) b.toNatClampNeg 1 (nI v)) (σ 11) n a.toNatClampNeg (σ 11 (4 + a.toNatClampNeg)).toNatClampNeg) 12 else -1000001) else -1000001) (fun σ' => Eb σ' (if 0 ≤ a ∧ a ≤ 3 then (if σ 11 a.toNatClampNeg = 0 then fnd σ 13 5 else if 0 ≤ b ∧ b < σ 0 1 then σ else fnd σ 13 0) else fnd σ 13 0)) := by
  refine CtP.of (by decide) (Nat.le_of_ble_eq_true rfl) rfl rfl (fun G hR hE => ?_)
  refine g_al_0 hR dX4_fits_0 ?_
  refine g_il_1 hR dX4_fits_1 ?_
  refine g_il_2 hR dX4_fits_2 ?_
  refine g_iconst_1 hR dX4_fits_3 ?_
  refine g_bipush_12 hR dX4_fits_4 ?_
  refine g_cvP hR ciX4_waysOf dX4_fits_6 ml_X4_166 (Nat.le_of_ble_eq_true rfl) (by decide) rfl rfl rfl (cx_waysOf (w := 1) (m := 12) (by decide) (by decide) (by decide) a b σ hG hd h64 hSh) rfl (Nat.le_of_ble_eq_true rfl) rfl (fun σ2 h2 => ?_)
  exact hE dX4_fits_9 (rfl) (h2)
set_option maxRecDepth 100000 in
set_option maxHeartbeats 4000000 in
theorem cx_kinds {n : Nat} {d : Int} (a b : Int32) (σ : Hp) (hG : Gd (σ 0) n d) (hd : d ≤ 50000) (h64 : σ 0 64 = 0) (hSh : Sh (σ 11)) : CtP yX4_kinds wX4_kinds 7 [.ref 0, .int a, .int b] σ (if 0 ≤ a ∧ a ≤ 3 then (if σ 11 a.toNatClampNeg = 0 then -1000006 else if 0 ≤ b ∧ b < σ 0 1 then setN (fun v => folB (pset (σ 0) b.toNatClampNeg 0 (nI v)) (σ 11) n a.toNatClampNeg (σ 11 (4 + a.toNatClampNeg)).toNatClampNeg) 7 else -1000001) else -1000001) (fun σ' => Eb σ' (if 0 ≤ a ∧ a ≤ 3 then (if σ 11 a.toNatClampNeg = 0 then fnd σ 13 5 else if 0 ≤ b ∧ b < σ 0 1 then σ else fnd σ 13 0) else fnd σ 13 0)) := by
  refine CtP.of (by decide) (Nat.le_of_ble_eq_true rfl) rfl rfl (fun G hR hE => ?_)
  refine g_al_0 hR dX4_kinds_0 ?_
  refine g_il_1 hR dX4_kinds_1 ?_
  refine g_il_2 hR dX4_kinds_2 ?_
  refine g_iconst_0 hR dX4_kinds_3 ?_
  refine g_bipush_7 hR dX4_kinds_4 ?_
  refine g_cvP hR ciX4_waysOf dX4_kinds_6 ml_X4_166 (Nat.le_of_ble_eq_true rfl) (by decide) rfl rfl rfl (cx_waysOf (w := 0) (m := 7) (by decide) (by decide) (by decide) a b σ hG hd h64 hSh) rfl (Nat.le_of_ble_eq_true rfl) rfl (fun σ2 h2 => ?_)
  exact hE dX4_kinds_9 (rfl) (h2)
set_option maxRecDepth 100000 in
set_option maxHeartbeats 4000000 in
theorem cx_unwind {n : Nat} {d : Int} (a : Int32) (σ : Hp) (hG : Gd (σ 0) n d) : CtI yX4_unwind wX4_unwind 2 [.ref 0, .int a] σ (if 0 ≤ a ∧ a ≤ nI (2 ^ n) - 1 then unwV (σ 0) n a else -1000001) (if 0 ≤ a ∧ a ≤ nI (2 ^ n) - 1 then σ else fnd σ 13 0) := by
  refine CtI.of (by decide) (Nat.le_of_ble_eq_true rfl) rfl rfl (fun G hR hE => ?_)
  have hn8 := hG.1
  refine g_il_1 hR dX4_unwind_0 ?_
  refine g_iconst_1 hR dX4_unwind_1 ?_
  refine g_al_0 hR dX4_unwind_2 ?_
  refine gf_X4_current hR fl_X4_12 dX4_unwind_3 ?_
  refine gf_X3_pieceCount hR z0 fl_X4_102 dX4_unwind_6 ?_
  refine g_top hG.2.1 ?_
  refine g_ishl hR dX4_unwind_9 ?_
  refine g_top (shl_n n (by omega)) ?_
  refine g_ineg hR dX4_unwind_10 ?_
  refine g_iand hR dX4_unwind_11 ?_
  refine g_if_eq (tgt := 22) hR dX4_unwind_12 (by decide) (fun h => ?_) (fun h => ?_)
  · have hc := (unw_c hn8).mp h
    rw [if_pos hc, if_pos hc] at hE
    have lp : ∀ d' j, j + d' = n → fstN (fun p => decide (¬ (a >>> (nI p &&& 31)) &&& 1 = 0)) j = none → G 24 [some (.ref 0), some (.int a), some (.int (nI j))] [] σ := by
      intro d'
      induction d' with
      | zero =>
        intro j hj hf
        obtain rfl : j = n := by omega
        refine g_il_2 hR dX4_unwind_24 ?_
        refine g_al_0 hR dX4_unwind_25 ?_
        refine gf_X4_current hR fl_X4_12 dX4_unwind_26 ?_
        refine gf_X3_pieceCount hR z0 fl_X4_102 dX4_unwind_29 ?_
        refine g_top hG.2.1 ?_
        refine g_icmp_ge (tgt := 60) hR dX4_unwind_32 (by decide) (fun _ => ?_) (fun hc => absurd (Int32.le_refl _) hc)
        refine g_iconst_0 hR dX4_unwind_60 ?_
        exact hE dX4_unwind_61 (by unfold unwV; rw [hf]) (rfl)
      | succ d' ih =>
        intro j hj hf
        refine g_il_2 hR dX4_unwind_24 ?_
        refine g_al_0 hR dX4_unwind_25 ?_
        refine gf_X4_current hR fl_X4_12 dX4_unwind_26 ?_
        refine gf_X3_pieceCount hR z0 fl_X4_102 dX4_unwind_29 ?_
        refine g_top hG.2.1 ?_
        refine g_icmp_ge (tgt := 60) hR dX4_unwind_32 (by decide) (fun hc => absurd hc (nI_ge (by omega) (by omega))) (fun _ => ?_)
        refine g_il_1 hR dX4_unwind_35 ?_
        refine g_il_2 hR dX4_unwind_36 ?_
        refine g_ishr hR dX4_unwind_37 ?_
        refine g_iconst_1 hR dX4_unwind_38 ?_
        refine g_iand hR dX4_unwind_39 ?_
        refine g_if_eq (tgt := 54) hR dX4_unwind_40 (by decide) (fun h2 => ?_) (fun h2 => ?_)
        · refine g_inc_2 hR dX4_unwind_54 trivial ?_
          refine g_goto (tgt := 24) hR dX4_unwind_57 (by decide) ?_
          exact ih (j + 1) (by omega) (fstN_none hf (decide_eq_false (fun q => q h2)))
        · have hfst := fstN_first hf (decide_eq_true h2) d'
          rw [show j + 1 + d' = n by omega] at hfst
          refine g_al_0 hR dX4_unwind_43 ?_
          refine gf_X4_current hR fl_X4_12 dX4_unwind_44 ?_
          refine g_il_2 hR dX4_unwind_47 ?_
          refine g_iconst_1 hR dX4_unwind_48 ?_
          refine g_isub hR dX4_unwind_49 ?_
          refine g_cvI hR ciX3_longOutside dX4_unwind_50 ml_X4_129 (Nat.le_of_ble_eq_true rfl) (by omega) (lay_w z0) rfl rfl (ev_longOut (k := 0) (q := j) z0 (by omega) hn8 _ rfl σ hG.2.1) rfl (Nat.le_of_ble_eq_true rfl) rfl ?_
          exact hE dX4_unwind_53 (by unfold unwV; rw [hfst]) (rfl)
    refine g_iconst_0 hR dX4_unwind_22 ?_
    refine g_is_2 hR dX4_unwind_23 trivial ?_
    exact lp n 0 (by omega) rfl
  · have hc : ¬ (0 ≤ a ∧ a ≤ nI (2 ^ n) - 1) := fun q => h ((unw_c hn8).mpr q)
    refine g_al_0 hR dX4_unwind_15 ?_
    refine g_ldc hR dX4_unwind_16 kc_X4_57 ?_
    refine g_cvI hR ciX4_finding dX4_unwind_18 ml_X4_58 (Nat.le_of_ble_eq_true rfl) (by decide) rfl rfl rfl (cx_f0 σ) rfl (Nat.le_of_ble_eq_true rfl) rfl ?_
    exact hE dX4_unwind_21 ((if_neg hc).symm) ((if_neg hc).symm)
set_option maxRecDepth 100000 in
set_option maxHeartbeats 4000000 in
theorem cx_had {n : Nat} {d : Int} (a : Int32) (σ : Hp) (hG : Gd (σ 0) n d) : CtI yX4_had wX4_had 2 [.ref 0, .int a] σ (if 0 ≤ a ∧ a ≤ 999 then nI (hadV n (hadO (σ 0) n a n)) else -1000001) (if 0 ≤ a ∧ a ≤ 999 then σ else fnd σ 13 0) := by
  refine CtI.of (by decide) (Nat.le_of_ble_eq_true rfl) rfl rfl (fun G hR hE => ?_)
  have hn8 := hG.1
  refine g_il_1 hR dX4_had_0 ?_
  refine g_iconst_0 hR dX4_had_1 ?_
  refine g_sipush_999 hR dX4_had_2 ?_
  refine g_csI hR ciX4_isWithin dX4_had_5 ml_X4_66 (Nat.le_of_ble_eq_true rfl) (ev_isWithin a 0 999 σ) rfl (Nat.le_of_ble_eq_true rfl) rfl ?_
  refine g_if_ne (tgt := 18) hR dX4_had_8 (by decide) (fun h => ?_) (fun h => ?_)
  · rw [if_pos (bI_no h), if_pos (bI_no h)] at hE
    have lp : ∀ d' j, j + d' = n → G 30 [some (.ref 0), some (.int a), some (.int (nI (hadV j (hadO (σ 0) n a j)))), some (.int (nI d' - 1))] [] σ := by
      intro d'
      induction d' with
      | zero =>
        intro j hj
        obtain rfl : j = n := by omega
        refine g_il_3 hR dX4_had_30 ?_
        refine g_if_lt (tgt := 57) hR dX4_had_31 (by decide) (fun _ => ?_) (fun hc => absurd ((by decide)) hc)
        refine g_il_2 hR dX4_had_57 ?_
        exact hE dX4_had_58 (rfl) (rfl)
      | succ d' ih =>
        intro j hj
        have e0 := ih (j + 1) (by omega)
        have eP : n - j - 1 = d' := by omega
        rw [nI_pred]
        refine g_il_3 hR dX4_had_30 ?_
        refine g_if_lt (tgt := 57) hR dX4_had_31 (by decide) (fun hc => absurd hc (nI_pos (by omega))) (fun _ => ?_)
        refine g_al_0 hR dX4_had_34 ?_
        refine gf_X4_current hR fl_X4_12 dX4_had_35 ?_
        refine g_il_3 hR dX4_had_38 ?_
        refine g_iconst_1 hR dX4_had_39 ?_
        refine g_isub hR dX4_had_40 ?_
        refine g_cvI hR ciX3_longOutside dX4_had_41 ml_X4_129 (Nat.le_of_ble_eq_true rfl) (by omega) (lay_w z0) rfl rfl (ev_longOut (k := 0) (q := d') z0 (by omega) hn8 _ rfl σ hG.2.1) rfl (Nat.le_of_ble_eq_true rfl) rfl ?_
        refine g_il_1 hR dX4_had_44 ?_
        refine g_icmp_gt (tgt := 51) hR dX4_had_45 (by decide) (fun h2 => ?_) (fun h2 => ?_)
        · have e1 : hadV (j + 1) (hadO (σ 0) n a (j + 1)) = hadV j (hadO (σ 0) n a j) := by
            unfold hadO
            rw [fstN]
            cases hf : fstN (fun i => decide (a < lngF (σ 0) n (n - i - 1))) j with
            | some q => rfl
            | none => rw [eP]; simp [h2, hadV]
          rw [e1] at e0
          refine g_ii_3 hR dX4_had_51 (sub1 _) trivial ?_
          refine g_goto (tgt := 30) hR dX4_had_54 (by decide) ?_
          exact e0
        · have e1 : hadO (σ 0) n a j = none := by
            unfold hadO
            cases hf : fstN (fun i => decide (a < lngF (σ 0) n (n - i - 1))) j with
            | none => rfl
            | some q =>
              have hq := fstN_lt hf
              have hc : decide (a < lngF (σ 0) n (n - q - 1)) = true := fstN_c hf
              have hc := of_decide_eq_true hc
              have hm := lng_mono2 hG (n - q - 1 - d') d' (by omega)
              rw [show d' + (n - q - 1 - d') = n - q - 1 by omega] at hm
              rw [i_lt] at hc h2
              omega
          have e2 : hadO (σ 0) n a (j + 1) = none := by
            have e1' : fstN (fun i => decide (a < lngF (σ 0) n (n - i - 1))) j = none := e1
            unfold hadO; exact fstN_none e1' (decide_eq_false (by rw [eP]; exact h2))
          rw [e2] at e0
          rw [e1]
          refine g_inc_2 hR dX4_had_48 trivial ?_
          refine g_ii_3 hR dX4_had_51 (sub1 _) trivial ?_
          refine g_goto (tgt := 30) hR dX4_had_54 (by decide) ?_
          exact e0
    refine g_iconst_0 hR dX4_had_18 ?_
    refine g_is_2 hR dX4_had_19 trivial ?_
    refine g_al_0 hR dX4_had_20 ?_
    refine gf_X4_current hR fl_X4_12 dX4_had_21 ?_
    refine gf_X3_pieceCount hR z0 fl_X4_102 dX4_had_24 ?_
    refine g_top hG.2.1 ?_
    refine g_iconst_1 hR dX4_had_27 ?_
    refine g_isub hR dX4_had_28 ?_
    refine g_is_3 hR dX4_had_29 trivial ?_
    exact lp n 0 (by omega)
  · refine g_al_0 hR dX4_had_11 ?_
    refine g_ldc hR dX4_had_12 kc_X4_57 ?_
    refine g_cvI hR ciX4_finding dX4_had_14 ml_X4_58 (Nat.le_of_ble_eq_true rfl) (by decide) rfl rfl rfl (cx_f0 σ) rfl (Nat.le_of_ble_eq_true rfl) rfl ?_
    exact hE dX4_had_17 ((if_neg (bI_0.mp h)).symm) ((if_neg (bI_0.mp h)).symm)
