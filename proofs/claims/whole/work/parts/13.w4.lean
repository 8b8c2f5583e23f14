set_option maxRecDepth 100000 in
set_option maxHeartbeats 4000000 in
theorem ev_weigh {k n : Nat} {d : Int} (hk : k < 3) (σ : Hp) (hG : Gd (σ k) n d) (hd : d < 1000000) : CtV yX3_weigh wX3_weigh 3 [.ref (3 * k + 1)] σ (wghT σ k (upF (σ k) n) (dnF (σ k) n)) := by
  refine CtV.of (by decide) (Nat.le_of_ble_eq_true rfl) rfl (fun G hR hE => ?_)
  have hn8 := hG.1
  have lp : ∀ d' j x3, j = d' → j ≤ n → G 19 [some (.ref (3 * k + 1)), some (.int (lngF (σ k) n j)), some (.int (nI j - 1)), x3] [] (wghT σ k (sumD (fun p => if σ k 2 < pf (σ k) p 1 then fltF (σ k) n p else 0) n j) (sumD (fun p => if pf (σ k) p 1 < σ k 2 then fltF (σ k) n p else 0) n j)) := by
    intro d'
    induction d' with
    | zero =>
      intro j x3 hj hjn
      subst hj
      refine g_il_2 hR dX3_weigh_19 ?_
      refine g_if_lt (tgt := 94) hR dX3_weigh_20 (by decide) (fun _ => ?_) (fun hc => absurd ((by decide)) hc)
      exact hE dX3_weigh_94 (by rw [sumD_0, sumD_0]; rfl)
    | succ d' ih =>
      intro j x3 hj hjn
      have e : nI j - 1 = nI d' := by rw [hj]; exact nI_pred d'
      rw [e]
      have key : G 79 [some (.ref (3 * k + 1)), some (.int (lngF (σ k) n j)), some (.int (nI d')), some (.int (pf (σ k) d' 1))] [] (wghT σ k (sumD (fun p => if σ k 2 < pf (σ k) p 1 then fltF (σ k) n p else 0) n d') (sumD (fun p => if pf (σ k) p 1 < σ k 2 then fltF (σ k) n p else 0) n d')) := by
        refine g_il_1 hR dX3_weigh_79 ?_
        refine g_al_0 hR dX3_weigh_80 ?_
        refine g_il_2 hR dX3_weigh_81 ?_
        refine g_iconst_2 hR dX3_weigh_82 ?_
        refine g_cvI hR ciX3_fact dX3_weigh_83 ml_X3_56 (Nat.le_of_ble_eq_true rfl) (by omega) (lay_w hk) rfl rfl ((ev_fact hk (p := d') (w := 2) (by omega) (by decide) _).weak (congrArg (fun S => pf S d' 2) (wgh_k hk))) rfl (Nat.le_of_ble_eq_true rfl) rfl ?_
        refine g_iadd hR dX3_weigh_86 ?_
        refine g_top (show lngF (σ k) n j + pf (σ k) d' 2 = lngF (σ k) n d' by rw [hj]; exact (lng_step (σ k) (j := d') (by omega)).symm) ?_
        refine g_is_1 hR dX3_weigh_87 trivial ?_
        refine g_ii_2 hR dX3_weigh_88 (sub1 _) trivial ?_
        refine g_goto (tgt := 19) hR dX3_weigh_91 (by decide) ?_
        exact ih d' _ rfl (by omega)
      rw [sumD_step _ (show d' < n by omega), sumD_step _ (show d' < n by omega)] at key
      subst hj
      refine g_il_2 hR dX3_weigh_19 ?_
      refine g_if_lt (tgt := 94) hR dX3_weigh_20 (by decide) (fun hc => absurd hc (nI_pos (by omega))) (fun _ => ?_)
      refine g_al_0 hR dX3_weigh_23 ?_
      refine g_il_2 hR dX3_weigh_24 ?_
      refine g_iconst_1 hR dX3_weigh_25 ?_
      refine g_cvI hR ciX3_fact dX3_weigh_26 ml_X3_56 (Nat.le_of_ble_eq_true rfl) (by omega) (lay_w hk) rfl rfl ((ev_fact hk (p := d') (w := 1) (by omega) (by decide) _).weak (congrArg (fun S => pf S d' 1) (wgh_k hk))) rfl (Nat.le_of_ble_eq_true rfl) rfl ?_
      refine g_is_3 hR dX3_weigh_29 trivial ?_
      refine g_il_3 hR dX3_weigh_30 ?_
      refine g_al_0 hR dX3_weigh_31 ?_
      refine gf_X3_at hR hk fl_X3_9 dX3_weigh_32 ?_
      refine g_icmp_le (tgt := 56) hR dX3_weigh_35 (by decide) (fun h1 => ?_) (fun h1 => ?_)
      · refine g_il_3 hR dX3_weigh_56 ?_
        refine g_al_0 hR dX3_weigh_57 ?_
        refine gf_X3_at hR hk fl_X3_9 dX3_weigh_58 ?_
        refine g_icmp_ge (tgt := 79) hR dX3_weigh_61 (by decide) (fun h2 => ?_) (fun h2 => ?_)
        · rw [wgh_k hk] at h1 h2
          rw [if_neg (Int32.not_lt.mpr h1), if_neg (Int32.not_lt.mpr h2), Int32.add_zero, Int32.add_zero] at key
          exact key
        · refine g_al_0 hR dX3_weigh_64 ?_
          refine g_dup hR dX3_weigh_65 rfl ?_
          refine gf_X3_down hR hk fl_X3_36 dX3_weigh_66 ?_
          refine g_al_0 hR dX3_weigh_69 ?_
          refine g_il_2 hR dX3_weigh_70 ?_
          refine g_il_1 hR dX3_weigh_71 ?_
          refine g_cvI hR ciX3_feltOf dX3_weigh_72 ml_X3_87 (Nat.le_of_ble_eq_true rfl) (by omega) (lay_w hk) rfl rfl ((ev_feltOf hk (p := d') (by omega) (lngF (σ k) n (d' + 1)) _ (by rw [wgh_k hk]; exact hG) hd).weak (show _ = fltF (σ k) n d' by rw [wgh_k hk]; rfl)) rfl (Nat.le_of_ble_eq_true rfl) rfl ?_
          refine g_iadd hR dX3_weigh_75 ?_
          refine pf_X3_down hR hk fl_X3_36 dX3_weigh_76 ?_
          rw [wgh_k hk] at h1 h2
          rw [if_neg (Int32.not_lt.mpr h1), if_pos (Int32.not_le.mp h2), Int32.add_zero] at key
          rw [wgh_d, wgh_dn]
          exact key
      · refine g_al_0 hR dX3_weigh_38 ?_
        refine g_dup hR dX3_weigh_39 rfl ?_
        refine gf_X3_up hR hk fl_X3_33 dX3_weigh_40 ?_
        refine g_al_0 hR dX3_weigh_43 ?_
        refine g_il_2 hR dX3_weigh_44 ?_
        refine g_il_1 hR dX3_weigh_45 ?_
        refine g_cvI hR ciX3_feltOf dX3_weigh_46 ml_X3_87 (Nat.le_of_ble_eq_true rfl) (by omega) (lay_w hk) rfl rfl ((ev_feltOf hk (p := d') (by omega) (lngF (σ k) n (d' + 1)) _ (by rw [wgh_k hk]; exact hG) hd).weak (show _ = fltF (σ k) n d' by rw [wgh_k hk]; rfl)) rfl (Nat.le_of_ble_eq_true rfl) rfl ?_
        refine g_iadd hR dX3_weigh_49 ?_
        refine pf_X3_up hR hk fl_X3_33 dX3_weigh_50 ?_
        refine g_goto (tgt := 79) hR dX3_weigh_53 (by decide) ?_
        rw [wgh_k hk] at h1
        have h3 : ¬ pf (σ k) d' 1 < σ k 2 := fun q => h1 (Int32.le_of_lt q)
        rw [if_pos (Int32.not_le.mp h1), if_neg h3, Int32.add_zero] at key
        rw [wgh_u, wgh_up]
        exact key
  refine g_al_0 hR dX3_weigh_0 ?_
  refine g_iconst_0 hR dX3_weigh_1 ?_
  refine pf_X3_up hR hk fl_X3_33 dX3_weigh_2 ?_
  refine g_al_0 hR dX3_weigh_5 ?_
  refine g_iconst_0 hR dX3_weigh_6 ?_
  refine pf_X3_down hR hk fl_X3_36 dX3_weigh_7 ?_
  refine g_iconst_0 hR dX3_weigh_10 ?_
  refine g_is_1 hR dX3_weigh_11 trivial ?_
  refine g_eq wgh_0 ?_
  refine g_al_0 hR dX3_weigh_12 ?_
  refine gf_X3_pieceCount hR hk fl_X3_27 dX3_weigh_13 ?_
  refine g_top (show wghT σ k 0 0 k 1 = nI n by rw [wgh_k hk]; exact hG.2.1) ?_
  refine g_iconst_1 hR dX3_weigh_16 ?_
  refine g_isub hR dX3_weigh_17 ?_
  refine g_is_2 hR dX3_weigh_18 trivial ?_
  have := lp n n none rfl (Nat.le_refl n)
  rw [lng_n, sumD_n, sumD_n] at this
  exact this
set_option maxRecDepth 100000 in
set_option maxHeartbeats 4000000 in
theorem ev_moveTo {k n : Nat} {d : Int} (hk : k < 3) (v : Int32) (σ : Hp) (hG : Gd (upd (σ k) 2 v) n d) : CtV yX3_moveTo wX3_moveTo 3 [.ref (3 * k + 1), .int v] σ (bset σ k (arrN (upd (σ k) 2 v) n)) := by
  refine CtV.of (by decide) (Nat.le_of_ble_eq_true rfl) rfl (fun G hR hE => ?_)
  have hn8 := hG.1
  have lp : ∀ d' j, j + d' = n → G 7 [some (.ref (3 * k + 1)), some (.int v), some (.int (nI j))] [] (bset σ k (arrN (upd (σ k) 2 v) j)) := by
    intro d'
    induction d' with
    | zero =>
      intro j hj
      obtain rfl : j = n := by omega
      have hg := Gd_arrN hG j hn8
      refine g_il_2 hR dX3_moveTo_7 ?_
      refine g_al_0 hR dX3_moveTo_8 ?_
      refine gf_X3_pieceCount hR hk fl_X3_27 dX3_moveTo_9 ?_
      refine g_top (show bset σ k (arrN (upd (σ k) 2 v) j) k 1 = nI j by rw [bset_s]; exact hg.2.1) ?_
      refine g_icmp_ge (tgt := 43) hR dX3_moveTo_12 (by decide) (fun _ => ?_) (fun hc => absurd (Int32.le_refl _) hc)
      exact hE dX3_moveTo_43 (rfl)
    | succ d' ih =>
      intro j hj
      have hg := Gd_arrN hG j (by omega)
      have e2 : arrN (upd (σ k) 2 v) j 2 = v := by rw [arrN_lo (by decide), upd_s]
      have e0 := ih (j + 1) (by omega)
      generalize hT : arrN (upd (σ k) 2 v) j = T at *
      refine g_il_2 hR dX3_moveTo_7 ?_
      refine g_al_0 hR dX3_moveTo_8 ?_
      refine gf_X3_pieceCount hR hk fl_X3_27 dX3_moveTo_9 ?_
      refine g_top (show bset σ k T k 1 = nI n by rw [bset_s]; exact hg.2.1) ?_
      refine g_icmp_ge (tgt := 43) hR dX3_moveTo_12 (by decide) (fun hc => absurd hc (nI_ge (by omega) (by omega))) (fun _ => ?_)
      refine g_al_0 hR dX3_moveTo_15 ?_
      refine g_il_2 hR dX3_moveTo_16 ?_
      refine g_iconst_1 hR dX3_moveTo_17 ?_
      refine g_cvI hR ciX3_fact dX3_moveTo_18 ml_X3_56 (Nat.le_of_ble_eq_true rfl) (by omega) (lay_w hk) rfl rfl ((ev_fact hk (p := j) (w := 1) (by omega) (by decide) _).weak (congrArg (fun S => pf S j 1) (bset_s σ k T))) rfl (Nat.le_of_ble_eq_true rfl) rfl ?_
      refine g_il_1 hR dX3_moveTo_21 ?_
      refine g_icmp_ne (tgt := 37) hR dX3_moveTo_22 (by decide) (fun h1 => ?_) (fun h1 => ?_)
      · refine g_inc_2 hR dX3_moveTo_37 trivial ?_
        refine g_goto (tgt := 7) hR dX3_moveTo_40 (by decide) ?_
        rw [arrN, hT, arr1, if_neg (by rw [e2]; exact h1)] at e0
        exact e0
      · refine g_al_0 hR dX3_moveTo_25 ?_
        refine g_il_2 hR dX3_moveTo_26 ?_
        refine g_iconst_5 hR dX3_moveTo_27 ?_
        refine g_cvV hR ciX3_raiseFact dX3_moveTo_28 ml_X3_113 (Nat.le_of_ble_eq_true rfl) (by omega) (lay_w hk) rfl rfl (ev_raise hk (p := j) (w := 5) (by omega) (by decide) (by decide) _ (by rw [bset_s]; exact hg.2.2.1 j 5 (by omega) (by decide))) rfl (Nat.le_of_ble_eq_true rfl) rfl ?_
        refine g_al_0 hR dX3_moveTo_31 ?_
        refine g_il_2 hR dX3_moveTo_32 ?_
        refine g_iconst_3 hR dX3_moveTo_33 ?_
        refine g_cvV hR ciX3_raiseFact dX3_moveTo_34 ml_X3_113 (Nat.le_of_ble_eq_true rfl) (by omega) (lay_w hk) rfl rfl (ev_raise hk (p := j) (w := 3) (by omega) (by decide) (by decide) _ (by rw [bset_s, bset_s, pf_pset _ _ _ _ _ _ (by decide) (by decide), if_neg (by omega)]; exact hg.2.2.1 j 3 (by omega) (by decide))) rfl (Nat.le_of_ble_eq_true rfl) rfl ?_
        refine g_inc_2 hR dX3_moveTo_37 trivial ?_
        refine g_goto (tgt := 7) hR dX3_moveTo_40 (by decide) ?_
        rw [arrN, hT, arr1, if_pos (by rw [e2]; exact h1)] at e0
        simp only [bset_s, bset_bset]
        rw [show pf (pset T j 5 (heldF (pf T j 5 + 1) (fmT 5))) j 3 = pf T j 3 by rw [pf_pset _ _ _ _ _ _ (by decide) (by decide), if_neg (by omega)]]
        exact e0
  refine g_al_0 hR dX3_moveTo_0 ?_
  refine g_il_1 hR dX3_moveTo_1 ?_
  refine pf_X3_at hR hk fl_X3_9 dX3_moveTo_2 ?_
  refine g_iconst_0 hR dX3_moveTo_5 ?_
  refine g_is_2 hR dX3_moveTo_6 trivial ?_
  exact lp n 0 (by omega)
set_option maxRecDepth 100000 in
set_option maxHeartbeats 4000000 in
theorem ev_halve {k n p : Nat} {d : Int} (hk : k < 3) (hp : p < n) (σ : Hp) (hG : Gd (σ k) n d) : CtV yX3_halveOutside wX3_halveOutside 1 [.ref (3 * k + 1), .int (nI p)] σ (bset σ k (halN (σ k) (p + 1) (n - (p + 1)))) := by
  refine CtV.of (by decide) (Nat.le_of_ble_eq_true rfl) rfl (fun G hR hE => ?_)
  have hn8 := hG.1
  have lp : ∀ d' c, p + 1 + c + d' = n → G 4 [some (.ref (3 * k + 1)), some (.int (nI p)), some (.int (nI (p + 1 + c)))] [] (bset σ k (halN (σ k) (p + 1) c)) := by
    intro d'
    induction d' with
    | zero =>
      intro c hc
      have hg := Gd_halN (a := p + 1) hG c (by omega)
      obtain rfl : c = n - (p + 1) := by omega
      refine g_il_2 hR dX3_halveOutside_4 ?_
      refine g_al_0 hR dX3_halveOutside_5 ?_
      refine gf_X3_pieceCount hR hk fl_X3_27 dX3_halveOutside_6 ?_
      refine g_top (show bset σ k (halN (σ k) (p + 1) (n - (p + 1))) k 1 = nI n by rw [bset_s]; exact hg.2.1) ?_
      refine g_icmp_ge (tgt := 36) hR dX3_halveOutside_9 (by decide) (fun _ => ?_) (fun hc => absurd (nI_le (by omega) (by omega)) hc)
      exact hE dX3_halveOutside_36 (rfl)
    | succ d' ih =>
      intro c hc
      have hg := Gd_halN (a := p + 1) hG c (by omega)
      have e0 := ih (c + 1) (by omega)
      generalize hT : halN (σ k) (p + 1) c = T at *
      refine g_il_2 hR dX3_halveOutside_4 ?_
      refine g_al_0 hR dX3_halveOutside_5 ?_
      refine gf_X3_pieceCount hR hk fl_X3_27 dX3_halveOutside_6 ?_
      refine g_top (show bset σ k T k 1 = nI n by rw [bset_s]; exact hg.2.1) ?_
      refine g_icmp_ge (tgt := 36) hR dX3_halveOutside_9 (by decide) (fun hc => absurd hc (nI_ge (by omega) (by omega))) (fun _ => ?_)
      refine g_al_0 hR dX3_halveOutside_12 ?_
      refine g_il_2 hR dX3_halveOutside_13 ?_
      refine g_iconst_2 hR dX3_halveOutside_14 ?_
      refine g_iconst_1 hR dX3_halveOutside_15 ?_
      refine g_al_0 hR dX3_halveOutside_16 ?_
      refine g_il_2 hR dX3_halveOutside_17 ?_
      refine g_iconst_2 hR dX3_halveOutside_18 ?_
      refine g_cvI hR ciX3_fact dX3_halveOutside_19 ml_X3_56 (Nat.le_of_ble_eq_true rfl) (by omega) (lay_w hk) rfl rfl ((ev_fact hk (p := p + 1 + c) (w := 2) (by omega) (by decide) _).weak (congrArg (fun S => pf S (p + 1 + c) 2) (bset_s σ k T))) rfl (Nat.le_of_ble_eq_true rfl) rfl ?_
      refine g_iconst_2 hR dX3_halveOutside_22 ?_
      refine g_idiv hR dX3_halveOutside_23 (by decide) ?_
      refine g_max hR (Nat.le_of_ble_eq_true rfl) ml_X3_90 dX3_halveOutside_24 (Nat.le_of_ble_eq_true rfl) ?_
      refine g_top (hal_max (hg.2.2.1 (p + 1 + c) 2 (by omega) (by decide))) ?_
      refine g_cvV hR ciX3_setFact dX3_halveOutside_27 ml_X3_64 (Nat.le_of_ble_eq_true rfl) (by omega) (lay_w hk) rfl rfl (ev_setFact hk (p := p + 1 + c) (w := 2) (by omega) (by decide) _ _) rfl (Nat.le_of_ble_eq_true rfl) rfl ?_
      refine g_inc_2 hR dX3_halveOutside_30 trivial ?_
      refine g_goto (tgt := 4) hR dX3_halveOutside_33 (by decide) ?_
      rw [bset_s, bset_bset]
      rw [halN, hT] at e0
      exact e0
  refine g_il_1 hR dX3_halveOutside_0 ?_
  refine g_iconst_1 hR dX3_halveOutside_1 ?_
  refine g_iadd hR dX3_halveOutside_2 ?_
  refine g_top (nI_1 p) ?_
  refine g_is_2 hR dX3_halveOutside_3 trivial ?_
  refine g_eq (τ := bset σ k (halN (σ k) (p + 1) 0)) (bset_id σ k).symm ?_
  exact lp (n - (p + 1)) 0 (by omega)
set_option maxRecDepth 100000 in
set_option maxHeartbeats 4000000 in
theorem ev_goOff {k n : Nat} {d : Int} (hk : k < 3) (σ : Hp) (hG : Gd (σ k) n d) : CtV yX3_goOffFirst wX3_goOffFirst 2 [.ref (3 * k + 1)] σ (bset σ k (goF (σ k) n)) := by
  refine CtV.of (by decide) (Nat.le_of_ble_eq_true rfl) rfl (fun G hR hE => ?_)
  have hn8 := hG.1
  have lp : ∀ d' j x2, j + d' = n → fstN (dueB (σ k)) j = none → G 2 [some (.ref (3 * k + 1)), some (.int (nI j)), x2] [] σ := by
    intro d'
    induction d' with
    | zero =>
      intro j x2 hj hf
      obtain rfl : j = n := by omega
      refine g_il_1 hR dX3_goOffFirst_2 ?_
      refine g_al_0 hR dX3_goOffFirst_3 ?_
      refine gf_X3_pieceCount hR hk fl_X3_27 dX3_goOffFirst_4 ?_
      refine g_top hG.2.1 ?_
      refine g_icmp_ge (tgt := 68) hR dX3_goOffFirst_7 (by decide) (fun _ => ?_) (fun hc => absurd (Int32.le_refl _) hc)
      exact hE dX3_goOffFirst_68 (by unfold goF; rw [hf]; exact (bset_id σ k).symm)
    | succ d' ih =>
      intro j x2 hj hf
      refine g_il_1 hR dX3_goOffFirst_2 ?_
      refine g_al_0 hR dX3_goOffFirst_3 ?_
      refine gf_X3_pieceCount hR hk fl_X3_27 dX3_goOffFirst_4 ?_
      refine g_top hG.2.1 ?_
      refine g_icmp_ge (tgt := 68) hR dX3_goOffFirst_7 (by decide) (fun hc => absurd hc (nI_ge (by omega) (by omega))) (fun _ => ?_)
      refine g_al_0 hR dX3_goOffFirst_10 ?_
      refine g_il_1 hR dX3_goOffFirst_11 ?_
      refine g_iconst_0 hR dX3_goOffFirst_12 ?_
      refine g_cvI hR ciX3_fact dX3_goOffFirst_13 ml_X3_56 (Nat.le_of_ble_eq_true rfl) (by omega) (lay_w hk) rfl rfl (ev_fact hk (p := j) (w := 0) (by omega) (by decide) σ) rfl (Nat.le_of_ble_eq_true rfl) rfl ?_
      refine g_csI hR ciX3_lastsOf dX3_goOffFirst_16 ml_X3_81 (Nat.le_of_ble_eq_true rfl) (ev_lastsOf (pf (σ k) j 0) σ) rfl (Nat.le_of_ble_eq_true rfl) rfl ?_
      refine g_is_2 hR dX3_goOffFirst_19 trivial ?_
      refine g_il_2 hR dX3_goOffFirst_20 ?_
      refine g_if_le (tgt := 62) hR dX3_goOffFirst_21 (by decide) (fun h1 => ?_) (fun h1 => ?_)
      · refine g_inc_1 hR dX3_goOffFirst_62 trivial ?_
        refine g_goto (tgt := 2) hR dX3_goOffFirst_65 (by decide) ?_
        exact ih (j + 1) _ (by omega) (fstN_none hf (by unfold dueB; exact decide_eq_false (fun q => Int32.not_lt.mpr h1 q.1)))
      · refine g_al_0 hR dX3_goOffFirst_24 ?_
        refine g_il_1 hR dX3_goOffFirst_25 ?_
        refine g_iconst_4 hR dX3_goOffFirst_26 ?_
        refine g_cvI hR ciX3_fact dX3_goOffFirst_27 ml_X3_56 (Nat.le_of_ble_eq_true rfl) (by omega) (lay_w hk) rfl rfl (ev_fact hk (p := j) (w := 4) (by omega) (by decide) σ) rfl (Nat.le_of_ble_eq_true rfl) rfl ?_
        refine g_il_2 hR dX3_goOffFirst_30 ?_
        refine g_icmp_lt (tgt := 62) hR dX3_goOffFirst_31 (by decide) (fun h2 => ?_) (fun h2 => ?_)
        · refine g_inc_1 hR dX3_goOffFirst_62 trivial ?_
          refine g_goto (tgt := 2) hR dX3_goOffFirst_65 (by decide) ?_
          exact ih (j + 1) _ (by omega) (fstN_none hf (by unfold dueB; exact decide_eq_false (fun q => Int32.not_le.mpr h2 q.2)))
        · have hdue : dueB (σ k) j = true := by unfold dueB; exact decide_eq_true ⟨Int32.not_le.mp h1, Int32.not_lt.mp h2⟩
          have hfst := fstN_first hf hdue d'
          rw [show j + 1 + d' = n by omega] at hfst
          have hg2 := Gd_pset hG (show j < 8 by omega) (show 4 < 6 by decide) (v := 0) ⟨by decide, by decide⟩
          refine g_al_0 hR dX3_goOffFirst_34 ?_
          refine g_il_1 hR dX3_goOffFirst_35 ?_
          refine g_iconst_4 hR dX3_goOffFirst_36 ?_
          refine g_iconst_0 hR dX3_goOffFirst_37 ?_
          refine g_cvV hR ciX3_setFact dX3_goOffFirst_38 ml_X3_64 (Nat.le_of_ble_eq_true rfl) (by omega) (lay_w hk) rfl rfl (ev_setFact hk (p := j) (w := 4) (by omega) (by decide) 0 σ) rfl (Nat.le_of_ble_eq_true rfl) rfl ?_
          refine g_al_0 hR dX3_goOffFirst_41 ?_
          refine g_il_1 hR dX3_goOffFirst_42 ?_
          refine g_cvV hR ciX3_halveOutside dX3_goOffFirst_43 ml_X3_124 (Nat.le_of_ble_eq_true rfl) (by omega) (lay_w hk) rfl rfl (ev_halve hk (p := j) (n := n) (d := d) (by omega) _ (by rw [bset_s]; exact hg2)) rfl (Nat.le_of_ble_eq_true rfl) rfl ?_
          refine g_al_0 hR dX3_goOffFirst_46 ?_
          refine g_ldc hR dX3_goOffFirst_47 kc_X3_120 ?_
          refine g_al_0 hR dX3_goOffFirst_49 ?_
          refine gf_X3_wentOff hR hk fl_X3_21 dX3_goOffFirst_50 ?_
          refine g_iconst_1 hR dX3_goOffFirst_53 ?_
          refine g_iadd hR dX3_goOffFirst_54 ?_
          refine g_min hR (Nat.le_of_ble_eq_true rfl) ml_X3_121 dX3_goOffFirst_55 (Nat.le_of_ble_eq_true rfl) ?_
          refine g_top (min_held _ _) ?_
          refine pf_X3_wentOff hR hk fl_X3_21 dX3_goOffFirst_58 ?_
          exact hE dX3_goOffFirst_61 (by simp only [hset_e, bset_s, bset_bset]; unfold goF; rw [hfst]; show _ = bset σ k (offF (σ k) n j); unfold offF; rw [halN_lo (by decide), pset_lo (by decide)])
  refine g_iconst_0 hR dX3_goOffFirst_0 ?_
  refine g_is_1 hR dX3_goOffFirst_1 trivial ?_
  exact lp n 0 none (by omega) rfl
set_option maxRecDepth 100000 in
set_option maxHeartbeats 4000000 in
theorem ev_passDay {k n : Nat} {d : Int} (hk : k < 3) (σ : Hp) (hG : Gd (σ k) n d) (hd : d < 99999) : CtV yX3_passDay wX3_passDay 4 [.ref (3 * k + 1)] σ (dayT σ k n) := by
  refine CtV.of (by decide) (Nat.le_of_ble_eq_true rfl) rfl (fun G hR hE => ?_)
  have hn8 := hG.1
  have hd0 : 0 ≤ d := by have := hG.2.2.2.2.2.1; unfold rg at this; omega
  have hb := hG.2.2.2.2.2.2.1
  have hm := Gd_mvF hG (by omega) hd0
  have e1 : (1 : Int32).toInt = 1 := rfl
  have em1 : (-1 : Int32).toInt = -1 := rfl
  have key : ∀ x1, G 59 [some (.ref (3 * k + 1)), x1] [] (bset (wghT σ k (upF (σ k) n) (dnF (σ k) n)) k (mvF (σ k) n)) := by
    intro x1
    generalize hW : wghT σ k (upF (σ k) n) (dnF (σ k) n) = τ
    generalize hM : mvF (σ k) n = M at *
    have lp : ∀ d' j, j + d' = n → G 61 [some (.ref (3 * k + 1)), some (.int (nI j))] [] (bset τ k (ageN M j)) := by
      intro d'
      induction d' with
      | zero =>
        intro j hj
        obtain rfl : j = n := by omega
        have hg := Gd_ageN hm j hn8
        have hg2 := Gd_goF hg
        have hr0 := hG.2.2.2.2.2.1
        have hle : σ k 0 + 1 ≤ 99999 := by rw [i_le]; unfold rg at hr0; have e9 : (99999 : Int32).toInt = 99999 := rfl; rw [i_add (by omega) (by omega)]; omega
        have ed : goF (ageN M j) j 0 = σ k 0 := by rw [goF_lo (by decide), ageN_lo (by decide), ← hM, mvF_0 (by decide) (by decide)]
        refine g_il_1 hR dX3_passDay_61 ?_
        refine g_al_0 hR dX3_passDay_62 ?_
        refine gf_X3_pieceCount hR hk fl_X3_27 dX3_passDay_63 ?_
        refine g_top (show bset τ k (ageN M j) k 1 = nI j by rw [bset_s]; exact hg.2.1) ?_
        refine g_icmp_ge (tgt := 81) hR dX3_passDay_66 (by decide) (fun _ => ?_) (fun hc => absurd (Int32.le_refl _) hc)
        refine g_al_0 hR dX3_passDay_81 ?_
        refine g_cvV hR ciX3_goOffFirst dX3_passDay_82 ml_X3_117 (Nat.le_of_ble_eq_true rfl) (by omega) (lay_w hk) rfl rfl (ev_goOff hk (n := j) (d := d + 1) _ (by rw [bset_s]; exact hg)) rfl (Nat.le_of_ble_eq_true rfl) rfl ?_
        refine g_al_0 hR dX3_passDay_85 ?_
        refine g_ldc hR dX3_passDay_86 kc_X3_120 ?_
        refine g_al_0 hR dX3_passDay_88 ?_
        refine gf_X3_day hR hk fl_X3_18 dX3_passDay_89 ?_
        refine g_iconst_1 hR dX3_passDay_92 ?_
        refine g_iadd hR dX3_passDay_93 ?_
        refine g_min hR (Nat.le_of_ble_eq_true rfl) ml_X3_121 dX3_passDay_94 (Nat.le_of_ble_eq_true rfl) ?_
        refine g_top (min_held _ _) ?_
        refine pf_X3_day hR hk fl_X3_18 dX3_passDay_97 ?_
        exact hE dX3_passDay_100 (by simp only [hset_e, bset_s, bset_bset]; rw [ed, held_go hle]; unfold dayT dayF; rw [hW, hM])
      | succ d' ih =>
        intro j hj
        have hg := Gd_ageN hm j (by omega)
        refine g_il_1 hR dX3_passDay_61 ?_
        refine g_al_0 hR dX3_passDay_62 ?_
        refine gf_X3_pieceCount hR hk fl_X3_27 dX3_passDay_63 ?_
        refine g_top (show bset τ k (ageN M j) k 1 = nI n by rw [bset_s]; exact hg.2.1) ?_
        refine g_icmp_ge (tgt := 81) hR dX3_passDay_66 (by decide) (fun hc => absurd hc (nI_ge (by omega) (by omega))) (fun _ => ?_)
        refine g_al_0 hR dX3_passDay_69 ?_
        refine g_il_1 hR dX3_passDay_70 ?_
        refine g_iconst_4 hR dX3_passDay_71 ?_
        refine g_cvV hR ciX3_raiseFact dX3_passDay_72 ml_X3_113 (Nat.le_of_ble_eq_true rfl) (by omega) (lay_w hk) rfl rfl (ev_raise hk (p := j) (w := 4) (by omega) (by decide) (by decide) _ (by rw [bset_s]; exact hg.2.2.1 j 4 (by omega) (by decide))) rfl (Nat.le_of_ble_eq_true rfl) rfl ?_
        refine g_inc_1 hR dX3_passDay_75 trivial ?_
        refine g_goto (tgt := 61) hR dX3_passDay_78 (by decide) ?_
        rw [bset_s, bset_bset]
        exact ih (j + 1) (by omega)
    refine g_iconst_0 hR dX3_passDay_59 ?_
    refine g_is_1 hR dX3_passDay_60 trivial ?_
    exact lp n 0 (by omega)
  have h' := Gd_mono hG (show d ≤ d + 1 by omega)
  refine g_al_0 hR dX3_passDay_0 ?_
  refine g_cvV hR ciX3_weigh dX3_passDay_1 ml_X3_107 (Nat.le_of_ble_eq_true rfl) (by omega) (lay_w hk) rfl rfl (ev_weigh hk σ hG (by omega)) rfl (Nat.le_of_ble_eq_true rfl) rfl ?_
  refine g_al_0 hR dX3_passDay_4 ?_
  refine gf_X3_up hR hk fl_X3_33 dX3_passDay_5 ?_
  refine g_top wgh_u ?_
  refine g_al_0 hR dX3_passDay_8 ?_
  refine gf_X3_down hR hk fl_X3_36 dX3_passDay_9 ?_
  refine g_top wgh_d ?_
  refine g_al_0 hR dX3_passDay_12 ?_
  refine gf_X3_drag hR hk fl_X3_15 dX3_passDay_13 ?_
  refine g_iadd hR dX3_passDay_16 ?_
  refine g_icmp_le (tgt := 33) hR dX3_passDay_17 (by decide) (fun h1 => ?_) (fun h1 => ?_)
  · rw [wgh_k hk] at h1
    refine g_al_0 hR dX3_passDay_33 ?_
    refine gf_X3_down hR hk fl_X3_36 dX3_passDay_34 ?_
    refine g_top wgh_d ?_
    refine g_al_0 hR dX3_passDay_37 ?_
    refine gf_X3_up hR hk fl_X3_33 dX3_passDay_38 ?_
    refine g_top wgh_u ?_
    refine g_al_0 hR dX3_passDay_41 ?_
    refine gf_X3_drag hR hk fl_X3_15 dX3_passDay_42 ?_
    refine g_iadd hR dX3_passDay_45 ?_
    refine g_icmp_le (tgt := 59) hR dX3_passDay_46 (by decide) (fun h2 => ?_) (fun h2 => ?_)
    · rw [wgh_k hk] at h2
      have em : mvF (σ k) n = σ k := by unfold mvF; rw [if_neg (Int32.not_lt.mpr h1), if_neg (Int32.not_lt.mpr h2)]
      have := key none
      rw [em] at this
      rw [wgh_id hk] at this
      exact this
    · rw [wgh_k hk] at h2
      have em : mvF (σ k) n = arrN (upd (σ k) 2 (σ k 2 + -1)) n := by unfold mvF; rw [if_neg (Int32.not_lt.mpr h1), if_pos (Int32.not_le.mp h2)]
      have := key none
      rw [em] at this
      refine g_al_0 hR dX3_passDay_49 ?_
      refine g_al_0 hR dX3_passDay_50 ?_
      refine gf_X3_at hR hk fl_X3_9 dX3_passDay_51 ?_
      refine g_iconst_1 hR dX3_passDay_54 ?_
      refine g_isub hR dX3_passDay_55 ?_
      refine g_top (show wghT σ k (upF (σ k) n) (dnF (σ k) n) k 2 - 1 = σ k 2 + -1 by rw [wgh_k hk, Int32.sub_eq_add_neg]) ?_
      refine g_cvV hR ciX3_moveTo dX3_passDay_56 ml_X3_110 (Nat.le_of_ble_eq_true rfl) (by omega) (lay_w hk) rfl rfl (ev_moveTo hk (n := n) (d := d + 1) (σ k 2 + -1) _ (by rw [wgh_k hk]; exact Gd_ball h' (by rw [i_add (by omega) (by omega)]; omega) (by rw [i_add (by omega) (by omega)]; omega))) rfl (Nat.le_of_ble_eq_true rfl) rfl ?_
      rw [wgh_k hk]
      exact this
  · rw [wgh_k hk] at h1
    have em : mvF (σ k) n = arrN (upd (σ k) 2 (σ k 2 + 1)) n := by unfold mvF; rw [if_pos (Int32.not_le.mp h1)]
    have := key none
    rw [em] at this
    refine g_al_0 hR dX3_passDay_20 ?_
    refine g_al_0 hR dX3_passDay_21 ?_
    refine gf_X3_at hR hk fl_X3_9 dX3_passDay_22 ?_
    refine g_iconst_1 hR dX3_passDay_25 ?_
    refine g_iadd hR dX3_passDay_26 ?_
    refine g_top (show wghT σ k (upF (σ k) n) (dnF (σ k) n) k 2 + 1 = σ k 2 + 1 by rw [wgh_k hk]) ?_
    refine g_cvV hR ciX3_moveTo dX3_passDay_27 ml_X3_110 (Nat.le_of_ble_eq_true rfl) (by omega) (lay_w hk) rfl rfl (ev_moveTo hk (n := n) (d := d + 1) (σ k 2 + 1) _ (by rw [wgh_k hk]; exact Gd_ball h' (by rw [i_add (by omega) (by omega)]; omega) (by rw [i_add (by omega) (by omega)]; omega))) rfl (Nat.le_of_ble_eq_true rfl) rfl ?_
    refine g_goto (tgt := 59) hR dX3_passDay_30 (by decide) ?_
    rw [wgh_k hk]
    exact this
set_option maxRecDepth 100000 in
set_option maxHeartbeats 4000000 in
theorem ev_passDays {k n c : Nat} {d : Int} (hk : k < 3) (σ : Hp) (hG : Gd (σ k) n d) (hd : d + c ≤ 99999) (hc : c < 1000) : CtV yX3_passDays wX3_passDays 5 [.ref (3 * k + 1), .int (nI c)] σ (daysT σ k n c) := by
  refine CtV.of (by decide) (Nat.le_of_ble_eq_true rfl) rfl (fun G hR hE => ?_)
  have lp : ∀ d' j, j + d' = c → G 2 [some (.ref (3 * k + 1)), some (.int (nI c)), some (.int (nI j))] [] (daysT σ k n j) := by
    intro d'
    induction d' with
    | zero =>
      intro j hj
      obtain rfl : j = c := by omega
      refine g_il_2 hR dX3_passDays_2 ?_
      refine g_il_1 hR dX3_passDays_3 ?_
      refine g_icmp_ge (tgt := 17) hR dX3_passDays_4 (by decide) (fun _ => ?_) (fun hc => absurd (Int32.le_refl _) hc)
      exact hE dX3_passDays_17 (rfl)
    | succ d' ih =>
      intro j hj
      refine g_il_2 hR dX3_passDays_2 ?_
      refine g_il_1 hR dX3_passDays_3 ?_
      refine g_icmp_ge (tgt := 17) hR dX3_passDays_4 (by decide) (fun hc => absurd hc (nI_ge (by omega) (by omega))) (fun _ => ?_)
      refine g_al_0 hR dX3_passDays_7 ?_
      refine g_cvV hR ciX3_passDay dX3_passDays_8 ml_X3_104 (Nat.le_of_ble_eq_true rfl) (by omega) (lay_w hk) rfl rfl (ev_passDay hk (n := n) (d := d + j) _ (by rw [daysT_k]; exact Gd_daysF hG j (by omega)) (by omega)) rfl (Nat.le_of_ble_eq_true rfl) rfl ?_
      refine g_inc_2 hR dX3_passDays_11 trivial ?_
      refine g_goto (tgt := 2) hR dX3_passDays_14 (by decide) ?_
      exact ih (j + 1) (by omega)
  refine g_iconst_0 hR dX3_passDays_0 ?_
  refine g_is_2 hR dX3_passDays_1 trivial ?_
  exact lp c 0 (by omega)
