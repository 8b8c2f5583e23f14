set_option maxRecDepth 100000 in
set_option maxHeartbeats 4000000 in
theorem em_feltAt {n : Nat} {d : Int} (to : Int32) (σ : Hp) (hG : Gd (σ 4) n d) : CtI yX5_feltAt wX5_feltAt 4 [.ref 18, .int to] σ (tooF (σ 4) n to) (σ) := by
  refine CtI.of (by decide) (Nat.le_of_ble_eq_true rfl) rfl rfl (fun G hR hE => ?_)
  have hn8 := hG.1
  have lp : ∀ d' j, j + d' = n → G 4 [some (.ref 18), some (.int to), some (.int (sumN (fun p => if pf (σ 4) p 1 = to then fltF (σ 4) n p else 0) j)), some (.int (nI j))] [] σ := by
    intro d'
    induction d' with
    | zero =>
      intro j hj
      obtain rfl : j = n := by omega
      refine g_il_3 hR dX5_feltAt_4 ?_
      refine g_al_0 hR dX5_feltAt_5 ?_
      refine gf_X5_s hR fl_X5_7 dX5_feltAt_6 ?_
      refine g_iconst_1 hR dX5_feltAt_9 ?_
      refine ga_19 hR 1 (by decide) rfl dX5_feltAt_10 ?_
      refine g_top hG.2.1 ?_
      refine g_icmp_ge (tgt := 42) hR dX5_feltAt_11 (by decide) (fun _ => ?_) (fun hc => absurd (Int32.le_refl _) hc)
      refine g_il_2 hR dX5_feltAt_42 ?_
      exact hE dX5_feltAt_43 (rfl) (rfl)
    | succ d' ih =>
      intro j hj
      have e0 := ih (j + 1) (by omega)
      refine g_il_3 hR dX5_feltAt_4 ?_
      refine g_al_0 hR dX5_feltAt_5 ?_
      refine gf_X5_s hR fl_X5_7 dX5_feltAt_6 ?_
      refine g_iconst_1 hR dX5_feltAt_9 ?_
      refine ga_19 hR 1 (by decide) rfl dX5_feltAt_10 ?_
      refine g_top hG.2.1 ?_
      refine g_icmp_ge (tgt := 42) hR dX5_feltAt_11 (by decide) (fun hc => absurd hc (nI_ge (by omega) (by omega))) (fun _ => ?_)
      refine g_il_2 hR dX5_feltAt_14 ?_
      refine g_al_0 hR dX5_feltAt_15 ?_
      refine g_il_3 hR dX5_feltAt_16 ?_
      refine g_iconst_1 hR dX5_feltAt_17 ?_
      refine g_cvI hR ciX5_its dX5_feltAt_18 ml_X5_73 (Nat.le_of_ble_eq_true rfl) (by decide) rfl rfl rfl (em_its (p := j) (w := 1) (by omega) (by decide) σ) rfl (Nat.le_of_ble_eq_true rfl) rfl ?_
      refine g_il_1 hR dX5_feltAt_21 ?_
      refine g_icmp_ne (tgt := 33) hR dX5_feltAt_22 (by decide) (fun h1 => ?_) (fun h1 => ?_)
      · refine g_iconst_0 hR dX5_feltAt_33 ?_
        refine g_iadd hR dX5_feltAt_34 ?_
        refine g_is_2 hR dX5_feltAt_35 trivial ?_
        refine g_inc_3 hR dX5_feltAt_36 trivial ?_
        refine g_goto (tgt := 4) hR dX5_feltAt_39 (by decide) ?_
        rw [sumN, if_neg h1] at e0
        exact e0
      · refine g_al_0 hR dX5_feltAt_25 ?_
        refine g_il_3 hR dX5_feltAt_26 ?_
        refine g_cvI hR ciX5_feltOf dX5_feltAt_27 ml_X5_103 (Nat.le_of_ble_eq_true rfl) (by decide) rfl rfl rfl (em_feltOf (p := j) (by omega) σ hG) rfl (Nat.le_of_ble_eq_true rfl) rfl ?_
        refine g_goto (tgt := 34) hR dX5_feltAt_30 (by decide) ?_
        refine g_iadd hR dX5_feltAt_34 ?_
        refine g_is_2 hR dX5_feltAt_35 trivial ?_
        refine g_inc_3 hR dX5_feltAt_36 trivial ?_
        refine g_goto (tgt := 4) hR dX5_feltAt_39 (by decide) ?_
        rw [sumN, if_pos h1] at e0
        exact e0
  refine g_iconst_0 hR dX5_feltAt_0 ?_
  refine g_is_2 hR dX5_feltAt_1 trivial ?_
  refine g_iconst_0 hR dX5_feltAt_2 ?_
  refine g_is_3 hR dX5_feltAt_3 trivial ?_
  exact lp n 0 (by omega)
set_option maxRecDepth 100000 in
set_option maxHeartbeats 4000000 in
theorem em_pullUp {n : Nat} {d : Int} (σ : Hp) (hG : Gd (σ 4) n d) (hd : d < 1000000) : CtI yX5_pull wX5_pull 4 [.ref 18, .int 1] σ (upF (σ 4) n) (σ) := by
  refine CtI.of (by decide) (Nat.le_of_ble_eq_true rfl) rfl rfl (fun G hR hE => ?_)
  have hn8 := hG.1
  have hb : -2000000 ≤ (σ 4 2).toInt ∧ (σ 4 2).toInt ≤ 2000000 := ⟨by have := hG.2.2.2.2.2.2.1; omega, by have := hG.2.2.2.2.2.2.1; omega⟩
  have lp : ∀ d' j x4, j + d' = n → G 4 [some (.ref 18), some (.int 1), some (.int (sumN (fun p => if σ 4 2 < pf (σ 4) p 1 then fltF (σ 4) n p else 0) j)), some (.int (nI j)), x4] [] σ := by
    intro d'
    induction d' with
    | zero =>
      intro j x4 hj
      obtain rfl : j = n := by omega
      refine g_il_3 hR dX5_pull_4 ?_
      refine g_al_0 hR dX5_pull_5 ?_
      refine gf_X5_s hR fl_X5_7 dX5_pull_6 ?_
      refine g_iconst_1 hR dX5_pull_9 ?_
      refine ga_19 hR 1 (by decide) rfl dX5_pull_10 ?_
      refine g_top hG.2.1 ?_
      refine g_icmp_ge (tgt := 54) hR dX5_pull_11 (by decide) (fun _ => ?_) (fun hc => absurd (Int32.le_refl _) hc)
      refine g_il_2 hR dX5_pull_54 ?_
      exact hE dX5_pull_55 (rfl) (rfl)
    | succ d' ih =>
      intro j x4 hj
      have e0 := fun x => ih (j + 1) x (by omega)
      have hr := hG.2.2.1 j 1 (by omega) (by decide)
      refine g_il_3 hR dX5_pull_4 ?_
      refine g_al_0 hR dX5_pull_5 ?_
      refine gf_X5_s hR fl_X5_7 dX5_pull_6 ?_
      refine g_iconst_1 hR dX5_pull_9 ?_
      refine ga_19 hR 1 (by decide) rfl dX5_pull_10 ?_
      refine g_top hG.2.1 ?_
      refine g_icmp_ge (tgt := 54) hR dX5_pull_11 (by decide) (fun hc => absurd hc (nI_ge (by omega) (by omega))) (fun _ => ?_)
      refine g_al_0 hR dX5_pull_14 ?_
      refine g_il_3 hR dX5_pull_15 ?_
      refine g_iconst_1 hR dX5_pull_16 ?_
      refine g_cvI hR ciX5_its dX5_pull_17 ml_X5_73 (Nat.le_of_ble_eq_true rfl) (by decide) rfl rfl rfl (em_its (p := j) (w := 1) (by omega) (by decide) σ) rfl (Nat.le_of_ble_eq_true rfl) rfl ?_
      refine g_al_0 hR dX5_pull_20 ?_
      refine gf_X5_s hR fl_X5_7 dX5_pull_21 ?_
      refine g_iconst_2 hR dX5_pull_24 ?_
      refine ga_19 hR 2 (by decide) rfl dX5_pull_25 ?_
      refine g_isub hR dX5_pull_26 ?_
      refine g_is_4 hR dX5_pull_27 trivial ?_
      refine g_il_2 hR dX5_pull_29 ?_
      refine g_il_4 hR dX5_pull_30 ?_
      refine g_il_1 hR dX5_pull_32 ?_
      refine g_imul hR dX5_pull_33 ?_
      refine g_if_le (tgt := 45) hR dX5_pull_34 (by decide) (fun h1 => ?_) (fun h1 => ?_)
      · rw [up_c hr hb] at h1
        refine g_iconst_0 hR dX5_pull_45 ?_
        refine g_iadd hR dX5_pull_46 ?_
        refine g_is_2 hR dX5_pull_47 trivial ?_
        refine g_inc_3 hR dX5_pull_48 trivial ?_
        refine g_goto (tgt := 4) hR dX5_pull_51 (by decide) ?_
        rw [sumN, if_neg h1] at e0
        exact e0 _
      · rw [up_c hr hb, Classical.not_not] at h1
        refine g_al_0 hR dX5_pull_37 ?_
        refine g_il_3 hR dX5_pull_38 ?_
        refine g_cvI hR ciX5_feltOf dX5_pull_39 ml_X5_103 (Nat.le_of_ble_eq_true rfl) (by decide) rfl rfl rfl (em_feltOf (p := j) (by omega) σ hG) rfl (Nat.le_of_ble_eq_true rfl) rfl ?_
        refine g_goto (tgt := 46) hR dX5_pull_42 (by decide) ?_
        refine g_iadd hR dX5_pull_46 ?_
        refine g_is_2 hR dX5_pull_47 trivial ?_
        refine g_inc_3 hR dX5_pull_48 trivial ?_
        refine g_goto (tgt := 4) hR dX5_pull_51 (by decide) ?_
        rw [sumN, if_pos h1] at e0
        exact e0 _
  refine g_iconst_0 hR dX5_pull_0 ?_
  refine g_is_2 hR dX5_pull_1 trivial ?_
  refine g_iconst_0 hR dX5_pull_2 ?_
  refine g_is_3 hR dX5_pull_3 trivial ?_
  exact lp n 0 none (by omega)
set_option maxRecDepth 100000 in
set_option maxHeartbeats 4000000 in
theorem em_pullDn {n : Nat} {d : Int} (σ : Hp) (hG : Gd (σ 4) n d) (hd : d < 1000000) : CtI yX5_pull wX5_pull 4 [.ref 18, .int (-1)] σ (dnF (σ 4) n) (σ) := by
  refine CtI.of (by decide) (Nat.le_of_ble_eq_true rfl) rfl rfl (fun G hR hE => ?_)
  have hn8 := hG.1
  have hb : -2000000 ≤ (σ 4 2).toInt ∧ (σ 4 2).toInt ≤ 2000000 := ⟨by have := hG.2.2.2.2.2.2.1; omega, by have := hG.2.2.2.2.2.2.1; omega⟩
  have lp : ∀ d' j x4, j + d' = n → G 4 [some (.ref 18), some (.int (-1)), some (.int (sumN (fun p => if pf (σ 4) p 1 < σ 4 2 then fltF (σ 4) n p else 0) j)), some (.int (nI j)), x4] [] σ := by
    intro d'
    induction d' with
    | zero =>
      intro j x4 hj
      obtain rfl : j = n := by omega
      refine g_il_3 hR dX5_pull_4 ?_
      refine g_al_0 hR dX5_pull_5 ?_
      refine gf_X5_s hR fl_X5_7 dX5_pull_6 ?_
      refine g_iconst_1 hR dX5_pull_9 ?_
      refine ga_19 hR 1 (by decide) rfl dX5_pull_10 ?_
      refine g_top hG.2.1 ?_
      refine g_icmp_ge (tgt := 54) hR dX5_pull_11 (by decide) (fun _ => ?_) (fun hc => absurd (Int32.le_refl _) hc)
      refine g_il_2 hR dX5_pull_54 ?_
      exact hE dX5_pull_55 (rfl) (rfl)
    | succ d' ih =>
      intro j x4 hj
      have e0 := fun x => ih (j + 1) x (by omega)
      have hr := hG.2.2.1 j 1 (by omega) (by decide)
      refine g_il_3 hR dX5_pull_4 ?_
      refine g_al_0 hR dX5_pull_5 ?_
      refine gf_X5_s hR fl_X5_7 dX5_pull_6 ?_
      refine g_iconst_1 hR dX5_pull_9 ?_
      refine ga_19 hR 1 (by decide) rfl dX5_pull_10 ?_
      refine g_top hG.2.1 ?_
      refine g_icmp_ge (tgt := 54) hR dX5_pull_11 (by decide) (fun hc => absurd hc (nI_ge (by omega) (by omega))) (fun _ => ?_)
      refine g_al_0 hR dX5_pull_14 ?_
      refine g_il_3 hR dX5_pull_15 ?_
      refine g_iconst_1 hR dX5_pull_16 ?_
      refine g_cvI hR ciX5_its dX5_pull_17 ml_X5_73 (Nat.le_of_ble_eq_true rfl) (by decide) rfl rfl rfl (em_its (p := j) (w := 1) (by omega) (by decide) σ) rfl (Nat.le_of_ble_eq_true rfl) rfl ?_
      refine g_al_0 hR dX5_pull_20 ?_
      refine gf_X5_s hR fl_X5_7 dX5_pull_21 ?_
      refine g_iconst_2 hR dX5_pull_24 ?_
      refine ga_19 hR 2 (by decide) rfl dX5_pull_25 ?_
      refine g_isub hR dX5_pull_26 ?_
      refine g_is_4 hR dX5_pull_27 trivial ?_
      refine g_il_2 hR dX5_pull_29 ?_
      refine g_il_4 hR dX5_pull_30 ?_
      refine g_il_1 hR dX5_pull_32 ?_
      refine g_imul hR dX5_pull_33 ?_
      refine g_if_le (tgt := 45) hR dX5_pull_34 (by decide) (fun h1 => ?_) (fun h1 => ?_)
      · rw [dn_c hr hb] at h1
        refine g_iconst_0 hR dX5_pull_45 ?_
        refine g_iadd hR dX5_pull_46 ?_
        refine g_is_2 hR dX5_pull_47 trivial ?_
        refine g_inc_3 hR dX5_pull_48 trivial ?_
        refine g_goto (tgt := 4) hR dX5_pull_51 (by decide) ?_
        rw [sumN, if_neg h1] at e0
        exact e0 _
      · rw [dn_c hr hb, Classical.not_not] at h1
        refine g_al_0 hR dX5_pull_37 ?_
        refine g_il_3 hR dX5_pull_38 ?_
        refine g_cvI hR ciX5_feltOf dX5_pull_39 ml_X5_103 (Nat.le_of_ble_eq_true rfl) (by decide) rfl rfl rfl (em_feltOf (p := j) (by omega) σ hG) rfl (Nat.le_of_ble_eq_true rfl) rfl ?_
        refine g_goto (tgt := 46) hR dX5_pull_42 (by decide) ?_
        refine g_iadd hR dX5_pull_46 ?_
        refine g_is_2 hR dX5_pull_47 trivial ?_
        refine g_inc_3 hR dX5_pull_48 trivial ?_
        refine g_goto (tgt := 4) hR dX5_pull_51 (by decide) ?_
        rw [sumN, if_pos h1] at e0
        exact e0 _
  refine g_iconst_0 hR dX5_pull_0 ?_
  refine g_is_2 hR dX5_pull_1 trivial ?_
  refine g_iconst_0 hR dX5_pull_2 ?_
  refine g_is_3 hR dX5_pull_3 trivial ?_
  exact lp n 0 none (by omega)
set_option maxRecDepth 100000 in
set_option maxHeartbeats 4000000 in
theorem em_arrives {n : Nat} {d : Int} (σ : Hp) (hG : Gd (σ 4) n d) : CtV yX5_arrives wX5_arrives 2 [.ref 18] σ (bset σ 4 (arrN (σ 4) n)) := by
  refine CtV.of (by decide) (Nat.le_of_ble_eq_true rfl) rfl (fun G hR hE => ?_)
  have hn8 := hG.1
  have lp : ∀ d' j, j + d' = n → G 2 [some (.ref 18), some (.int (nI j))] [] (bset σ 4 (arrN (σ 4) j)) := by
    intro d'
    induction d' with
    | zero =>
      intro j hj
      obtain rfl : j = n := by omega
      have hg := Gd_arrN hG j hn8
      refine g_il_1 hR dX5_arrives_2 ?_
      refine g_al_0 hR dX5_arrives_3 ?_
      refine gf_X5_s hR fl_X5_7 dX5_arrives_4 ?_
      refine g_iconst_1 hR dX5_arrives_7 ?_
      refine ga_19 hR 1 (by decide) rfl dX5_arrives_8 ?_
      refine g_top (show bset σ 4 (arrN (σ 4) j) 4 1 = nI j by rw [bset_s]; exact hg.2.1) ?_
      refine g_icmp_ge (tgt := 80) hR dX5_arrives_9 (by decide) (fun _ => ?_) (fun hc => absurd (Int32.le_refl _) hc)
      exact hE dX5_arrives_80 (rfl)
    | succ d' ih =>
      intro j hj
      have hg := Gd_arrN hG j (by omega)
      have e0 := ih (j + 1) (by omega)
      rw [arrN, arr1] at e0
      generalize arrN (σ 4) j = T at *
      refine g_il_1 hR dX5_arrives_2 ?_
      refine g_al_0 hR dX5_arrives_3 ?_
      refine gf_X5_s hR fl_X5_7 dX5_arrives_4 ?_
      refine g_iconst_1 hR dX5_arrives_7 ?_
      refine ga_19 hR 1 (by decide) rfl dX5_arrives_8 ?_
      refine g_top (show bset σ 4 T 4 1 = nI n by rw [bset_s]; exact hg.2.1) ?_
      refine g_icmp_ge (tgt := 80) hR dX5_arrives_9 (by decide) (fun hc => absurd hc (nI_ge (by omega) (by omega))) (fun _ => ?_)
      refine g_al_0 hR dX5_arrives_12 ?_
      refine g_il_1 hR dX5_arrives_13 ?_
      refine g_iconst_1 hR dX5_arrives_14 ?_
      refine g_cvI hR ciX5_its dX5_arrives_15 ml_X5_73 (Nat.le_of_ble_eq_true rfl) (by decide) rfl rfl rfl (em_its (p := j) (w := 1) (by omega) (by decide) _) rfl (Nat.le_of_ble_eq_true rfl) rfl ?_
      refine g_al_0 hR dX5_arrives_18 ?_
      refine gf_X5_s hR fl_X5_7 dX5_arrives_19 ?_
      refine g_iconst_2 hR dX5_arrives_22 ?_
      refine ga_19 hR 2 (by decide) rfl dX5_arrives_23 ?_
      refine g_icmp_ne (tgt := 74) hR dX5_arrives_24 (by decide) (fun h1 => ?_) (fun h1 => ?_)
      · rw [bset_s] at h1
        refine g_inc_1 hR dX5_arrives_74 trivial ?_
        refine g_goto (tgt := 2) hR dX5_arrives_77 (by decide) ?_
        rw [if_neg h1] at e0
        exact e0
      · rw [bset_s] at h1
        refine g_al_0 hR dX5_arrives_27 ?_
        refine gf_X5_s hR fl_X5_7 dX5_arrives_28 ?_
        refine g_il_1 hR dX5_arrives_31 ?_
        refine g_iconst_5 hR dX5_arrives_32 ?_
        refine g_csI hR ciX5_place dX5_arrives_33 ml_X5_49 (Nat.le_of_ble_eq_true rfl) (em_place j 5 _) rfl (Nat.le_of_ble_eq_true rfl) rfl ?_
        refine g_al_0 hR dX5_arrives_36 ?_
        refine g_il_1 hR dX5_arrives_37 ?_
        refine g_iconst_5 hR dX5_arrives_38 ?_
        refine g_cvI hR ciX5_its dX5_arrives_39 ml_X5_73 (Nat.le_of_ble_eq_true rfl) (by decide) rfl rfl rfl (em_its (p := j) (w := 5) (by omega) (by decide) _) rfl (Nat.le_of_ble_eq_true rfl) rfl ?_
        refine g_iconst_1 hR dX5_arrives_42 ?_
        refine g_iadd hR dX5_arrives_43 ?_
        refine g_sipush_9999 hR dX5_arrives_44 ?_
        refine g_csI hR ciX5_heldTo dX5_arrives_47 ml_X5_120 (Nat.le_of_ble_eq_true rfl) (em_heldTo _ _ _) rfl (Nat.le_of_ble_eq_true rfl) rfl ?_
        refine gs_19 hR (6 + (6 * j + 5)) (by omega) rfl dX5_arrives_50 ?_
        refine g_al_0 hR dX5_arrives_51 ?_
        refine gf_X5_s hR fl_X5_7 dX5_arrives_52 ?_
        refine g_il_1 hR dX5_arrives_55 ?_
        refine g_iconst_3 hR dX5_arrives_56 ?_
        refine g_csI hR ciX5_place dX5_arrives_57 ml_X5_49 (Nat.le_of_ble_eq_true rfl) (em_place j 3 _) rfl (Nat.le_of_ble_eq_true rfl) rfl ?_
        refine g_al_0 hR dX5_arrives_60 ?_
        refine g_il_1 hR dX5_arrives_61 ?_
        refine g_iconst_3 hR dX5_arrives_62 ?_
        refine g_cvI hR ciX5_its dX5_arrives_63 ml_X5_73 (Nat.le_of_ble_eq_true rfl) (by decide) rfl rfl rfl (em_its (p := j) (w := 3) (by omega) (by decide) _) rfl (Nat.le_of_ble_eq_true rfl) rfl ?_
        refine g_iconst_1 hR dX5_arrives_66 ?_
        refine g_iadd hR dX5_arrives_67 ?_
        refine g_bipush_9 hR dX5_arrives_68 ?_
        refine g_csI hR ciX5_heldTo dX5_arrives_70 ml_X5_120 (Nat.le_of_ble_eq_true rfl) (em_heldTo _ _ _) rfl (Nat.le_of_ble_eq_true rfl) rfl ?_
        refine gs_19 hR (6 + (6 * j + 3)) (by omega) rfl dX5_arrives_73 ?_
        refine g_inc_1 hR dX5_arrives_74 trivial ?_
        refine g_goto (tgt := 2) hR dX5_arrives_77 (by decide) ?_
        rw [if_pos h1] at e0
        simp only [hset_e, bset_s, bset_bset]
        rw [show pf (upd T (6 + (6 * j + 5)) (heldF (pf T j 5 + 1) 9999)) j 3 = pf T j 3 from (pf_pset T j j 5 3 _ (by decide) (by decide)).trans (if_neg (by omega))]
        exact e0
  refine g_iconst_0 hR dX5_arrives_0 ?_
  refine g_is_1 hR dX5_arrives_1 trivial ?_
  refine g_eq (τ := bset σ 4 (arrN (σ 4) 0)) (bset_id σ 4).symm ?_
  exact lp n 0 (by omega)
set_option maxRecDepth 100000 in
set_option maxHeartbeats 4000000 in
theorem em_goesOff {n p : Nat} {d : Int} (hp : p < n) (σ : Hp) (hG : Gd (σ 4) n d) : CtV yX5_goesOff wX5_goesOff 2 [.ref 18, .int (nI p)] σ (bset σ 4 (offF (σ 4) n p)) := by
  refine CtV.of (by decide) (Nat.le_of_ble_eq_true rfl) rfl (fun G hR hE => ?_)
  have hn8 := hG.1
  have hG2 := Gd_pset hG (show p < 8 by omega) (show 4 < 6 by decide) (v := 0) ⟨by decide, by decide⟩
  have e4 : ∀ c, halN (pset (σ 4) p 4 0) (p + 1) c 4 = σ 4 4 := fun c => by rw [halN_lo (by decide), pset_lo (by decide)]
  have eo : offF (σ 4) n p = upd (halN (pset (σ 4) p 4 0) (p + 1) (n - (p + 1))) 4 (heldF (σ 4 4 + 1) 99999) := rfl
  rw [eo] at hE
  have lp : ∀ d' c, p + 1 + c + d' = n → G 15 [some (.ref 18), some (.int (nI p)), some (.int (nI (p + 1 + c)))] [] (bset σ 4 (halN (pset (σ 4) p 4 0) (p + 1) c)) := by
    intro d'
    induction d' with
    | zero =>
      intro c hc
      have hg := Gd_halN (a := p + 1) hG2 c (by omega)
      obtain rfl : c = n - (p + 1) := by omega
      refine g_il_2 hR dX5_goesOff_15 ?_
      refine g_al_0 hR dX5_goesOff_16 ?_
      refine gf_X5_s hR fl_X5_7 dX5_goesOff_17 ?_
      refine g_iconst_1 hR dX5_goesOff_20 ?_
      refine ga_19 hR 1 (by decide) rfl dX5_goesOff_21 ?_
      refine g_top (show bset σ 4 (halN (pset (σ 4) p 4 0) (p + 1) (n - (p + 1))) 4 1 = nI n by rw [bset_s]; exact hg.2.1) ?_
      refine g_icmp_ge (tgt := 63) hR dX5_goesOff_22 (by decide) (fun _ => ?_) (fun hc => absurd (nI_le (by omega) (by omega)) hc)
      refine g_al_0 hR dX5_goesOff_63 ?_
      refine gf_X5_s hR fl_X5_7 dX5_goesOff_64 ?_
      refine g_iconst_4 hR dX5_goesOff_67 ?_
      refine g_al_0 hR dX5_goesOff_68 ?_
      refine gf_X5_s hR fl_X5_7 dX5_goesOff_69 ?_
      refine g_iconst_4 hR dX5_goesOff_72 ?_
      refine ga_19 hR 4 (by decide) rfl dX5_goesOff_73 ?_
      refine g_iconst_1 hR dX5_goesOff_74 ?_
      refine g_iadd hR dX5_goesOff_75 ?_
      refine g_ldc hR dX5_goesOff_76 kc_X5_123 ?_
      refine g_csI hR ciX5_heldTo dX5_goesOff_78 ml_X5_120 (Nat.le_of_ble_eq_true rfl) (em_heldTo _ _ _) rfl (Nat.le_of_ble_eq_true rfl) rfl ?_
      refine gs_19 hR 4 (by decide) rfl dX5_goesOff_81 ?_
      exact hE dX5_goesOff_82 (by simp only [hset_e, bset_s, bset_bset]; rw [e4])
    | succ d' ih =>
      intro c hc
      have hg := Gd_halN (a := p + 1) hG2 c (by omega)
      have e0 := ih (c + 1) (by omega)
      rw [halN, hal1] at e0
      generalize halN (pset (σ 4) p 4 0) (p + 1) c = T at *
      refine g_il_2 hR dX5_goesOff_15 ?_
      refine g_al_0 hR dX5_goesOff_16 ?_
      refine gf_X5_s hR fl_X5_7 dX5_goesOff_17 ?_
      refine g_iconst_1 hR dX5_goesOff_20 ?_
      refine ga_19 hR 1 (by decide) rfl dX5_goesOff_21 ?_
      refine g_top (show bset σ 4 T 4 1 = nI n by rw [bset_s]; exact hg.2.1) ?_
      refine g_icmp_ge (tgt := 63) hR dX5_goesOff_22 (by decide) (fun hc => absurd hc (nI_ge (by omega) (by omega))) (fun _ => ?_)
      refine g_al_0 hR dX5_goesOff_25 ?_
      refine gf_X5_s hR fl_X5_7 dX5_goesOff_26 ?_
      refine g_il_2 hR dX5_goesOff_29 ?_
      refine g_iconst_2 hR dX5_goesOff_30 ?_
      refine g_csI hR ciX5_place dX5_goesOff_31 ml_X5_49 (Nat.le_of_ble_eq_true rfl) (em_place (p + 1 + c) 2 _) rfl (Nat.le_of_ble_eq_true rfl) rfl ?_
      refine g_al_0 hR dX5_goesOff_34 ?_
      refine g_il_2 hR dX5_goesOff_35 ?_
      refine g_iconst_2 hR dX5_goesOff_36 ?_
      refine g_cvI hR ciX5_its dX5_goesOff_37 ml_X5_73 (Nat.le_of_ble_eq_true rfl) (by decide) rfl rfl rfl (em_its (p := p + 1 + c) (w := 2) (by omega) (by decide) _) rfl (Nat.le_of_ble_eq_true rfl) rfl ?_
      refine g_iconst_2 hR dX5_goesOff_40 ?_
      refine g_icmp_ge (tgt := 48) hR dX5_goesOff_41 (by decide) (fun h1 => ?_) (fun h1 => ?_)
      · refine g_al_0 hR dX5_goesOff_48 ?_
        refine g_il_2 hR dX5_goesOff_49 ?_
        refine g_iconst_2 hR dX5_goesOff_50 ?_
        refine g_cvI hR ciX5_its dX5_goesOff_51 ml_X5_73 (Nat.le_of_ble_eq_true rfl) (by decide) rfl rfl rfl (em_its (p := p + 1 + c) (w := 2) (by omega) (by decide) _) rfl (Nat.le_of_ble_eq_true rfl) rfl ?_
        refine g_iconst_2 hR dX5_goesOff_54 ?_
        refine g_idiv hR dX5_goesOff_55 (by decide) ?_
        refine gs_19 hR (6 + (6 * (p + 1 + c) + 2)) (by omega) rfl dX5_goesOff_56 ?_
        refine g_inc_2 hR dX5_goesOff_57 trivial ?_
        refine g_goto (tgt := 15) hR dX5_goesOff_60 (by decide) ?_
        rw [bset_s] at h1
        rw [if_neg (Int32.not_lt.mpr h1)] at e0
        rw [hset_e, bset_s, bset_bset]
        exact e0
      · refine g_iconst_1 hR dX5_goesOff_44 ?_
        refine g_goto (tgt := 56) hR dX5_goesOff_45 (by decide) ?_
        refine gs_19 hR (6 + (6 * (p + 1 + c) + 2)) (by omega) rfl dX5_goesOff_56 ?_
        refine g_inc_2 hR dX5_goesOff_57 trivial ?_
        refine g_goto (tgt := 15) hR dX5_goesOff_60 (by decide) ?_
        rw [bset_s] at h1
        rw [if_pos (Int32.not_le.mp h1)] at e0
        rw [hset_e, bset_s, bset_bset]
        exact e0
  refine g_al_0 hR dX5_goesOff_0 ?_
  refine gf_X5_s hR fl_X5_7 dX5_goesOff_1 ?_
  refine g_il_1 hR dX5_goesOff_4 ?_
  refine g_iconst_4 hR dX5_goesOff_5 ?_
  refine g_csI hR ciX5_place dX5_goesOff_6 ml_X5_49 (Nat.le_of_ble_eq_true rfl) (em_place p 4 _) rfl (Nat.le_of_ble_eq_true rfl) rfl ?_
  refine g_iconst_0 hR dX5_goesOff_9 ?_
  refine gs_19 hR (6 + (6 * p + 4)) (by omega) rfl dX5_goesOff_10 ?_
  refine g_il_1 hR dX5_goesOff_11 ?_
  refine g_iconst_1 hR dX5_goesOff_12 ?_
  refine g_iadd hR dX5_goesOff_13 ?_
  refine g_top (nI_1 p) ?_
  refine g_is_2 hR dX5_goesOff_14 trivial ?_
  refine g_eq (τ := bset σ 4 (halN (pset (σ 4) p 4 0) (p + 1) 0)) rfl ?_
  exact lp (n - (p + 1)) 0 (by omega)
set_option maxRecDepth 100000 in
set_option maxHeartbeats 4000000 in
theorem em_day {n : Nat} {d : Int} (σ : Hp) (hG : Gd (σ 4) n d) (hd : d < 1000000) : CtV yX5_day wX5_day 5 [.ref 18] σ (bset σ 4 (dayF (σ 4) n)) := by
  refine CtV.of (by decide) (Nat.le_of_ble_eq_true rfl) rfl (fun G hR hE => ?_)
  have hn8 := hG.1
  have hd0 : 0 ≤ d := by have := hG.2.2.2.2.2.1; unfold rg at this; omega
  have hb := hG.2.2.2.2.2.2.1
  have hm := Gd_mvF hG (by omega) hd0
  have e1 : (1 : Int32).toInt = 1 := rfl
  have em1 : (-1 : Int32).toInt = -1 := rfl
  have key : ∀ w x4 x5, G 64 [some (.ref 18), some (.int (upF (σ 4) n)), some (.int (dnF (σ 4) n)), some (.int w), x4, x5] [] (bset σ 4 (mvF (σ 4) n)) := by
    intro w x4 x5
    have eM0 : mvF (σ 4) n 0 = σ 4 0 := mvF_0 (by decide) (by decide)
    have eD : dayF (σ 4) n = upd (goF (ageN (mvF (σ 4) n) n) n) 0 (σ 4 0 + 1) := rfl
    rw [eD] at hE
    generalize mvF (σ 4) n = M at *
    have lp : ∀ d' j, j + d' = n → G 70 [some (.ref 18), some (.int (upF (σ 4) n)), some (.int (dnF (σ 4) n)), some (.int w), some (.int (oI (fstN (dueB (ageN M n)) j))), some (.int (nI j))] [] (bset σ 4 (ageN M j)) := by
      intro d'
      induction d' with
      | zero =>
        intro j hj
        obtain rfl : j = n := by omega
        have hg := Gd_ageN hm j hn8
        have ed : goF (ageN M j) j 0 = σ 4 0 := by rw [goF_lo (by decide), ageN_lo (by decide), eM0]
        have fin : G 163 [some (.ref 18), some (.int (upF (σ 4) j)), some (.int (dnF (σ 4) j)), some (.int w), some (.int (oI (fstN (dueB (ageN M j)) j))), some (.int (nI j))] [] (bset σ 4 (goF (ageN M j) j)) := by
          refine g_al_0 hR dX5_day_163 ?_
          refine gf_X5_s hR fl_X5_7 dX5_day_164 ?_
          refine g_iconst_0 hR dX5_day_167 ?_
          refine g_dup2 hR dX5_day_168 rfl rfl ?_
          refine ga_19 hR 0 (by decide) rfl dX5_day_169 ?_
          refine g_iconst_1 hR dX5_day_170 ?_
          refine g_iadd hR dX5_day_171 ?_
          refine gs_19 hR 0 (by decide) rfl dX5_day_172 ?_
          exact hE dX5_day_173 (by simp only [hset_e, bset_s, bset_bset]; rw [ed])
        refine g_il_5 hR dX5_day_70 ?_
        refine g_al_0 hR dX5_day_72 ?_
        refine gf_X5_s hR fl_X5_7 dX5_day_73 ?_
        refine g_iconst_1 hR dX5_day_76 ?_
        refine ga_19 hR 1 (by decide) rfl dX5_day_77 ?_
        refine g_top (show bset σ 4 (ageN M j) 4 1 = nI j by rw [bset_s]; exact hg.2.1) ?_
        cases hf : fstN (dueB (ageN M j)) j with
        | none =>
          rw [hf] at fin
          have eg : goF (ageN M j) j = ageN M j := by unfold goF; rw [hf]
          rw [eg] at fin
          refine g_icmp_ge (tgt := 152) hR dX5_day_78 (by decide) (fun _ => ?_) (fun hc => absurd (Int32.le_refl _) hc)
          refine g_il_4 hR dX5_day_152 ?_
          refine g_if_lt (tgt := 163) hR dX5_day_154 (by decide) (fun _ => ?_) (fun hc => absurd ((by decide)) hc)
          exact fin
        | some p =>
          rw [hf] at fin
          have eg : goF (ageN M j) j = offF (ageN M j) j p := by unfold goF; rw [hf]
          rw [eg] at fin
          have hp := fstN_lt hf
          refine g_icmp_ge (tgt := 152) hR dX5_day_78 (by decide) (fun _ => ?_) (fun hc => absurd (Int32.le_refl _) hc)
          refine g_il_4 hR dX5_day_152 ?_
          refine g_if_lt (tgt := 163) hR dX5_day_154 (by decide) (fun hc => absurd hc (nI_pos (by omega))) (fun _ => ?_)
          refine g_al_0 hR dX5_day_157 ?_
          refine g_il_4 hR dX5_day_158 ?_
          refine g_cvV hR ciX5_goesOff dX5_day_160 ml_X5_130 (Nat.le_of_ble_eq_true rfl) (by decide) rfl rfl rfl (em_goesOff (p := p) (n := j) (d := d + 1) hp _ (by rw [bset_s]; exact hg)) rfl (Nat.le_of_ble_eq_true rfl) rfl ?_
          rw [bset_s, bset_bset]
          exact fin
      | succ d' ih =>
        intro j hj
        have hg := Gd_ageN hm j (by omega)
        have hg1 := Gd_ageN hm (j + 1) (by omega)
        have ec : dueB (ageN M n) j = dueB (ageN M (j + 1)) j := age_due n (by omega)
        have key2 : ∀ x4', G 144 [some (.ref 18), some (.int (upF (σ 4) n)), some (.int (dnF (σ 4) n)), some (.int w), some (.int x4'), some (.int (nI j))] [.int (oI (fstN (dueB (ageN M n)) (j + 1)))] (bset σ 4 (ageN M (j + 1))) := by
          intro x4'
          refine g_is_4 hR dX5_day_144 trivial ?_
          refine g_inc_5 hR dX5_day_146 trivial ?_
          refine g_goto (tgt := 70) hR dX5_day_149 (by decide) ?_
          exact ih (j + 1) (by omega)
        refine g_il_5 hR dX5_day_70 ?_
        refine g_al_0 hR dX5_day_72 ?_
        refine gf_X5_s hR fl_X5_7 dX5_day_73 ?_
        refine g_iconst_1 hR dX5_day_76 ?_
        refine ga_19 hR 1 (by decide) rfl dX5_day_77 ?_
        refine g_top (show bset σ 4 (ageN M j) 4 1 = nI n by rw [bset_s]; exact hg.2.1) ?_
        refine g_icmp_ge (tgt := 152) hR dX5_day_78 (by decide) (fun hc => absurd hc (nI_ge (by omega) (by omega))) (fun _ => ?_)
        refine g_al_0 hR dX5_day_81 ?_
        refine gf_X5_s hR fl_X5_7 dX5_day_82 ?_
        refine g_il_5 hR dX5_day_85 ?_
        refine g_iconst_4 hR dX5_day_87 ?_
        refine g_csI hR ciX5_place dX5_day_88 ml_X5_49 (Nat.le_of_ble_eq_true rfl) (em_place j 4 _) rfl (Nat.le_of_ble_eq_true rfl) rfl ?_
        refine g_al_0 hR dX5_day_91 ?_
        refine g_il_5 hR dX5_day_92 ?_
        refine g_iconst_4 hR dX5_day_94 ?_
        refine g_cvI hR ciX5_its dX5_day_95 ml_X5_73 (Nat.le_of_ble_eq_true rfl) (by decide) rfl rfl rfl (em_its (p := j) (w := 4) (by omega) (by decide) _) rfl (Nat.le_of_ble_eq_true rfl) rfl ?_
        refine g_iconst_1 hR dX5_day_98 ?_
        refine g_iadd hR dX5_day_99 ?_
        refine g_sipush_9999 hR dX5_day_100 ?_
        refine g_csI hR ciX5_heldTo dX5_day_103 ml_X5_120 (Nat.le_of_ble_eq_true rfl) (em_heldTo _ _ _) rfl (Nat.le_of_ble_eq_true rfl) rfl ?_
        refine gs_19 hR (6 + (6 * j + 4)) (by omega) rfl dX5_day_106 ?_
        refine g_eq (τ := bset σ 4 (ageN M (j + 1))) (by rw [hset_e, bset_s, bset_bset]; rfl) ?_
        cases hf : fstN (dueB (ageN M n)) j with
        | some q =>
          have hq := fstN_lt hf
          have e2 : fstN (dueB (ageN M n)) (j + 1) = some q := by rw [fstN, hf]
          rw [e2] at key2
          refine g_il_4 hR dX5_day_107 ?_
          refine g_if_ge (tgt := 142) hR dX5_day_109 (by decide) (fun _ => ?_) (fun hc => absurd (nI_pos' (by omega)) hc)
          refine g_il_4 hR dX5_day_142 ?_
          exact key2 _
        | none =>
          refine g_il_4 hR dX5_day_107 ?_
          refine g_if_ge (tgt := 142) hR dX5_day_109 (by decide) (fun hc => absurd hc ((by decide))) (fun _ => ?_)
          refine g_al_0 hR dX5_day_112 ?_
          refine g_il_5 hR dX5_day_113 ?_
          refine g_cvI hR ciX5_lastsOf dX5_day_115 ml_X5_100 (Nat.le_of_ble_eq_true rfl) (by decide) rfl rfl rfl ((em_lastsOf (p := j) (by omega) _).weak (congrArg (fun S => lasF (pf S j 0)) (bset_s σ 4 (ageN M (j + 1))))) rfl (Nat.le_of_ble_eq_true rfl) rfl ?_
          refine g_if_le (tgt := 142) hR dX5_day_118 (by decide) (fun h1 => ?_) (fun h1 => ?_)
          · have e2 : fstN (dueB (ageN M n)) (j + 1) = none := fstN_none hf (by rw [ec]; unfold dueB; exact decide_eq_false (fun q => Int32.not_lt.mpr h1 q.1))
            rw [e2] at key2
            refine g_il_4 hR dX5_day_142 ?_
            exact key2 _
          · refine g_al_0 hR dX5_day_121 ?_
            refine g_il_5 hR dX5_day_122 ?_
            refine g_iconst_4 hR dX5_day_124 ?_
            refine g_cvI hR ciX5_its dX5_day_125 ml_X5_73 (Nat.le_of_ble_eq_true rfl) (by decide) rfl rfl rfl ((em_its (p := j) (w := 4) (by omega) (by decide) _).weak (congrArg (fun S => pf S j 4) (bset_s σ 4 (ageN M (j + 1))))) rfl (Nat.le_of_ble_eq_true rfl) rfl ?_
            refine g_al_0 hR dX5_day_128 ?_
            refine g_il_5 hR dX5_day_129 ?_
            refine g_cvI hR ciX5_lastsOf dX5_day_131 ml_X5_100 (Nat.le_of_ble_eq_true rfl) (by decide) rfl rfl rfl ((em_lastsOf (p := j) (by omega) _).weak (congrArg (fun S => lasF (pf S j 0)) (bset_s σ 4 (ageN M (j + 1))))) rfl (Nat.le_of_ble_eq_true rfl) rfl ?_
            refine g_icmp_lt (tgt := 142) hR dX5_day_134 (by decide) (fun h2 => ?_) (fun h2 => ?_)
            · have e2 : fstN (dueB (ageN M n)) (j + 1) = none := fstN_none hf (by rw [ec]; unfold dueB; exact decide_eq_false (fun q => Int32.not_le.mpr h2 q.2))
              rw [e2] at key2
              refine g_il_4 hR dX5_day_142 ?_
              exact key2 _
            · have e2 : fstN (dueB (ageN M n)) (j + 1) = some j := fstN_first hf (by rw [ec]; unfold dueB; exact decide_eq_true ⟨Int32.not_le.mp h1, Int32.not_lt.mp h2⟩) 0
              rw [e2] at key2
              refine g_il_5 hR dX5_day_137 ?_
              refine g_goto (tgt := 144) hR dX5_day_139 (by decide) ?_
              exact key2 _
    refine g_iconst_m1 hR dX5_day_64 ?_
    refine g_is_4 hR dX5_day_65 trivial ?_
    refine g_iconst_0 hR dX5_day_67 ?_
    refine g_is_5 hR dX5_day_68 trivial ?_
    exact lp n 0 (by omega)
  have h' := Gd_mono hG (show d ≤ d + 1 by omega)
  refine g_al_0 hR dX5_day_0 ?_
  refine g_iconst_1 hR dX5_day_1 ?_
  refine g_cvI hR ciX5_pull dX5_day_2 ml_X5_124 (Nat.le_of_ble_eq_true rfl) (by decide) rfl rfl rfl (em_pullUp σ hG hd) rfl (Nat.le_of_ble_eq_true rfl) rfl ?_
  refine g_is_1 hR dX5_day_5 trivial ?_
  refine g_al_0 hR dX5_day_6 ?_
  refine g_iconst_m1 hR dX5_day_7 ?_
  refine g_cvI hR ciX5_pull dX5_day_8 ml_X5_124 (Nat.le_of_ble_eq_true rfl) (by decide) rfl rfl rfl (em_pullDn σ hG hd) rfl (Nat.le_of_ble_eq_true rfl) rfl ?_
  refine g_is_2 hR dX5_day_11 trivial ?_
  refine g_il_1 hR dX5_day_12 ?_
  refine g_il_2 hR dX5_day_13 ?_
  refine g_al_0 hR dX5_day_14 ?_
  refine gf_X5_s hR fl_X5_7 dX5_day_15 ?_
  refine g_iconst_3 hR dX5_day_18 ?_
  refine ga_19 hR 3 (by decide) rfl dX5_day_19 ?_
  refine g_iadd hR dX5_day_20 ?_
  refine g_icmp_le (tgt := 28) hR dX5_day_21 (by decide) (fun h1 => ?_) (fun h1 => ?_)
  · refine g_il_2 hR dX5_day_28 ?_
    refine g_il_1 hR dX5_day_29 ?_
    refine g_al_0 hR dX5_day_30 ?_
    refine gf_X5_s hR fl_X5_7 dX5_day_31 ?_
    refine g_iconst_3 hR dX5_day_34 ?_
    refine ga_19 hR 3 (by decide) rfl dX5_day_35 ?_
    refine g_iadd hR dX5_day_36 ?_
    refine g_icmp_le (tgt := 44) hR dX5_day_37 (by decide) (fun h2 => ?_) (fun h2 => ?_)
    · have em : mvF (σ 4) n = σ 4 := by unfold mvF; rw [if_neg (Int32.not_lt.mpr h1), if_neg (Int32.not_lt.mpr h2)]
      rw [em, bset_id] at key
      refine g_iconst_0 hR dX5_day_44 ?_
      refine g_is_3 hR dX5_day_45 trivial ?_
      refine g_al_0 hR dX5_day_46 ?_
      refine gf_X5_s hR fl_X5_7 dX5_day_47 ?_
      refine g_iconst_2 hR dX5_day_50 ?_
      refine g_dup2 hR dX5_day_51 rfl rfl ?_
      refine ga_19 hR 2 (by decide) rfl dX5_day_52 ?_
      refine g_il_3 hR dX5_day_53 ?_
      refine g_iadd hR dX5_day_54 ?_
      refine gs_19 hR 2 (by decide) rfl dX5_day_55 ?_
      refine g_il_3 hR dX5_day_56 ?_
      refine g_if_eq (tgt := 64) hR dX5_day_57 (by decide) (fun _ => ?_) (fun hc => absurd (rfl) hc)
      rw [hset_e, Int32.add_zero, upd_id, bset_id]
      exact key _ _ _
    · have em : mvF (σ 4) n = arrN (upd (σ 4) 2 (σ 4 2 + -1)) n := by unfold mvF; rw [if_neg (Int32.not_lt.mpr h1), if_pos (Int32.not_le.mp h2)]
      rw [em] at key
      refine g_iconst_m1 hR dX5_day_40 ?_
      refine g_goto (tgt := 45) hR dX5_day_41 (by decide) ?_
      refine g_is_3 hR dX5_day_45 trivial ?_
      refine g_al_0 hR dX5_day_46 ?_
      refine gf_X5_s hR fl_X5_7 dX5_day_47 ?_
      refine g_iconst_2 hR dX5_day_50 ?_
      refine g_dup2 hR dX5_day_51 rfl rfl ?_
      refine ga_19 hR 2 (by decide) rfl dX5_day_52 ?_
      refine g_il_3 hR dX5_day_53 ?_
      refine g_iadd hR dX5_day_54 ?_
      refine gs_19 hR 2 (by decide) rfl dX5_day_55 ?_
      refine g_il_3 hR dX5_day_56 ?_
      refine g_if_eq (tgt := 64) hR dX5_day_57 (by decide) (fun hc => absurd hc ((by decide))) (fun _ => ?_)
      refine g_al_0 hR dX5_day_60 ?_
      refine g_cvV hR ciX5_arrives dX5_day_61 ml_X5_127 (Nat.le_of_ble_eq_true rfl) (by decide) rfl rfl rfl (em_arrives (n := n) (d := d + 1) _ (by rw [hset_e, bset_s]; exact Gd_ball h' (by rw [i_add (by omega) (by omega)]; omega) (by rw [i_add (by omega) (by omega)]; omega))) rfl (Nat.le_of_ble_eq_true rfl) rfl ?_
      rw [hset_e, bset_s, bset_bset]
      exact key _ _ _
  · have em : mvF (σ 4) n = arrN (upd (σ 4) 2 (σ 4 2 + 1)) n := by unfold mvF; rw [if_pos (Int32.not_le.mp h1)]
    rw [em] at key
    refine g_iconst_1 hR dX5_day_24 ?_
    refine g_goto (tgt := 45) hR dX5_day_25 (by decide) ?_
    refine g_is_3 hR dX5_day_45 trivial ?_
    refine g_al_0 hR dX5_day_46 ?_
    refine gf_X5_s hR fl_X5_7 dX5_day_47 ?_
    refine g_iconst_2 hR dX5_day_50 ?_
    refine g_dup2 hR dX5_day_51 rfl rfl ?_
    refine ga_19 hR 2 (by decide) rfl dX5_day_52 ?_
    refine g_il_3 hR dX5_day_53 ?_
    refine g_iadd hR dX5_day_54 ?_
    refine gs_19 hR 2 (by decide) rfl dX5_day_55 ?_
    refine g_il_3 hR dX5_day_56 ?_
    refine g_if_eq (tgt := 64) hR dX5_day_57 (by decide) (fun hc => absurd hc ((by decide))) (fun _ => ?_)
    refine g_al_0 hR dX5_day_60 ?_
    refine g_cvV hR ciX5_arrives dX5_day_61 ml_X5_127 (Nat.le_of_ble_eq_true rfl) (by decide) rfl rfl rfl (em_arrives (n := n) (d := d + 1) _ (by rw [hset_e, bset_s]; exact Gd_ball h' (by rw [i_add (by omega) (by omega)]; omega) (by rw [i_add (by omega) (by omega)]; omega))) rfl (Nat.le_of_ble_eq_true rfl) rfl ?_
    rw [hset_e, bset_s, bset_bset]
    exact key _ _ _
set_option maxRecDepth 100000 in
set_option maxHeartbeats 4000000 in
theorem em_goesOn {n c : Nat} {d : Int} (σ : Hp) (hG : Gd (σ 4) n d) (hd : d + c < 1000000) (hc : c < 1000) : CtV yX5_goesOn wX5_goesOn 6 [.ref 18, .int (nI c)] σ (bset σ 4 (daysF (σ 4) n c)) := by
  refine CtV.of (by decide) (Nat.le_of_ble_eq_true rfl) rfl (fun G hR hE => ?_)
  have lp : ∀ d' j, j + d' = c → G 2 [some (.ref 18), some (.int (nI c)), some (.int (nI j))] [] (bset σ 4 (daysF (σ 4) n j)) := by
    intro d'
    induction d' with
    | zero =>
      intro j hj
      obtain rfl : j = c := by omega
      refine g_il_2 hR dX5_goesOn_2 ?_
      refine g_il_1 hR dX5_goesOn_3 ?_
      refine g_icmp_ge (tgt := 17) hR dX5_goesOn_4 (by decide) (fun _ => ?_) (fun hc => absurd (Int32.le_refl _) hc)
      exact hE dX5_goesOn_17 (rfl)
    | succ d' ih =>
      intro j hj
      refine g_il_2 hR dX5_goesOn_2 ?_
      refine g_il_1 hR dX5_goesOn_3 ?_
      refine g_icmp_ge (tgt := 17) hR dX5_goesOn_4 (by decide) (fun hc => absurd hc (nI_ge (by omega) (by omega))) (fun _ => ?_)
      refine g_al_0 hR dX5_goesOn_7 ?_
      refine g_cvV hR ciX5_day dX5_goesOn_8 ml_X5_134 (Nat.le_of_ble_eq_true rfl) (by decide) rfl rfl rfl (em_day (n := n) (d := d + j) _ (by rw [bset_s]; exact Gd_daysF hG j (by omega)) (by omega)) rfl (Nat.le_of_ble_eq_true rfl) rfl ?_
      refine g_inc_2 hR dX5_goesOn_11 trivial ?_
      refine g_goto (tgt := 2) hR dX5_goesOn_14 (by decide) ?_
      rw [bset_s, bset_bset]
      exact ih (j + 1) (by omega)
  refine g_iconst_0 hR dX5_goesOn_0 ?_
  refine g_is_2 hR dX5_goesOn_1 trivial ?_
  refine g_eq (τ := bset σ 4 (daysF (σ 4) n 0)) (bset_id σ 4).symm ?_
  exact lp c 0 (by omega)
set_option maxRecDepth 100000 in
set_option maxHeartbeats 4000000 in
theorem em_drawn {n : Nat} (hn8 : n ≤ 8) (σ : Hp) (hn : σ 4 1 = nI n) : CtI yX5_drawn wX5_drawn 2 [.ref 18] σ (plsN (σ 4) n) (σ) := by
  refine CtI.of (by decide) (Nat.le_of_ble_eq_true rfl) rfl rfl (fun G hR hE => ?_)
  have lp : ∀ d j, j + d = n → G 4 [some (.ref 18), some (.int (plsN (σ 4) j)), some (.int (nI j))] [] σ := by
    intro d'
    induction d' with
    | zero =>
      intro j hj
      obtain rfl : j = n := by omega
      refine g_il_2 hR dX5_drawn_4 ?_
      refine g_al_0 hR dX5_drawn_5 ?_
      refine gf_X5_s hR fl_X5_7 dX5_drawn_6 ?_
      refine g_iconst_1 hR dX5_drawn_9 ?_
      refine ga_19 hR 1 (by decide) rfl dX5_drawn_10 ?_
      refine g_top hn ?_
      refine g_icmp_ge (tgt := 31) hR dX5_drawn_11 (by decide) (fun _ => ?_) (fun hc => absurd (Int32.le_refl _) hc)
      refine g_il_1 hR dX5_drawn_31 ?_
      exact hE dX5_drawn_32 (rfl) (rfl)
    | succ d' ih =>
      intro j hj
      refine g_il_2 hR dX5_drawn_4 ?_
      refine g_al_0 hR dX5_drawn_5 ?_
      refine gf_X5_s hR fl_X5_7 dX5_drawn_6 ?_
      refine g_iconst_1 hR dX5_drawn_9 ?_
      refine ga_19 hR 1 (by decide) rfl dX5_drawn_10 ?_
      refine g_top hn ?_
      refine g_icmp_ge (tgt := 31) hR dX5_drawn_11 (by decide) (fun hc => absurd hc (nI_ge (by omega) (by omega))) (fun _ => ?_)
      refine g_il_1 hR dX5_drawn_14 ?_
      refine g_iconst_1 hR dX5_drawn_15 ?_
      refine g_al_0 hR dX5_drawn_16 ?_
      refine g_il_2 hR dX5_drawn_17 ?_
      refine g_iconst_1 hR dX5_drawn_18 ?_
      refine g_cvI hR ciX5_its dX5_drawn_19 ml_X5_73 (Nat.le_of_ble_eq_true rfl) (by decide) rfl rfl rfl (em_its (p := j) (w := 1) (by omega) (by decide) σ) rfl (Nat.le_of_ble_eq_true rfl) rfl ?_
      refine g_ishl hR dX5_drawn_22 ?_
      refine g_ior hR dX5_drawn_23 ?_
      refine g_is_1 hR dX5_drawn_24 trivial ?_
      refine g_inc_2 hR dX5_drawn_25 trivial ?_
      refine g_goto (tgt := 4) hR dX5_drawn_28 (by decide) ?_
      exact ih (j + 1) (by omega)
  refine g_iconst_0 hR dX5_drawn_0 ?_
  refine g_is_1 hR dX5_drawn_1 trivial ?_
  refine g_iconst_0 hR dX5_drawn_2 ?_
  refine g_is_2 hR dX5_drawn_3 trivial ?_
  exact lp n 0 (by omega)
set_option maxRecDepth 100000 in
set_option maxHeartbeats 4000000 in
theorem em_mostFelt {n : Nat} {d : Int} (σ : Hp) (hG : Gd (σ 4) n d) : CtI yX5_mostFelt wX5_mostFelt 4 [.ref 18] σ (oI (mstN (σ 4) n n)) (σ) := by
  refine CtI.of (by decide) (Nat.le_of_ble_eq_true rfl) rfl rfl (fun G hR hE => ?_)
  have hn8 := hG.1
  have lp : ∀ d' j, j + d' = n → G 4 [some (.ref 18), some (.int (oI (mstN (σ 4) n j))), some (.int (nI j))] [] σ := by
    intro d'
    induction d' with
    | zero =>
      intro j hj
      obtain rfl : j = n := by omega
      refine g_il_2 hR dX5_mostFelt_4 ?_
      refine g_al_0 hR dX5_mostFelt_5 ?_
      refine gf_X5_s hR fl_X5_7 dX5_mostFelt_6 ?_
      refine g_iconst_1 hR dX5_mostFelt_9 ?_
      refine ga_19 hR 1 (by decide) rfl dX5_mostFelt_10 ?_
      refine g_top hG.2.1 ?_
      refine g_icmp_ge (tgt := 43) hR dX5_mostFelt_11 (by decide) (fun _ => ?_) (fun hc => absurd (Int32.le_refl _) hc)
      refine g_il_1 hR dX5_mostFelt_43 ?_
      exact hE dX5_mostFelt_44 (rfl) (rfl)
    | succ d' ih =>
      intro j hj
      have e0 := ih (j + 1) (by omega)
      rw [mstN] at e0
      refine g_il_2 hR dX5_mostFelt_4 ?_
      refine g_al_0 hR dX5_mostFelt_5 ?_
      refine gf_X5_s hR fl_X5_7 dX5_mostFelt_6 ?_
      refine g_iconst_1 hR dX5_mostFelt_9 ?_
      refine ga_19 hR 1 (by decide) rfl dX5_mostFelt_10 ?_
      refine g_top hG.2.1 ?_
      cases hm : mstN (σ 4) n j with
      | none =>
        rw [hm] at e0
        refine g_icmp_ge (tgt := 43) hR dX5_mostFelt_11 (by decide) (fun hc => absurd hc (nI_ge (by omega) (by omega))) (fun _ => ?_)
        refine g_il_1 hR dX5_mostFelt_14 ?_
        refine g_if_lt (tgt := 31) hR dX5_mostFelt_15 (by decide) (fun _ => ?_) (fun hc => absurd ((by decide)) hc)
        refine g_il_2 hR dX5_mostFelt_31 ?_
        refine g_goto (tgt := 36) hR dX5_mostFelt_32 (by decide) ?_
        refine g_is_1 hR dX5_mostFelt_36 trivial ?_
        refine g_inc_2 hR dX5_mostFelt_37 trivial ?_
        refine g_goto (tgt := 4) hR dX5_mostFelt_40 (by decide) ?_
        exact e0
      | some q =>
        have hq := mstN_lt hm
        rw [hm] at e0
        have e0 : G 4 [some (.ref 18), some (.int (oI (if fltF (σ 4) n q < fltF (σ 4) n j then some j else some q))), some (.int (nI (j + 1)))] [] σ := e0
        refine g_icmp_ge (tgt := 43) hR dX5_mostFelt_11 (by decide) (fun hc => absurd hc (nI_ge (by omega) (by omega))) (fun _ => ?_)
        refine g_il_1 hR dX5_mostFelt_14 ?_
        refine g_if_lt (tgt := 31) hR dX5_mostFelt_15 (by decide) (fun hc => absurd hc (nI_pos (by omega))) (fun _ => ?_)
        refine g_al_0 hR dX5_mostFelt_18 ?_
        refine g_il_2 hR dX5_mostFelt_19 ?_
        refine g_cvI hR ciX5_feltOf dX5_mostFelt_20 ml_X5_103 (Nat.le_of_ble_eq_true rfl) (by decide) rfl rfl rfl (em_feltOf (p := j) (by omega) σ hG) rfl (Nat.le_of_ble_eq_true rfl) rfl ?_
        refine g_al_0 hR dX5_mostFelt_23 ?_
        refine g_il_1 hR dX5_mostFelt_24 ?_
        refine g_cvI hR ciX5_feltOf dX5_mostFelt_25 ml_X5_103 (Nat.le_of_ble_eq_true rfl) (by decide) rfl rfl rfl (em_feltOf (p := q) (by omega) σ hG) rfl (Nat.le_of_ble_eq_true rfl) rfl ?_
        refine g_icmp_le (tgt := 35) hR dX5_mostFelt_28 (by decide) (fun h1 => ?_) (fun h1 => ?_)
        · rw [if_neg (Int32.not_lt.mpr h1)] at e0
          refine g_il_1 hR dX5_mostFelt_35 ?_
          refine g_is_1 hR dX5_mostFelt_36 trivial ?_
          refine g_inc_2 hR dX5_mostFelt_37 trivial ?_
          refine g_goto (tgt := 4) hR dX5_mostFelt_40 (by decide) ?_
          exact e0
        · rw [if_pos (Int32.not_le.mp h1)] at e0
          refine g_il_2 hR dX5_mostFelt_31 ?_
          refine g_goto (tgt := 36) hR dX5_mostFelt_32 (by decide) ?_
          refine g_is_1 hR dX5_mostFelt_36 trivial ?_
          refine g_inc_2 hR dX5_mostFelt_37 trivial ?_
          refine g_goto (tgt := 4) hR dX5_mostFelt_40 (by decide) ?_
          exact e0
  refine g_iconst_m1 hR dX5_mostFelt_0 ?_
  refine g_is_1 hR dX5_mostFelt_1 trivial ?_
  refine g_iconst_0 hR dX5_mostFelt_2 ?_
  refine g_is_2 hR dX5_mostFelt_3 trivial ?_
  exact lp n 0 (by omega)
