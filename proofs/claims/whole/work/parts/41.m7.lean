set_option maxRecDepth 100000 in
set_option maxHeartbeats 4000000 in
theorem cm_unwind {n : Nat} {d : Int} (a : Int32) (σ : Hp) (hG : Gd (σ 4) n d) : CtI yX5_unwind wX5_unwind 3 [.ref 18, .int a] σ (if 0 ≤ a ∧ a ≤ nI (2 ^ n) - 1 then unwV (σ 4) n a else -1000001) (if 0 ≤ a ∧ a ≤ nI (2 ^ n) - 1 then σ else fnd σ 14 0) := by
  refine CtI.of (by decide) (Nat.le_of_ble_eq_true rfl) rfl rfl (fun G hR hE => ?_)
  have hn8 := hG.1
  refine g_il_1 hR dX5_unwind_0 ?_
  refine g_i2l hR dX5_unwind_1 ?_
  refine g_lconst (v := 0) hR dX5_unwind_2 (by decide) ?_
  refine g_iconst_1 hR dX5_unwind_3 ?_
  refine g_al_0 hR dX5_unwind_4 ?_
  refine gf_X5_s hR fl_X5_7 dX5_unwind_5 ?_
  refine g_iconst_1 hR dX5_unwind_8 ?_
  refine ga_19 hR 1 (by decide) rfl dX5_unwind_9 ?_
  refine g_top hG.2.1 ?_
  refine g_ishl hR dX5_unwind_10 ?_
  refine g_top (shl_n n (by omega)) ?_
  refine g_iconst_1 hR dX5_unwind_11 ?_
  refine g_isub hR dX5_unwind_12 ?_
  refine g_i2l hR dX5_unwind_13 ?_
  refine g_csI hR ciX5_in dX5_unwind_14 ml_X5_43 (Nat.le_of_ble_eq_true rfl) (ev_in a 0 (nI (2 ^ n) - 1) rfl rfl σ) rfl (Nat.le_of_ble_eq_true rfl) rfl ?_
  refine g_if_ne (tgt := 27) hR dX5_unwind_17 (by decide) (fun h => ?_) (fun h => ?_)
  · have hc := bI_no h
    rw [if_pos hc, if_pos hc] at hE
    have lp : ∀ d' j, j + d' = n → fstN (fun p => decide (¬ (a >>> (nI p &&& 31)) &&& 1 = 0)) j = none → G 29 [some (.ref 18), some (.int a), some (.int (nI j))] [] σ := by
      intro d'
      induction d' with
      | zero =>
        intro j hj hf
        obtain rfl : j = n := by omega
        refine g_il_2 hR dX5_unwind_29 ?_
        refine g_al_0 hR dX5_unwind_30 ?_
        refine gf_X5_s hR fl_X5_7 dX5_unwind_31 ?_
        refine g_iconst_1 hR dX5_unwind_34 ?_
        refine ga_19 hR 1 (by decide) rfl dX5_unwind_35 ?_
        refine g_top hG.2.1 ?_
        refine g_icmp_ge (tgt := 53) hR dX5_unwind_36 (by decide) (fun _ => ?_) (fun hc => absurd (Int32.le_refl _) hc)
        refine g_al_0 hR dX5_unwind_53 ?_
        refine g_il_2 hR dX5_unwind_54 ?_
        refine g_cvI hR ciX5_longFrom dX5_unwind_55 ml_X5_92 (Nat.le_of_ble_eq_true rfl) (by decide) rfl rfl rfl (em_longFrom (q := j) (by omega) hn8 σ hG.2.1) rfl (Nat.le_of_ble_eq_true rfl) rfl ?_
        exact hE dX5_unwind_58 (by unfold unwV; rw [hf, lng_n]) (rfl)
      | succ d' ih =>
        intro j hj hf
        refine g_il_2 hR dX5_unwind_29 ?_
        refine g_al_0 hR dX5_unwind_30 ?_
        refine gf_X5_s hR fl_X5_7 dX5_unwind_31 ?_
        refine g_iconst_1 hR dX5_unwind_34 ?_
        refine ga_19 hR 1 (by decide) rfl dX5_unwind_35 ?_
        refine g_top hG.2.1 ?_
        refine g_icmp_ge (tgt := 53) hR dX5_unwind_36 (by decide) (fun hc => absurd hc (nI_ge (by omega) (by omega))) (fun _ => ?_)
        refine g_il_1 hR dX5_unwind_39 ?_
        refine g_il_2 hR dX5_unwind_40 ?_
        refine g_ishr hR dX5_unwind_41 ?_
        refine g_iconst_1 hR dX5_unwind_42 ?_
        refine g_iand hR dX5_unwind_43 ?_
        refine g_if_ne (tgt := 53) hR dX5_unwind_44 (by decide) (fun h2 => ?_) (fun h2 => ?_)
        · have hfst := fstN_first hf (decide_eq_true h2) d'
          rw [show j + 1 + d' = n by omega] at hfst
          refine g_al_0 hR dX5_unwind_53 ?_
          refine g_il_2 hR dX5_unwind_54 ?_
          refine g_cvI hR ciX5_longFrom dX5_unwind_55 ml_X5_92 (Nat.le_of_ble_eq_true rfl) (by decide) rfl rfl rfl (em_longFrom (q := j) (by omega) hn8 σ hG.2.1) rfl (Nat.le_of_ble_eq_true rfl) rfl ?_
          exact hE dX5_unwind_58 (by unfold unwV; rw [hfst]) (rfl)
        · refine g_inc_2 hR dX5_unwind_47 trivial ?_
          refine g_goto (tgt := 29) hR dX5_unwind_50 (by decide) ?_
          exact ih (j + 1) (by omega) (fstN_none hf (decide_eq_false (fun q => q h2)))
    refine g_iconst_0 hR dX5_unwind_27 ?_
    refine g_is_2 hR dX5_unwind_28 trivial ?_
    exact lp n 0 (by omega) rfl
  · have hc := bI_0.mp h
    refine g_al_0 hR dX5_unwind_20 ?_
    refine g_ldc hR dX5_unwind_21 kc_X5_40 ?_
    refine g_cvI hR ciX5_finds dX5_unwind_23 ml_X5_60 (Nat.le_of_ble_eq_true rfl) (by decide) rfl rfl rfl (cm_f0 σ) rfl (Nat.le_of_ble_eq_true rfl) rfl ?_
    exact hE dX5_unwind_26 ((if_neg hc).symm) ((if_neg hc).symm)
set_option maxRecDepth 100000 in
set_option maxHeartbeats 4000000 in
theorem cm_had {n : Nat} {d : Int} (a : Int32) (σ : Hp) (hG : Gd (σ 4) n d) : CtI yX5_had wX5_had 3 [.ref 18, .int a] σ (if 0 ≤ a ∧ a ≤ 999 then nI (hadV n (hadO (σ 4) n a n)) else -1000001) (if 0 ≤ a ∧ a ≤ 999 then σ else fnd σ 14 0) := by
  refine CtI.of (by decide) (Nat.le_of_ble_eq_true rfl) rfl rfl (fun G hR hE => ?_)
  have hn8 := hG.1
  refine g_il_1 hR dX5_had_0 ?_
  refine g_i2l hR dX5_had_1 ?_
  refine g_lconst (v := 0) hR dX5_had_2 (by decide) ?_
  refine g_ldc2 hR dX5_had_3 kl_X5_169 ?_
  refine g_csI hR ciX5_in dX5_had_6 ml_X5_43 (Nat.le_of_ble_eq_true rfl) (ev_in a 0 999 rfl rfl σ) rfl (Nat.le_of_ble_eq_true rfl) rfl ?_
  refine g_if_ne (tgt := 19) hR dX5_had_9 (by decide) (fun h => ?_) (fun h => ?_)
  · rw [if_pos (bI_no h), if_pos (bI_no h)] at hE
    have lp : ∀ d' j, j + d' = n → hadO (σ 4) n a j = none → G 21 [some (.ref 18), some (.int a), some (.int (nI j))] [] σ := by
      intro d'
      induction d' with
      | zero =>
        intro j hj hf
        obtain rfl : j = n := by omega
        rw [hf] at hE
        refine g_il_2 hR dX5_had_21 ?_
        refine g_al_0 hR dX5_had_22 ?_
        refine gf_X5_s hR fl_X5_7 dX5_had_23 ?_
        refine g_iconst_1 hR dX5_had_26 ?_
        refine ga_19 hR 1 (by decide) rfl dX5_had_27 ?_
        refine g_top hG.2.1 ?_
        refine g_icmp_ge (tgt := 55) hR dX5_had_28 (by decide) (fun _ => ?_) (fun hc => absurd (Int32.le_refl _) hc)
        refine g_il_2 hR dX5_had_55 ?_
        exact hE dX5_had_56 (rfl) (rfl)
      | succ d' ih =>
        intro j hj hf
        have hf' : fstN (fun i => decide (a < lngF (σ 4) n (n - i - 1))) j = none := hf
        refine g_il_2 hR dX5_had_21 ?_
        refine g_al_0 hR dX5_had_22 ?_
        refine gf_X5_s hR fl_X5_7 dX5_had_23 ?_
        refine g_iconst_1 hR dX5_had_26 ?_
        refine ga_19 hR 1 (by decide) rfl dX5_had_27 ?_
        refine g_top hG.2.1 ?_
        refine g_icmp_ge (tgt := 55) hR dX5_had_28 (by decide) (fun hc => absurd hc (nI_ge (by omega) (by omega))) (fun _ => ?_)
        refine g_al_0 hR dX5_had_31 ?_
        refine g_al_0 hR dX5_had_32 ?_
        refine gf_X5_s hR fl_X5_7 dX5_had_33 ?_
        refine g_iconst_1 hR dX5_had_36 ?_
        refine ga_19 hR 1 (by decide) rfl dX5_had_37 ?_
        refine g_top hG.2.1 ?_
        refine g_il_2 hR dX5_had_38 ?_
        refine g_isub hR dX5_had_39 ?_
        refine g_iconst_1 hR dX5_had_40 ?_
        refine g_isub hR dX5_had_41 ?_
        refine g_top (show nI n - nI j - 1 = nI (n - j - 1) by rw [pk_sub (by omega)]; exact pk_sub (a := n - j) (b := 1) (by omega)) ?_
        refine g_cvI hR ciX5_longFrom dX5_had_42 ml_X5_92 (Nat.le_of_ble_eq_true rfl) (by decide) rfl rfl rfl (em_longFrom (q := n - j - 1) (by omega) hn8 σ hG.2.1) rfl (Nat.le_of_ble_eq_true rfl) rfl ?_
        refine g_il_1 hR dX5_had_45 ?_
        refine g_icmp_gt (tgt := 55) hR dX5_had_46 (by decide) (fun h2 => ?_) (fun h2 => ?_)
        · have hfst : hadO (σ 4) n a n = some j := by
            have := fstN_first hf' (decide_eq_true h2) d'
            rw [show j + 1 + d' = n by omega] at this
            exact this
          rw [hfst] at hE
          refine g_il_2 hR dX5_had_55 ?_
          exact hE dX5_had_56 (rfl) (rfl)
        · refine g_inc_2 hR dX5_had_49 trivial ?_
          refine g_goto (tgt := 21) hR dX5_had_52 (by decide) ?_
          exact ih (j + 1) (by omega) (fstN_none hf' (decide_eq_false h2))
    refine g_iconst_0 hR dX5_had_19 ?_
    refine g_is_2 hR dX5_had_20 trivial ?_
    exact lp n 0 (by omega) rfl
  · refine g_al_0 hR dX5_had_12 ?_
    refine g_ldc hR dX5_had_13 kc_X5_40 ?_
    refine g_cvI hR ciX5_finds dX5_had_15 ml_X5_60 (Nat.le_of_ble_eq_true rfl) (by decide) rfl rfl rfl (cm_f0 σ) rfl (Nat.le_of_ble_eq_true rfl) rfl ?_
    exact hE dX5_had_18 ((if_neg (bI_0.mp h)).symm) ((if_neg (bI_0.mp h)).symm)
set_option maxRecDepth 100000 in
set_option maxHeartbeats 4000000 in
theorem em_above {k : Nat} (hk : k < 7) (σ : Hp) : CtI yX5_above wX5_above 0 [.int (nI k)] σ (nI (par k)) (σ) := by
  refine CtI.of (by decide) (Nat.le_of_ble_eq_true rfl) rfl rfl (fun G hR hE => ?_)
  rcases (show k = 3 ∨ k = 4 ∨ k = 6 ∨ (k = 0 ∨ k = 1 ∨ k = 2 ∨ k = 5) by omega) with rfl | rfl | rfl | h
  · refine g_il_0 hR dX5_above_0 ?_
    refine g_iconst_3 hR dX5_above_1 ?_
    refine g_icmp_ne (tgt := 9) hR dX5_above_2 (by decide) (fun hc => absurd (rfl) hc) (fun _ => ?_)
    refine g_iconst_2 hR dX5_above_5 ?_
    refine g_goto (tgt := 29) hR dX5_above_6 (by decide) ?_
    exact hE dX5_above_29 (rfl) (rfl)
  · refine g_il_0 hR dX5_above_0 ?_
    refine g_iconst_3 hR dX5_above_1 ?_
    refine g_icmp_ne (tgt := 9) hR dX5_above_2 (by decide) (fun _ => ?_) (fun hc => absurd hc ((by decide)))
    refine g_il_0 hR dX5_above_9 ?_
    refine g_iconst_4 hR dX5_above_10 ?_
    refine g_icmp_ne (tgt := 18) hR dX5_above_11 (by decide) (fun hc => absurd (rfl) hc) (fun _ => ?_)
    refine g_iconst_3 hR dX5_above_14 ?_
    refine g_goto (tgt := 29) hR dX5_above_15 (by decide) ?_
    exact hE dX5_above_29 (rfl) (rfl)
  · refine g_il_0 hR dX5_above_0 ?_
    refine g_iconst_3 hR dX5_above_1 ?_
    refine g_icmp_ne (tgt := 9) hR dX5_above_2 (by decide) (fun _ => ?_) (fun hc => absurd hc ((by decide)))
    refine g_il_0 hR dX5_above_9 ?_
    refine g_iconst_4 hR dX5_above_10 ?_
    refine g_icmp_ne (tgt := 18) hR dX5_above_11 (by decide) (fun _ => ?_) (fun hc => absurd hc ((by decide)))
    refine g_il_0 hR dX5_above_18 ?_
    refine g_bipush_6 hR dX5_above_19 ?_
    refine g_icmp_ne (tgt := 28) hR dX5_above_21 (by decide) (fun hc => absurd (rfl) hc) (fun _ => ?_)
    refine g_iconst_1 hR dX5_above_24 ?_
    refine g_goto (tgt := 29) hR dX5_above_25 (by decide) ?_
    exact hE dX5_above_29 (rfl) (rfl)
  · have hp : par k = 0 := by rcases h with rfl | rfl | rfl | rfl <;> rfl
    have ne : ∀ m, m = 3 ∨ m = 4 ∨ m = 6 → ¬ nI k = nI m := fun m hm e => by rw [nI_eq (by omega) (by omega)] at e; omega
    refine g_il_0 hR dX5_above_0 ?_
    refine g_iconst_3 hR dX5_above_1 ?_
    refine g_icmp_ne (tgt := 9) hR dX5_above_2 (by decide) (fun _ => ?_) (fun hc => absurd hc (ne 3 (by omega)))
    refine g_il_0 hR dX5_above_9 ?_
    refine g_iconst_4 hR dX5_above_10 ?_
    refine g_icmp_ne (tgt := 18) hR dX5_above_11 (by decide) (fun _ => ?_) (fun hc => absurd hc (ne 4 (by omega)))
    refine g_il_0 hR dX5_above_18 ?_
    refine g_bipush_6 hR dX5_above_19 ?_
    refine g_icmp_ne (tgt := 28) hR dX5_above_21 (by decide) (fun _ => ?_) (fun hc => absurd hc (ne 6 (by omega)))
    refine g_iconst_0 hR dX5_above_28 ?_
    exact hE dX5_above_29 (by rw [hp]; rfl) (rfl)
set_option maxRecDepth 100000 in
set_option maxHeartbeats 4000000 in
theorem cm_as {n : Nat} {d : Int} (a b : Int32) (σ : Hp) (hG : Gd (σ 4) n d) (hSp : Sp (σ 4)) : CtI yX5_as wX5_as 2 [.ref 18, .int a, .int b] σ (if (0 ≤ a ∧ a ≤ 9) ∧ 0 ≤ b ∧ b ≤ 6 then (if σ 4 (54 + a.toNatClampNeg) = -1 then -1000006 else if und 6 (pf (σ 4) (σ 4 (54 + a.toNatClampNeg)).toNatClampNeg 0).toNatClampNeg b.toNatClampNeg = true then σ 4 (54 + a.toNatClampNeg) else -1000003) else -1000001) (if (0 ≤ a ∧ a ≤ 9) ∧ 0 ≤ b ∧ b ≤ 6 then (if σ 4 (54 + a.toNatClampNeg) = -1 then fnd σ 14 5 else if und 6 (pf (σ 4) (σ 4 (54 + a.toNatClampNeg)).toNatClampNeg 0).toNatClampNeg b.toNatClampNeg = true then σ else fnd σ 14 2) else fnd σ 14 0) := by
  refine CtI.of (by decide) (Nat.le_of_ble_eq_true rfl) rfl rfl (fun G hR hE => ?_)
  have bad : ¬ ((0 ≤ a ∧ a ≤ 9) ∧ 0 ≤ b ∧ b ≤ 6) → G 14 [some (.ref 18), some (.int a), some (.int b), none, none] [] σ := by
    intro h
    refine g_al_0 hR dX5_as_14 ?_
    refine g_ldc hR dX5_as_15 kc_X5_40 ?_
    refine g_cvI hR ciX5_finds dX5_as_17 ml_X5_60 (Nat.le_of_ble_eq_true rfl) (by decide) rfl rfl rfl (cm_f0 σ) rfl (Nat.le_of_ble_eq_true rfl) rfl ?_
    exact hE dX5_as_20 ((if_neg h).symm) ((if_neg h).symm)
  refine g_il_1 hR dX5_as_0 ?_
  refine g_csI hR ciX5_isSpot dX5_as_1 ml_X5_292 (Nat.le_of_ble_eq_true rfl) (em_isSpot a σ) rfl (Nat.le_of_ble_eq_true rfl) rfl ?_
  refine g_if_eq (tgt := 14) hR dX5_as_4 (by decide) (fun h => ?_) (fun h => ?_)
  · exact bad (fun q => bI_0.mp h q.1)
  · refine g_il_2 hR dX5_as_7 ?_
    refine g_csI hR ciX5_isKind dX5_as_8 ml_X5_66 (Nat.le_of_ble_eq_true rfl) (em_isKind b σ) rfl (Nat.le_of_ble_eq_true rfl) rfl ?_
    refine g_if_ne (tgt := 21) hR dX5_as_11 (by decide) (fun h2 => ?_) (fun h2 => ?_)
    · have hc := And.intro (bI_no h) (bI_no h2)
      rw [if_pos hc, if_pos hc] at hE
      obtain ⟨i, hi, rfl⟩ := nle 9 hc.1 (by decide)
      obtain ⟨w, hw, rfl⟩ := nle 6 hc.2 (by decide)
      rw [show (nI i).toNatClampNeg = i from nI_clamp (by omega), show (nI w).toNatClampNeg = w from nI_clamp (by omega)] at hE
      have hs := hSp i (by omega)
      have em1 : (-1 : Int32).toInt = -1 := rfl
      have e0 : (0 : Int32).toInt = 0 := rfl
      refine g_al_0 hR dX5_as_21 ?_
      refine gf_X5_s hR fl_X5_7 dX5_as_22 ?_
      refine g_bipush_54 hR dX5_as_25 ?_
      refine g_il_1 hR dX5_as_27 ?_
      refine g_iadd hR dX5_as_28 ?_
      refine ga_19 hR (54 + i) (by omega) (nI_add 54 i) dX5_as_29 ?_
      refine g_is_3 hR dX5_as_30 trivial ?_
      refine g_il_3 hR dX5_as_31 ?_
      refine g_if_ge (tgt := 43) hR dX5_as_32 (by decide) (fun h3 => ?_) (fun h3 => ?_)
      · have hne : ¬ σ 4 (54 + i) = -1 := fun e => by rw [e] at h3; exact absurd h3 (by decide)
        rw [if_neg hne, if_neg hne] at hE
        obtain ⟨p, hp, ep⟩ := rg_n (x := σ 4 (54 + i)) (m := 7) ⟨by rw [i_le] at h3; omega, hs.2⟩ (by decide)
        obtain ⟨k, hk, ek⟩ := rg_n (hG.2.2.1 p 0 (by omega) (by decide)) (by decide)
        have hk : (k : Int) ≤ 6 := hk
        rw [ep, show (nI p).toNatClampNeg = p from nI_clamp (by omega), ek, show (nI k).toNatClampNeg = k from nI_clamp (by omega)] at hE
        rw [ep]
        have fin : ∀ k', k' < 7 → (k' = w ∧ und 6 k w = true ∨ ¬ k' = w ∧ und 6 k w = false) → G 72 [some (.ref 18), some (.int (nI i)), some (.int (nI w)), some (.int (nI p)), some (.int (nI k'))] [] σ := by
          intro k' hk' hu
          rcases hu with ⟨e, hu⟩ | ⟨e, hu⟩
          · rw [if_pos hu, if_pos hu] at hE
            refine g_il_4 hR dX5_as_72 ?_
            refine g_il_2 hR dX5_as_74 ?_
            refine g_icmp_ne (tgt := 82) hR dX5_as_75 (by decide) (fun hc => absurd (congrArg nI e) hc) (fun _ => ?_)
            refine g_il_3 hR dX5_as_78 ?_
            refine g_goto (tgt := 89) hR dX5_as_79 (by decide) ?_
            exact hE dX5_as_89 (rfl) (rfl)
          · rw [if_neg (by rw [hu]; decide), if_neg (by rw [hu]; decide)] at hE
            refine g_il_4 hR dX5_as_72 ?_
            refine g_il_2 hR dX5_as_74 ?_
            refine g_icmp_ne (tgt := 82) hR dX5_as_75 (by decide) (fun _ => ?_) (fun hc => absurd hc ((fun q => e ((nI_eq (by omega) (by omega)).mp q))))
            refine g_al_0 hR dX5_as_82 ?_
            refine g_ldcw hR dX5_as_83 kc_X5_299 ?_
            refine g_cvI hR ciX5_finds dX5_as_86 ml_X5_60 (Nat.le_of_ble_eq_true rfl) (by decide) rfl rfl rfl (cm_f2 σ) rfl (Nat.le_of_ble_eq_true rfl) rfl ?_
            exact hE dX5_as_89 (rfl) (rfl)
        have lp : ∀ f k', k' ≤ f → f ≤ 6 → und f k' w = und 6 k w → G 51 [some (.ref 18), some (.int (nI i)), some (.int (nI w)), some (.int (nI p)), some (.int (nI k'))] [] σ := by
          intro f
          induction f with
          | zero =>
            intro k' h1 h2 h4
            obtain rfl : k' = 0 := by omega
            by_cases e : 0 = w
            · refine g_il_4 hR dX5_as_51 ?_
              refine g_il_2 hR dX5_as_53 ?_
              refine g_icmp_eq (tgt := 72) hR dX5_as_54 (by decide) (fun _ => ?_) (fun hc => absurd (congrArg nI e) hc)
              exact fin 0 (by decide) (Or.inl ⟨e, by rw [← h4]; exact decide_eq_true e⟩)
            · refine g_il_4 hR dX5_as_51 ?_
              refine g_il_2 hR dX5_as_53 ?_
              refine g_icmp_eq (tgt := 72) hR dX5_as_54 (by decide) (fun hc => absurd hc ((fun q => e ((nI_eq (by omega) (by omega)).mp q)))) (fun _ => ?_)
              refine g_il_4 hR dX5_as_57 ?_
              refine g_if_eq (tgt := 72) hR dX5_as_59 (by decide) (fun _ => ?_) (fun hc => absurd (rfl) hc)
              exact fin 0 (by decide) (Or.inr ⟨e, by rw [← h4]; exact decide_eq_false e⟩)
          | succ f ih =>
            intro k' h1 h2 h4
            rw [und] at h4
            by_cases e : k' = w
            · rw [if_pos e] at h4
              refine g_il_4 hR dX5_as_51 ?_
              refine g_il_2 hR dX5_as_53 ?_
              refine g_icmp_eq (tgt := 72) hR dX5_as_54 (by decide) (fun _ => ?_) (fun hc => absurd (congrArg nI e) hc)
              exact fin k' (by omega) (Or.inl ⟨e, h4.symm⟩)
            · rw [if_neg e] at h4
              by_cases e0' : k' = 0
              · subst e0'
                rw [if_pos rfl] at h4
                refine g_il_4 hR dX5_as_51 ?_
                refine g_il_2 hR dX5_as_53 ?_
                refine g_icmp_eq (tgt := 72) hR dX5_as_54 (by decide) (fun hc => absurd hc ((fun q => e ((nI_eq (by omega) (by omega)).mp q)))) (fun _ => ?_)
                refine g_il_4 hR dX5_as_57 ?_
                refine g_if_eq (tgt := 72) hR dX5_as_59 (by decide) (fun _ => ?_) (fun hc => absurd (rfl) hc)
                exact fin 0 (by decide) (Or.inr ⟨e, h4.symm⟩)
              · rw [if_neg e0'] at h4
                have hpl := par_lt k' (by omega) (by omega)
                refine g_il_4 hR dX5_as_51 ?_
                refine g_il_2 hR dX5_as_53 ?_
                refine g_icmp_eq (tgt := 72) hR dX5_as_54 (by decide) (fun hc => absurd hc ((fun q => e ((nI_eq (by omega) (by omega)).mp q)))) (fun _ => ?_)
                refine g_il_4 hR dX5_as_57 ?_
                refine g_if_eq (tgt := 72) hR dX5_as_59 (by decide) (fun hc => absurd hc (nI_ne0 (by omega) (by omega))) (fun _ => ?_)
                refine g_il_4 hR dX5_as_62 ?_
                refine g_csI hR ciX5_above dX5_as_64 ml_X5_296 (Nat.le_of_ble_eq_true rfl) (em_above (k := k') (by omega) σ) rfl (Nat.le_of_ble_eq_true rfl) rfl ?_
                refine g_is_4 hR dX5_as_67 trivial ?_
                refine g_goto (tgt := 51) hR dX5_as_69 (by decide) ?_
                exact ih (par k') (by omega) (by omega) h4
        refine g_al_0 hR dX5_as_43 ?_
        refine g_il_3 hR dX5_as_44 ?_
        refine g_iconst_0 hR dX5_as_45 ?_
        refine g_cvI hR ciX5_its dX5_as_46 ml_X5_73 (Nat.le_of_ble_eq_true rfl) (by decide) rfl rfl rfl ((em_its (p := p) (w := 0) (by omega) (by decide) σ).weak ek) rfl (Nat.le_of_ble_eq_true rfl) rfl ?_
        refine g_is_4 hR dX5_as_49 trivial ?_
        exact lp 6 k (by omega) (by omega) rfl
      · have he : σ 4 (54 + i) = -1 := by rw [i_le] at h3; rw [i_eq]; omega
        rw [if_pos he, if_pos he] at hE
        refine g_al_0 hR dX5_as_35 ?_
        refine g_ldcw hR dX5_as_36 kc_X5_295 ?_
        refine g_cvI hR ciX5_finds dX5_as_39 ml_X5_60 (Nat.le_of_ble_eq_true rfl) (by decide) rfl rfl rfl (cm_f5 σ) rfl (Nat.le_of_ble_eq_true rfl) rfl ?_
        exact hE dX5_as_42 (rfl) (rfl)
    · exact bad (fun q => bI_0.mp h2 q.2)
set_option maxRecDepth 100000 in
set_option maxHeartbeats 4000000 in
theorem cm_feed {t : Nat} (ht : t ≤ 120) (a b : Int32) (σ : Hp) (hT : σ 8 1 = nI t) : CtI yX5_feed wX5_feed 1 [.ref 18, .int a, .int b] σ (if 1 ≤ b ∧ b ≤ 4 then (if 120 < t + b.toNatClampNeg then -1000002 else nI (t + b.toNatClampNeg)) else -1000001) (if 1 ≤ b ∧ b ≤ 4 then (if 120 < t + b.toNatClampNeg then fnd σ 14 1 else bset (bset σ 10 (fedN (σ 10) t a b.toNatClampNeg b.toNatClampNeg)) 8 (upd (σ 8) 1 (nI (t + b.toNatClampNeg)))) else fnd σ 14 0) := by
  refine CtI.of (by decide) (Nat.le_of_ble_eq_true rfl) rfl rfl (fun G hR hE => ?_)
  refine g_il_2 hR dX5_feed_0 ?_
  refine g_i2l hR dX5_feed_1 ?_
  refine g_lconst (v := 1) hR dX5_feed_2 (by decide) ?_
  refine g_ldc2 hR dX5_feed_3 kl_X5_106 ?_
  refine g_csI hR ciX5_in dX5_feed_6 ml_X5_43 (Nat.le_of_ble_eq_true rfl) (ev_in b 1 4 rfl rfl σ) rfl (Nat.le_of_ble_eq_true rfl) rfl ?_
  refine g_if_ne (tgt := 19) hR dX5_feed_9 (by decide) (fun h => ?_) (fun h => ?_)
  · have hc := bI_no h
    rw [if_pos hc, if_pos hc] at hE
    obtain ⟨n, hn, rfl⟩ := nle 4 ⟨Int32.le_trans (by decide) hc.1, hc.2⟩ (by decide)
    have hn1 : 1 ≤ n := by have := hc.1; rw [i_le, i_n (by omega)] at this; have e1 : (1 : Int32).toInt = 1 := rfl; omega
    rw [show (nI n).toNatClampNeg = n from nI_clamp (by omega)] at hE
    refine g_al_0 hR dX5_feed_19 ?_
    refine gf_X5_taped hR fl_X5_197 dX5_feed_20 ?_
    refine g_top hT ?_
    refine g_il_2 hR dX5_feed_23 ?_
    refine g_iadd hR dX5_feed_24 ?_
    refine g_top (nI_add t n) ?_
    by_cases hf : 120 < t + n
    · rw [if_pos hf, if_pos hf] at hE
      refine g_bipush_120 hR dX5_feed_25 ?_
      refine g_icmp_le (tgt := 37) hR dX5_feed_27 (by decide) (fun hc => absurd hc (nI_ge (a := 120) hf (by omega))) (fun _ => ?_)
      refine g_al_0 hR dX5_feed_30 ?_
      refine g_ldc hR dX5_feed_31 kc_X5_69 ?_
      refine g_cvI hR ciX5_finds dX5_feed_33 ml_X5_60 (Nat.le_of_ble_eq_true rfl) (by decide) rfl rfl rfl (cm_f1 σ) rfl (Nat.le_of_ble_eq_true rfl) rfl ?_
      exact hE dX5_feed_36 (rfl) (rfl)
    · rw [if_neg hf, if_neg hf] at hE
      have lp : ∀ d' j, j + d' = n → G 41 [some (.ref 18), some (.int a), some (.int (nI n)), some (.int (nI d' - 1))] [] (bset (bset σ 10 (fedN (σ 10) t a n j)) 8 (upd (σ 8) 1 (nI (t + j)))) := by
        intro d'
        induction d' with
        | zero =>
          intro j hj
          obtain rfl : j = n := by omega
          refine g_il_3 hR dX5_feed_41 ?_
          refine g_if_lt (tgt := 80) hR dX5_feed_42 (by decide) (fun _ => ?_) (fun hc => absurd ((by decide)) hc)
          refine g_al_0 hR dX5_feed_80 ?_
          refine gf_X5_taped hR fl_X5_197 dX5_feed_81 ?_
          exact hE dX5_feed_84 (by rw [bset_s, upd_s]) (rfl)
        | succ d' ih =>
          intro j hj
          have hT2 : bset (bset σ 10 (fedN (σ 10) t a n j)) 8 (upd (σ 8) 1 (nI (t + j))) 8 1 = nI (t + j) := by rw [bset_s, upd_s]
          rw [nI_pred]
          refine g_il_3 hR dX5_feed_41 ?_
          refine g_if_lt (tgt := 80) hR dX5_feed_42 (by decide) (fun hc => absurd hc (nI_pos (by omega))) (fun _ => ?_)
          refine g_al_0 hR dX5_feed_45 ?_
          refine gf_X5_tape hR fl_X5_25 dX5_feed_46 ?_
          refine g_al_0 hR dX5_feed_49 ?_
          refine gf_X5_taped hR fl_X5_197 dX5_feed_50 ?_
          refine g_il_1 hR dX5_feed_53 ?_
          refine g_bipush_8 hR dX5_feed_54 ?_
          refine g_il_3 hR dX5_feed_56 ?_
          refine g_imul hR dX5_feed_57 ?_
          refine g_ishr hR dX5_feed_58 ?_
          refine g_sipush_255 hR dX5_feed_59 ?_
          refine g_iand hR dX5_feed_62 ?_
          refine g_top (byt_s a d' (by omega)) ?_
          refine gs_24 hR (t + j) (by omega) hT2 dX5_feed_63 ?_
          refine g_al_0 hR dX5_feed_64 ?_
          refine g_dup hR dX5_feed_65 rfl ?_
          refine gf_X5_taped hR fl_X5_197 dX5_feed_66 ?_
          refine g_iconst_1 hR dX5_feed_69 ?_
          refine g_iadd hR dX5_feed_70 ?_
          refine pf_X5_taped hR fl_X5_197 dX5_feed_71 ?_
          refine g_eq (τ := bset (bset σ 10 (fedN (σ 10) t a n (j + 1))) 8 (upd (σ 8) 1 (nI (t + (j + 1))))) (by simp only [hset_e]; rw [bset_n (show 8 ≠ 10 by decide), hT2, bset_s, bset_n (show 10 ≠ 8 by decide), bset_s, bset_comm (show 8 ≠ 10 by decide), bset_bset, bset_bset, upd_upd, fedN, show n - 1 - j = d' by omega, nI_1]; rfl) ?_
          refine g_ii_3 hR dX5_feed_74 (sub1 _) trivial ?_
          refine g_goto (tgt := 41) hR dX5_feed_77 (by decide) ?_
          exact ih (j + 1) (by omega)
      refine g_bipush_120 hR dX5_feed_25 ?_
      refine g_icmp_le (tgt := 37) hR dX5_feed_27 (by decide) (fun _ => ?_) (fun hc => absurd (nI_le (b := 120) (by omega) (by decide)) hc)
      refine g_il_2 hR dX5_feed_37 ?_
      refine g_iconst_1 hR dX5_feed_38 ?_
      refine g_isub hR dX5_feed_39 ?_
      refine g_is_3 hR dX5_feed_40 trivial ?_
      refine g_eq (τ := bset (bset σ 10 (fedN (σ 10) t a n 0)) 8 (upd (σ 8) 1 (nI (t + 0)))) (by show σ = bset (bset σ 10 (σ 10)) 8 (upd (σ 8) 1 (nI t)); rw [← hT, upd_id, bset_id, bset_id]) ?_
      exact lp n 0 (by omega)
  · refine g_al_0 hR dX5_feed_12 ?_
    refine g_ldc hR dX5_feed_13 kc_X5_40 ?_
    refine g_cvI hR ciX5_finds dX5_feed_15 ml_X5_60 (Nat.le_of_ble_eq_true rfl) (by decide) rfl rfl rfl (cm_f0 σ) rfl (Nat.le_of_ble_eq_true rfl) rfl ?_
    exact hE dX5_feed_18 ((if_neg (bI_0.mp h)).symm) ((if_neg (bI_0.mp h)).symm)
set_option maxRecDepth 100000 in
set_option maxHeartbeats 4000000 in
theorem em_draw (σ : Hp) : CtI yX5_draw wX5_draw 0 [.ref 18] σ (drwV (σ 4 5)) (bset σ 4 (upd (σ 4) 5 (drwZ (σ 4 5)))) := by
  refine CtI.of (by decide) (Nat.le_of_ble_eq_true rfl) rfl rfl (fun G hR hE => ?_)
  refine g_al_0 hR dX5_draw_0 ?_
  refine gf_X5_s hR fl_X5_7 dX5_draw_1 ?_
  refine g_iconst_5 hR dX5_draw_4 ?_
  refine g_al_0 hR dX5_draw_5 ?_
  refine gf_X5_s hR fl_X5_7 dX5_draw_6 ?_
  refine g_iconst_5 hR dX5_draw_9 ?_
  refine ga_19 hR 5 (by decide) rfl dX5_draw_10 ?_
  refine g_ldc hR dX5_draw_11 kc_X5_191 ?_
  refine g_imul hR dX5_draw_13 ?_
  refine g_sipush_12345 hR dX5_draw_14 ?_
  refine g_iadd hR dX5_draw_17 ?_
  refine gs_19 hR 5 (by decide) rfl dX5_draw_18 ?_
  refine g_al_0 hR dX5_draw_19 ?_
  refine gf_X5_s hR fl_X5_7 dX5_draw_20 ?_
  refine g_iconst_5 hR dX5_draw_23 ?_
  refine ga_19 hR 5 (by decide) rfl dX5_draw_24 ?_
  refine g_bipush_8 hR dX5_draw_25 ?_
  refine g_iushr hR dX5_draw_27 ?_
  exact hE dX5_draw_28 (by simp only [hset_e, bset_s, upd_s]; rfl) (rfl)
set_option maxRecDepth 100000 in
set_option maxHeartbeats 4000000 in
theorem cm_parcels {n : Nat} {d : Int} (a : Int32) (σ : Hp) (hG : Gd (σ 4) n d) (hd : d ≤ 40000) : CtP yX5_parcels wX5_parcels 6 [.ref 18, .int a] σ (if 1 ≤ a ∧ a ≤ 20 then prcN (σ 4) n a.toNatClampNeg 2 else -1000001) (fun σ' => Eb σ' (if 1 ≤ a ∧ a ≤ 20 then bset σ 4 (prcN (σ 4) n a.toNatClampNeg) else fnd σ 14 0)) := by
  refine CtP.of (by decide) (Nat.le_of_ble_eq_true rfl) rfl rfl (fun G hR hE => ?_)
  have hn8 := hG.1
  refine g_il_1 hR dX5_parcels_0 ?_
  refine g_i2l hR dX5_parcels_1 ?_
  refine g_lconst (v := 1) hR dX5_parcels_2 (by decide) ?_
  refine g_ldc2 hR dX5_parcels_3 kl_X5_176 ?_
  refine g_csI hR ciX5_in dX5_parcels_6 ml_X5_43 (Nat.le_of_ble_eq_true rfl) (ev_in a 1 20 rfl rfl σ) rfl (Nat.le_of_ble_eq_true rfl) rfl ?_
  refine g_if_ne (tgt := 19) hR dX5_parcels_9 (by decide) (fun h => ?_) (fun h => ?_)
  · have hc := bI_no h
    rw [if_pos hc, if_pos hc] at hE
    obtain ⟨c, hc2, rfl⟩ := nle 20 ⟨Int32.le_trans (by decide) hc.1, hc.2⟩ (by decide)
    rw [show (nI c).toNatClampNeg = c from nI_clamp (by omega)] at hE
    have lp : ∀ d' j x3 x4, j + d' = c → G 41 [some (.ref 18), some (.int (nI c)), some (.int (nI j)), x3, x4] [] (bset σ 4 (prcN (σ 4) n j)) := by
      intro d'
      induction d' with
      | zero =>
        intro j x3 x4 hj
        obtain rfl : j = c := by omega
        refine g_il_2 hR dX5_parcels_41 ?_
        refine g_il_1 hR dX5_parcels_42 ?_
        refine g_icmp_ge (tgt := 93) hR dX5_parcels_43 (by decide) (fun _ => ?_) (fun hc => absurd (Int32.le_refl _) hc)
        refine g_al_0 hR dX5_parcels_93 ?_
        refine gf_X5_s hR fl_X5_7 dX5_parcels_94 ?_
        refine g_iconst_2 hR dX5_parcels_97 ?_
        refine ga_19 hR 2 (by decide) rfl dX5_parcels_98 ?_
        exact hE dX5_parcels_99 (by rw [bset_s]) (Eb.rf _)
      | succ d' ih =>
        intro j x3 x4 hj
        have hg := Gd_prcN hG j (by omega)
        have hst := prc_st hg
        have e1 := fun x y => ih (j + 1) x y (by omega)
        rw [prcN, prc1] at e1
        generalize hP : prcN (σ 4) n j = Q at *
        obtain ⟨p, hp, ep⟩ := drw_r (Q 5) 8 (by decide) (by decide)
        obtain ⟨t, ht, et⟩ := drw_r (drwZ (Q 5)) 12 (by decide) (by decide)
        have ep : drwV (Q 5) - drwV (Q 5) / 8 * 8 = nI p := ep
        have et : drwV (drwZ (Q 5)) - drwV (drwZ (Q 5)) / 12 * 12 = nI t := et
        rw [ep, et, nI_clamp (by omega)] at e1 hst
        have e4 : bset σ 4 Q 4 = Q := bset_s σ 4 Q
        refine g_il_2 hR dX5_parcels_41 ?_
        refine g_il_1 hR dX5_parcels_42 ?_
        refine g_icmp_ge (tgt := 93) hR dX5_parcels_43 (by decide) (fun hc => absurd hc (nI_ge (by omega) (by omega))) (fun _ => ?_)
        refine g_al_0 hR dX5_parcels_46 ?_
        refine g_cvI hR ciX5_draw dX5_parcels_47 ml_X5_192 (Nat.le_of_ble_eq_true rfl) (by decide) rfl rfl rfl (em_draw (bset σ 4 Q)) rfl (Nat.le_of_ble_eq_true rfl) rfl ?_
        rw [e4, bset_bset]
        have e5 : bset σ 4 (upd Q 5 (drwZ (Q 5))) 4 5 = drwZ (Q 5) := by rw [bset_s, upd_s]
        refine g_bipush_8 hR dX5_parcels_50 ?_
        refine g_irem hR dX5_parcels_52 (by decide) ?_
        refine g_top ep ?_
        refine g_is_3 hR dX5_parcels_53 trivial ?_
        refine g_al_0 hR dX5_parcels_54 ?_
        refine g_cvI hR ciX5_draw dX5_parcels_55 ml_X5_192 (Nat.le_of_ble_eq_true rfl) (by decide) rfl rfl rfl ((em_draw _).weak (congrArg drwV e5)) rfl (Nat.le_of_ble_eq_true rfl) rfl ?_
        rw [e5, bset_s, bset_bset]
        refine g_bipush_12 hR dX5_parcels_58 ?_
        refine g_irem hR dX5_parcels_60 (by decide) ?_
        refine g_top et ?_
        have eM : bset σ 4 (upd (upd Q 5 (drwZ (Q 5))) 5 (drwZ (drwZ (Q 5)))) 4 1 = nI n := by rw [bset_s, upd_n (by decide), upd_n (by decide)]; exact hg.2.1
        by_cases hpn : p < n
        · have hin : 0 ≤ nI p ∧ nI p < nI n := ⟨nI_pos' (by omega), nI_lt hpn (by omega)⟩
          rw [if_pos hin] at hst e1
          refine g_is_4 hR dX5_parcels_61 trivial ?_
          refine g_al_0 hR dX5_parcels_63 ?_
          refine g_il_3 hR dX5_parcels_64 ?_
          refine g_cvI hR ciX5_isPiece dX5_parcels_65 ml_X5_95 (Nat.le_of_ble_eq_true rfl) (by decide) rfl rfl rfl (em_isPiece (nI p) hn8 _ eM) rfl (Nat.le_of_ble_eq_true rfl) rfl ?_
          refine g_if_eq (tgt := 83) hR dX5_parcels_68 (by decide) (fun hc => absurd hc (bI_pos ⟨hin.1, by rw [eM]; exact hin.2⟩)) (fun _ => ?_)
          refine g_al_0 hR dX5_parcels_71 ?_
          refine gf_X5_s hR fl_X5_7 dX5_parcels_72 ?_
          refine g_il_3 hR dX5_parcels_75 ?_
          refine g_iconst_1 hR dX5_parcels_76 ?_
          refine g_csI hR ciX5_place dX5_parcels_77 ml_X5_49 (Nat.le_of_ble_eq_true rfl) (em_place p 1 _) rfl (Nat.le_of_ble_eq_true rfl) rfl ?_
          refine g_il_4 hR dX5_parcels_80 ?_
          refine gs_19 hR (6 + (6 * p + 1)) (by omega) rfl dX5_parcels_82 ?_
          rw [hset_pf, bset_s, bset_bset]
          refine g_al_0 hR dX5_parcels_83 ?_
          refine g_cvV hR ciX5_day dX5_parcels_84 ml_X5_134 (Nat.le_of_ble_eq_true rfl) (by decide) rfl rfl rfl (em_day (n := n) (d := d + j) _ (by rw [bset_s]; exact hst) (by omega)) rfl (Nat.le_of_ble_eq_true rfl) rfl ?_
          refine g_inc_2 hR dX5_parcels_87 trivial ?_
          refine g_goto (tgt := 41) hR dX5_parcels_90 (by decide) ?_
          rw [bset_s, bset_bset]
          exact e1 _ _
        · have hin : ¬ (0 ≤ nI p ∧ nI p < nI n) := fun q => nI_nlt (by omega) (by omega) q.2
          rw [if_neg hin] at hst e1
          refine g_is_4 hR dX5_parcels_61 trivial ?_
          refine g_al_0 hR dX5_parcels_63 ?_
          refine g_il_3 hR dX5_parcels_64 ?_
          refine g_cvI hR ciX5_isPiece dX5_parcels_65 ml_X5_95 (Nat.le_of_ble_eq_true rfl) (by decide) rfl rfl rfl (em_isPiece (nI p) hn8 _ eM) rfl (Nat.le_of_ble_eq_true rfl) rfl ?_
          refine g_if_eq (tgt := 83) hR dX5_parcels_68 (by decide) (fun _ => ?_) (fun hc => absurd (bI_0.mpr (by rw [eM]; exact hin)) hc)
          refine g_al_0 hR dX5_parcels_83 ?_
          refine g_cvV hR ciX5_day dX5_parcels_84 ml_X5_134 (Nat.le_of_ble_eq_true rfl) (by decide) rfl rfl rfl (em_day (n := n) (d := d + j) _ (by rw [bset_s]; exact hst) (by omega)) rfl (Nat.le_of_ble_eq_true rfl) rfl ?_
          refine g_inc_2 hR dX5_parcels_87 trivial ?_
          refine g_goto (tgt := 41) hR dX5_parcels_90 (by decide) ?_
          rw [bset_s, bset_bset]
          exact e1 _ _
    refine g_al_0 hR dX5_parcels_19 ?_
    refine gf_X5_s hR fl_X5_7 dX5_parcels_20 ?_
    refine g_iconst_0 hR dX5_parcels_23 ?_
    refine ga_19 hR 0 (by decide) rfl dX5_parcels_24 ?_
    refine g_il_1 hR dX5_parcels_25 ?_
    refine g_iadd hR dX5_parcels_26 ?_
    refine g_ldc hR dX5_parcels_27 kc_X5_123 ?_
    refine g_icmp_le (tgt := 39) hR dX5_parcels_29 (by decide) (fun _ => ?_) (fun hc => absurd (day_c2 hG hd (by omega)) hc)
    refine g_iconst_0 hR dX5_parcels_39 ?_
    refine g_is_2 hR dX5_parcels_40 trivial ?_
    refine g_eq (τ := bset σ 4 (prcN (σ 4) n 0)) (bset_id σ 4).symm ?_
    exact lp c 0 none none (by omega)
  · rw [if_neg (bI_0.mp h), if_neg (bI_0.mp h)] at hE
    refine g_al_0 hR dX5_parcels_12 ?_
    refine g_ldc hR dX5_parcels_13 kc_X5_40 ?_
    refine g_cvI hR ciX5_finds dX5_parcels_15 ml_X5_60 (Nat.le_of_ble_eq_true rfl) (by decide) rfl rfl rfl (cm_f0 σ) rfl (Nat.le_of_ble_eq_true rfl) rfl ?_
    exact hE dX5_parcels_18 (rfl) (Eb.rf _)
set_option maxRecDepth 100000 in
set_option maxHeartbeats 4000000 in
theorem cm_odds {n : Nat} {d : Int} (a b : Int32) (σ : Hp) (hG : Gd (σ 4) n d) {m : Nat} (hm : m < 4096) (hM : plsN (σ 4) n = nI m) : CtL yX5_odds wX5_odds 3 [.ref 18, .int a, .int b] σ (if (0 ≤ a ∧ a ≤ 17) ∧ 0 ≤ b ∧ b ≤ 1 then powL (nI ((if b = 0 then pcn m else 12) / lowD (pcn m))).toInt64 a.toNatClampNeg else -1000001) (if (0 ≤ a ∧ a ≤ 17) ∧ 0 ≤ b ∧ b ≤ 1 then σ else fnd σ 14 0) := by
  refine CtL.of (by decide) (Nat.le_of_ble_eq_true rfl) rfl (fun G hR hE => ?_)
  have hn8 := hG.1
  have h12 := pcn12 m
  have bad : ¬ ((0 ≤ a ∧ a ≤ 17) ∧ 0 ≤ b ∧ b ≤ 1) → G 22 [some (.ref 18), some (.int a), some (.int b), none, none, none, none, none] [] σ := by
    intro h
    refine g_al_0 hR dX5_odds_22 ?_
    refine g_ldc hR dX5_odds_23 kc_X5_40 ?_
    refine g_cvI hR ciX5_finds dX5_odds_25 ml_X5_60 (Nat.le_of_ble_eq_true rfl) (by decide) rfl rfl rfl (cm_f0 σ) rfl (Nat.le_of_ble_eq_true rfl) rfl ?_
    refine g_i2l hR dX5_odds_28 ?_
    exact hE dX5_odds_29 (by rw [if_neg h]; decide) ((if_neg h).symm)
  refine g_il_1 hR dX5_odds_0 ?_
  refine g_i2l hR dX5_odds_1 ?_
  refine g_lconst (v := 0) hR dX5_odds_2 (by decide) ?_
  refine g_ldc2 hR dX5_odds_3 kl_X5_195 ?_
  refine g_csI hR ciX5_in dX5_odds_6 ml_X5_43 (Nat.le_of_ble_eq_true rfl) (ev_in a 0 17 rfl rfl σ) rfl (Nat.le_of_ble_eq_true rfl) rfl ?_
  refine g_if_eq (tgt := 22) hR dX5_odds_9 (by decide) (fun h1 => ?_) (fun h1 => ?_)
  · exact bad (fun q => bI_0.mp h1 q.1)
  · refine g_il_2 hR dX5_odds_12 ?_
    refine g_i2l hR dX5_odds_13 ?_
    refine g_lconst (v := 0) hR dX5_odds_14 (by decide) ?_
    refine g_lconst (v := 1) hR dX5_odds_15 (by decide) ?_
    refine g_csI hR ciX5_in dX5_odds_16 ml_X5_43 (Nat.le_of_ble_eq_true rfl) (ev_in b 0 1 rfl rfl σ) rfl (Nat.le_of_ble_eq_true rfl) rfl ?_
    refine g_if_ne (tgt := 30) hR dX5_odds_19 (by decide) (fun h2 => ?_) (fun h2 => ?_)
    · have hc := And.intro (bI_no h1) (bI_no h2)
      rw [if_pos hc, if_pos hc] at hE
      obtain ⟨c, hc2, rfl⟩ := nle 17 hc.1 (by decide)
      rw [show (nI c).toNatClampNeg = c from nI_clamp (by omega)] at hE
      have hD1 : 1 ≤ lowD (pcn m) ∧ lowD (pcn m) ≤ 12 := by
        unfold lowD
        cases hf : fstN (lowC (pcn m)) 11 with
        | none => exact ⟨by decide, by decide⟩
        | some q => have := fstN_lt hf; show 1 ≤ 12 - q ∧ 12 - q ≤ 12; omega
      generalize hx : (nI ((if b = 0 then pcn m else 12) / lowD (pcn m))).toInt64 = x at hE
      have lp2 : ∀ d' j, j + d' = c → G 69 [some (.ref 18), some (.int (nI c)), some (.int b), some (.int (nI (pcn m))), some (.int (nI (lowD (pcn m)))), some (.long (powL x j)), none, some (.int (nI j))] [] σ := by
        intro d'
        induction d' with
        | zero =>
          intro j hj
          obtain rfl : j = c := by omega
          refine g_il_7 hR dX5_odds_69 ?_
          refine g_il_1 hR dX5_odds_71 ?_
          refine g_icmp_ge (tgt := 104) hR dX5_odds_72 (by decide) (fun _ => ?_) (fun hc => absurd (Int32.le_refl _) hc)
          refine g_ll_5 hR dX5_odds_104 ?_
          exact hE dX5_odds_106 (rfl) (rfl)
        | succ d' ih =>
          intro j hj
          have e0 := ih (j + 1) (by omega)
          by_cases hb : b = 0
          · rw [if_pos hb] at hx
            refine g_il_7 hR dX5_odds_69 ?_
            refine g_il_1 hR dX5_odds_71 ?_
            refine g_icmp_ge (tgt := 104) hR dX5_odds_72 (by decide) (fun hc => absurd hc (nI_ge (by omega) (by omega))) (fun _ => ?_)
            refine g_ll_5 hR dX5_odds_75 ?_
            refine g_il_2 hR dX5_odds_77 ?_
            refine g_if_ne (tgt := 89) hR dX5_odds_78 (by decide) (fun hc => absurd (hb) hc) (fun _ => ?_)
            refine g_il_3 hR dX5_odds_81 ?_
            refine g_il_4 hR dX5_odds_82 ?_
            refine g_idiv hR dX5_odds_84 (nI_ne0 (by omega) (by omega)) ?_
            refine g_top (pk_div (by omega) (by omega) (by omega)) ?_
            refine g_i2l hR dX5_odds_85 ?_
            rw [hx]
            refine g_goto (tgt := 95) hR dX5_odds_86 (by decide) ?_
            refine g_lmul hR dX5_odds_95 ?_
            refine g_lstore hR dX5_odds_96 trivial (Nat.le_of_ble_eq_true rfl) rfl ?_
            refine g_inc_7 hR dX5_odds_98 trivial ?_
            refine g_goto (tgt := 69) hR dX5_odds_101 (by decide) ?_
            exact e0
          · rw [if_neg hb] at hx
            refine g_il_7 hR dX5_odds_69 ?_
            refine g_il_1 hR dX5_odds_71 ?_
            refine g_icmp_ge (tgt := 104) hR dX5_odds_72 (by decide) (fun hc => absurd hc (nI_ge (by omega) (by omega))) (fun _ => ?_)
            refine g_ll_5 hR dX5_odds_75 ?_
            refine g_il_2 hR dX5_odds_77 ?_
            refine g_if_ne (tgt := 89) hR dX5_odds_78 (by decide) (fun _ => ?_) (fun hc => absurd hc (hb))
            refine g_bipush_12 hR dX5_odds_89 ?_
            refine g_il_4 hR dX5_odds_91 ?_
            refine g_idiv hR dX5_odds_93 (nI_ne0 (by omega) (by omega)) ?_
            refine g_top (pk_div (a := 12) (by omega) (by omega) (by omega)) ?_
            refine g_i2l hR dX5_odds_94 ?_
            rw [hx]
            refine g_lmul hR dX5_odds_95 ?_
            refine g_lstore hR dX5_odds_96 trivial (Nat.le_of_ble_eq_true rfl) rfl ?_
            refine g_inc_7 hR dX5_odds_98 trivial ?_
            refine g_goto (tgt := 69) hR dX5_odds_101 (by decide) ?_
            exact e0
      have lp : ∀ d' j, j + d' = 11 → fstN (lowC (pcn m)) j = none → G 42 [some (.ref 18), some (.int (nI c)), some (.int b), some (.int (nI (pcn m))), some (.int (nI (d' + 1))), none, none, none] [] σ := by
        intro d'
        induction d' with
        | zero =>
          intro j hj hf
          have e11 : j = 11 := by omega
          rw [e11] at hf
          have el : lowD (pcn m) = 1 := by unfold lowD; rw [hf]; rfl
          refine g_il_3 hR dX5_odds_42 ?_
          refine g_il_4 hR dX5_odds_43 ?_
          refine g_irem hR dX5_odds_45 (by decide) ?_
          refine g_top (pk_rem (a := pcn m) (d := 1) (by omega) (by decide) (by decide)) ?_
          rw [Nat.mod_one]
          refine g_if_ne (tgt := 57) hR dX5_odds_46 (by decide) (fun hc => absurd (rfl) hc) (fun _ => ?_)
          refine g_bipush_12 hR dX5_odds_49 ?_
          refine g_il_4 hR dX5_odds_51 ?_
          refine g_irem hR dX5_odds_53 (by decide) ?_
          refine g_if_eq (tgt := 63) hR dX5_odds_54 (by decide) (fun _ => ?_) (fun hc => absurd ((by decide)) hc)
          refine g_lconst (v := 1) hR dX5_odds_63 (by decide) ?_
          refine g_lstore hR dX5_odds_64 trivial (Nat.le_of_ble_eq_true rfl) rfl ?_
          refine g_iconst_0 hR dX5_odds_66 ?_
          refine g_is_7 hR dX5_odds_67 trivial ?_
          rw [el] at lp2
          exact lp2 c 0 (by omega)
        | succ d' ih =>
          intro j hj hf
          have ed : 12 - j = d' + 1 + 1 := by omega
          have next : lowC (pcn m) j = false → G 57 [some (.ref 18), some (.int (nI c)), some (.int b), some (.int (nI (pcn m))), some (.int (nI (d' + 1 + 1))), none, none, none] [] σ := by
            intro hcf
            refine g_dec_4 hR dX5_odds_57 trivial ?_
            refine g_goto (tgt := 42) hR dX5_odds_60 (by decide) ?_
            exact ih (j + 1) (by omega) (fstN_none hf hcf)
          refine g_il_3 hR dX5_odds_42 ?_
          refine g_il_4 hR dX5_odds_43 ?_
          refine g_irem hR dX5_odds_45 (nI_ne0 (by omega) (by omega)) ?_
          refine g_top (pk_rem (a := pcn m) (d := d' + 1 + 1) (by omega) (by omega) (by omega)) ?_
          by_cases h5 : pcn m % (d' + 1 + 1) = 0
          · rw [h5]
            refine g_if_ne (tgt := 57) hR dX5_odds_46 (by decide) (fun hc => absurd (rfl) hc) (fun _ => ?_)
            refine g_bipush_12 hR dX5_odds_49 ?_
            refine g_il_4 hR dX5_odds_51 ?_
            refine g_irem hR dX5_odds_53 (nI_ne0 (by omega) (by omega)) ?_
            refine g_top (pk_rem (a := 12) (d := d' + 1 + 1) (by omega) (by omega) (by omega)) ?_
            by_cases h6 : 12 % (d' + 1 + 1) = 0
            · have hfst := fstN_first hf (decide_eq_true (by rw [ed]; exact ⟨h5, h6⟩)) d'
              rw [show j + 1 + d' = 11 by omega] at hfst
              have el : lowD (pcn m) = d' + 1 + 1 := by unfold lowD; rw [hfst]; exact ed
              rw [h6]
              refine g_if_eq (tgt := 63) hR dX5_odds_54 (by decide) (fun _ => ?_) (fun hc => absurd (rfl) hc)
              refine g_lconst (v := 1) hR dX5_odds_63 (by decide) ?_
              refine g_lstore hR dX5_odds_64 trivial (Nat.le_of_ble_eq_true rfl) rfl ?_
              refine g_iconst_0 hR dX5_odds_66 ?_
              refine g_is_7 hR dX5_odds_67 trivial ?_
              rw [← el]
              exact lp2 c 0 (by omega)
            · refine g_if_eq (tgt := 63) hR dX5_odds_54 (by decide) (fun hc => absurd hc (nI_ne0 (by omega) (by have := Nat.mod_lt 12 (show 0 < d' + 1 + 1 by omega); omega))) (fun _ => ?_)
              exact next (decide_eq_false (by rw [ed]; exact fun q => h6 q.2))
          · refine g_if_ne (tgt := 57) hR dX5_odds_46 (by decide) (fun _ => ?_) (fun hc => absurd hc (nI_ne0 (by omega) (by have := Nat.mod_lt (pcn m) (show 0 < d' + 1 + 1 by omega); omega)))
            exact next (decide_eq_false (by rw [ed]; exact fun q => h5 q.1))
      refine g_al_0 hR dX5_odds_30 ?_
      refine g_cvI hR ciX5_drawn dX5_odds_31 ml_X5_142 (Nat.le_of_ble_eq_true rfl) (by decide) rfl rfl rfl ((em_drawn hn8 σ hG.2.1).weak hM) rfl (Nat.le_of_ble_eq_true rfl) rfl ?_
      refine g_csI hR ciX5_ones dX5_odds_34 ml_X5_178 (Nat.le_of_ble_eq_true rfl) (em_ones hm σ) rfl (Nat.le_of_ble_eq_true rfl) rfl ?_
      refine g_is_3 hR dX5_odds_37 trivial ?_
      refine g_bipush_12 hR dX5_odds_38 ?_
      refine g_is_4 hR dX5_odds_40 trivial ?_
      exact lp 11 0 rfl rfl
    · exact bad (fun q => bI_0.mp h2 q.2)
