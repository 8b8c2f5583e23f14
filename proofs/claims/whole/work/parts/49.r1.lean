set_option maxRecDepth 100000 in
set_option maxHeartbeats 4000000 in
theorem ev_byteAt {i t : Nat} (hi : i ≤ 1000) (ht : t ≤ 120) (σ : Hp) (hT : σ 3 1 = nI t) : CtI yX1_byteAt wX1_byteAt 0 [.ref 10, .int (nI i)] σ (byV (σ 9) t i) (σ) := by
  refine CtI.of (by decide) (Nat.le_of_ble_eq_true rfl) rfl rfl (fun G hR hE => ?_)
  by_cases h : i < t
  · refine g_il_1 hR dX1_byteAt_0 ?_
    refine g_if_lt (tgt := 27) hR dX1_byteAt_1 (by decide) (fun hc => absurd hc (nI_pos (by omega))) (fun _ => ?_)
    refine g_il_1 hR dX1_byteAt_4 ?_
    refine g_al_0 hR dX1_byteAt_5 ?_
    refine gf_X1_size hR fl_X1_9 dX1_byteAt_6 ?_
    refine g_top (hT) ?_
    refine g_icmp_ge (tgt := 27) hR dX1_byteAt_9 (by decide) (fun hc => absurd hc (nI_ge h (by omega))) (fun _ => ?_)
    refine g_il_1 hR dX1_byteAt_12 ?_
    refine g_bipush_120 hR dX1_byteAt_13 ?_
    refine g_icmp_ge (tgt := 27) hR dX1_byteAt_15 (by decide) (fun hc => absurd hc (nI_ge (b := 120) (by omega) (by decide))) (fun _ => ?_)
    refine g_al_0 hR dX1_byteAt_18 ?_
    refine gf_X1_bytes hR fl_X1_15 dX1_byteAt_19 ?_
    refine g_il_1 hR dX1_byteAt_22 ?_
    refine ga_11 hR i (by omega) rfl dX1_byteAt_23 ?_
    refine g_goto (tgt := 28) hR dX1_byteAt_24 (by decide) ?_
    exact hE dX1_byteAt_28 ((by_in h).symm) (rfl)
  · refine g_il_1 hR dX1_byteAt_0 ?_
    refine g_if_lt (tgt := 27) hR dX1_byteAt_1 (by decide) (fun hc => absurd hc (nI_pos (by omega))) (fun _ => ?_)
    refine g_il_1 hR dX1_byteAt_4 ?_
    refine g_al_0 hR dX1_byteAt_5 ?_
    refine gf_X1_size hR fl_X1_9 dX1_byteAt_6 ?_
    refine g_top (hT) ?_
    refine g_icmp_ge (tgt := 27) hR dX1_byteAt_9 (by decide) (fun _ => ?_) (fun hc => absurd (nI_le (by omega) (by omega)) hc)
    refine g_iconst_m1 hR dX1_byteAt_27 ?_
    exact hE dX1_byteAt_28 ((by_out h).symm) (rfl)
set_option maxRecDepth 100000 in
set_option maxHeartbeats 4000000 in
theorem ev_isLetter (v : Int32) (σ : Hp) : CtI yX2_isLetter wX2_isLetter 0 [.int v] σ (bI (97 ≤ v ∧ v ≤ 122)) (σ) := by
  refine CtI.of (by decide) (Nat.le_of_ble_eq_true rfl) (bI_nar _) rfl (fun G hR hE => ?_)
  refine g_il_0 hR dX2_isLetter_0 ?_
  refine g_bipush_97 hR dX2_isLetter_1 ?_
  refine g_icmp_lt (tgt := 16) hR dX2_isLetter_3 (by decide) (fun h1 => ?_) (fun h1 => ?_)
  · refine g_iconst_0 hR dX2_isLetter_16 ?_
    exact hE dX2_isLetter_17 (bI_f (fun q => Int32.not_le.mpr h1 q.1)) (rfl)
  · refine g_il_0 hR dX2_isLetter_6 ?_
    refine g_bipush_122 hR dX2_isLetter_7 ?_
    refine g_icmp_gt (tgt := 16) hR dX2_isLetter_9 (by decide) (fun h2 => ?_) (fun h2 => ?_)
    · refine g_iconst_0 hR dX2_isLetter_16 ?_
      exact hE dX2_isLetter_17 (bI_f (fun q => Int32.not_le.mpr h2 q.2)) (rfl)
    · refine g_iconst_1 hR dX2_isLetter_12 ?_
      refine g_goto (tgt := 17) hR dX2_isLetter_13 (by decide) ?_
      exact hE dX2_isLetter_17 (bI_t ⟨Int32.not_lt.mp h1, Int32.not_lt.mp h2⟩) (rfl)
set_option maxRecDepth 100000 in
set_option maxHeartbeats 4000000 in
theorem ev_isDigit (v : Int32) (σ : Hp) : CtI yX2_isDigit wX2_isDigit 0 [.int v] σ (bI (48 ≤ v ∧ v ≤ 57)) (σ) := by
  refine CtI.of (by decide) (Nat.le_of_ble_eq_true rfl) (bI_nar _) rfl (fun G hR hE => ?_)
  refine g_il_0 hR dX2_isDigit_0 ?_
  refine g_bipush_48 hR dX2_isDigit_1 ?_
  refine g_icmp_lt (tgt := 16) hR dX2_isDigit_3 (by decide) (fun h1 => ?_) (fun h1 => ?_)
  · refine g_iconst_0 hR dX2_isDigit_16 ?_
    exact hE dX2_isDigit_17 (bI_f (fun q => Int32.not_le.mpr h1 q.1)) (rfl)
  · refine g_il_0 hR dX2_isDigit_6 ?_
    refine g_bipush_57 hR dX2_isDigit_7 ?_
    refine g_icmp_gt (tgt := 16) hR dX2_isDigit_9 (by decide) (fun h2 => ?_) (fun h2 => ?_)
    · refine g_iconst_0 hR dX2_isDigit_16 ?_
      exact hE dX2_isDigit_17 (bI_f (fun q => Int32.not_le.mpr h2 q.2)) (rfl)
    · refine g_iconst_1 hR dX2_isDigit_12 ?_
      refine g_goto (tgt := 17) hR dX2_isDigit_13 (by decide) ?_
      exact hE dX2_isDigit_17 (bI_t ⟨Int32.not_lt.mp h1, Int32.not_lt.mp h2⟩) (rfl)
set_option maxRecDepth 100000 in
set_option maxHeartbeats 4000000 in
theorem ev_takeWord {s t : Nat} (hs : s ≤ t) (ht : t ≤ 120) (σ : Hp) (hT : σ 3 1 = nI t) (h1 : σ 20 1 = nI s) : CtV yX2_takeWord wX2_takeWord 1 [.ref 12] σ (bset σ 20 (upd (upd (σ 20) 0 1) 2 (nI (runN (leB (σ 9) t) t s)))) := by
  refine CtV.of (by decide) (Nat.le_of_ble_eq_true rfl) rfl (fun G hR hE => ?_)
  have lp : ∀ d' j, j + d' = t → runN (leB (σ 9) t) t s = runN (leB (σ 9) t) t j → G 13 [some (.ref 12)] [] (bset σ 20 (upd (upd (σ 20) 0 1) 2 (nI j))) := by
    intro d'
    induction d' with
    | zero =>
      intro j hj hr
      have e2 : bset σ 20 (upd (upd (σ 20) 0 1) 2 (nI j)) 20 2 = nI j := by rw [bset_s, upd_s]
      have e3 : bset σ 20 (upd (upd (σ 20) 0 1) 2 (nI j)) 3 1 = nI t := by rw [bset_n (by decide)]; exact hT
      rw [run_o (p := j) (by omega)] at hr
      refine g_al_0 hR dX2_takeWord_13 ?_
      refine gf_X2_tokenEnd hR fl_X2_18 dX2_takeWord_14 ?_
      refine g_top (e2) ?_
      refine g_al_0 hR dX2_takeWord_17 ?_
      refine gf_X2_tape hR fl_X2_24 dX2_takeWord_18 ?_
      refine gf_X1_size hR fl_X2_116 dX2_takeWord_21 ?_
      refine g_top (e3) ?_
      refine g_icmp_ge (tgt := 57) hR dX2_takeWord_24 (by decide) (fun _ => ?_) (fun hc => absurd (nI_le (by omega) (by omega)) hc)
      exact hE dX2_takeWord_57 (by rw [hr])
    | succ d' ih =>
      intro j hj hr
      have e2 : bset σ 20 (upd (upd (σ 20) 0 1) 2 (nI j)) 20 2 = nI j := by rw [bset_s, upd_s]
      have e3 : bset σ 20 (upd (upd (σ 20) 0 1) 2 (nI j)) 3 1 = nI t := by rw [bset_n (by decide)]; exact hT
      have e9 : bset σ 20 (upd (upd (σ 20) 0 1) 2 (nI j)) 9 = σ 9 := bset_n (by decide)
      have e1 := ih (j + 1) (by omega)
      refine g_al_0 hR dX2_takeWord_13 ?_
      refine gf_X2_tokenEnd hR fl_X2_18 dX2_takeWord_14 ?_
      refine g_top (e2) ?_
      refine g_al_0 hR dX2_takeWord_17 ?_
      refine gf_X2_tape hR fl_X2_24 dX2_takeWord_18 ?_
      refine gf_X1_size hR fl_X2_116 dX2_takeWord_21 ?_
      refine g_top (e3) ?_
      refine g_icmp_ge (tgt := 57) hR dX2_takeWord_24 (by decide) (fun hc => absurd hc (nI_ge (by omega) (by omega))) (fun _ => ?_)
      refine g_al_0 hR dX2_takeWord_27 ?_
      refine gf_X2_tape hR fl_X2_24 dX2_takeWord_28 ?_
      refine g_al_0 hR dX2_takeWord_31 ?_
      refine gf_X2_tokenEnd hR fl_X2_18 dX2_takeWord_32 ?_
      refine g_top (e2) ?_
      refine g_cvI hR ciX1_byteAt dX2_takeWord_35 ml_X2_110 (Nat.le_of_ble_eq_true rfl) (by decide) rfl rfl rfl (ev_byteAt (i := j) (t := t) (by omega) ht _ e3) rfl (Nat.le_of_ble_eq_true rfl) rfl ?_
      refine g_csI hR ciX2_isLetter dX2_takeWord_38 ml_X2_119 (Nat.le_of_ble_eq_true rfl) (ev_isLetter _ _) rfl (Nat.le_of_ble_eq_true rfl) rfl ?_
      refine g_if_eq (tgt := 57) hR dX2_takeWord_41 (by decide) (fun h => ?_) (fun h => ?_)
      · have hc : leB (σ 9) t j = false := decide_eq_false (by rw [← e9]; exact bI_0.mp h)
        rw [run_f hc] at hr
        exact hE dX2_takeWord_57 (by rw [hr])
      · have hc : leB (σ 9) t j = true := decide_eq_true (by rw [← e9]; exact bI_no h)
        refine g_al_0 hR dX2_takeWord_44 ?_
        refine g_dup hR dX2_takeWord_45 rfl ?_
        refine gf_X2_tokenEnd hR fl_X2_18 dX2_takeWord_46 ?_
        refine g_top (e2) ?_
        refine g_iconst_1 hR dX2_takeWord_49 ?_
        refine g_iadd hR dX2_takeWord_50 ?_
        refine pf_X2_tokenEnd hR fl_X2_18 dX2_takeWord_51 ?_
        refine g_eq (τ := bset σ 20 (upd (upd (σ 20) 0 1) 2 (nI (j + 1)))) (by rw [bs_u, upd_upd, nI_1]) ?_
        refine g_goto (tgt := 13) hR dX2_takeWord_54 (by decide) ?_
        exact e1 (by rw [hr]; exact run_t hc (by omega))
  refine g_al_0 hR dX2_takeWord_0 ?_
  refine g_iconst_1 hR dX2_takeWord_1 ?_
  refine pf_X2_tokenSort hR fl_X2_11 dX2_takeWord_2 ?_
  refine g_al_0 hR dX2_takeWord_5 ?_
  refine g_al_0 hR dX2_takeWord_6 ?_
  refine gf_X2_tokenStart hR fl_X2_15 dX2_takeWord_7 ?_
  refine g_top (show _ = nI s by rw [hset_e, bset_s, upd_n (by decide)]; exact h1) ?_
  refine pf_X2_tokenEnd hR fl_X2_18 dX2_takeWord_10 ?_
  refine g_eq (τ := bset σ 20 (upd (upd (σ 20) 0 1) 2 (nI s))) (by rw [hset_e σ, bs_u]) ?_
  exact lp (t - s) s (by omega) rfl
set_option maxRecDepth 100000 in
set_option maxHeartbeats 4000000 in
theorem ev_takeNumber {s t : Nat} (hs : s ≤ t) (ht : t ≤ 120) (σ : Hp) (hT : σ 3 1 = nI t) (h1 : σ 20 1 = nI s) : CtV yX2_takeNumber wX2_takeNumber 1 [.ref 12] σ (bset σ 20 (upd (upd (upd (σ 20) 0 2) 2 (nI (runN (diB (σ 9) t) t s))) 3 (nI (nuC (σ 9) s (runN (diB (σ 9) t) t s - s))))) := by
  refine CtV.of (by decide) (Nat.le_of_ble_eq_true rfl) rfl (fun G hR hE => ?_)
  have lp : ∀ d' j, s ≤ j → j + d' = t → runN (diB (σ 9) t) t s = runN (diB (σ 9) t) t j → G 18 [some (.ref 12)] [] (bset σ 20 (upd (upd (upd (σ 20) 0 2) 2 (nI j)) 3 (nI (nuC (σ 9) s (j - s))))) := by
    intro d'
    induction d' with
    | zero =>
      intro j hsj hj hr
      have e2 : bset σ 20 (upd (upd (upd (σ 20) 0 2) 2 (nI j)) 3 (nI (nuC (σ 9) s (j - s)))) 20 2 = nI j := by rw [bset_s, upd_n (by decide), upd_s]
      have e3 : bset σ 20 (upd (upd (upd (σ 20) 0 2) 2 (nI j)) 3 (nI (nuC (σ 9) s (j - s)))) 3 1 = nI t := by rw [bset_n (by decide)]; exact hT
      rw [run_o (p := j) (by omega)] at hr
      refine g_al_0 hR dX2_takeNumber_18 ?_
      refine gf_X2_tokenEnd hR fl_X2_18 dX2_takeNumber_19 ?_
      refine g_top (e2) ?_
      refine g_al_0 hR dX2_takeNumber_22 ?_
      refine gf_X2_tape hR fl_X2_24 dX2_takeNumber_23 ?_
      refine gf_X1_size hR fl_X2_116 dX2_takeNumber_26 ?_
      refine g_top (e3) ?_
      refine g_icmp_ge (tgt := 94) hR dX2_takeNumber_29 (by decide) (fun _ => ?_) (fun hc => absurd (nI_le (by omega) (by omega)) hc)
      exact hE dX2_takeNumber_94 (by rw [hr])
    | succ d' ih =>
      intro j hsj hj hr
      have e2 : bset σ 20 (upd (upd (upd (σ 20) 0 2) 2 (nI j)) 3 (nI (nuC (σ 9) s (j - s)))) 20 2 = nI j := by rw [bset_s, upd_n (by decide), upd_s]
      have e23 : bset σ 20 (upd (upd (upd (σ 20) 0 2) 2 (nI j)) 3 (nI (nuC (σ 9) s (j - s)))) 20 3 = nI (nuC (σ 9) s (j - s)) := by rw [bset_s, upd_s]
      have e3 : bset σ 20 (upd (upd (upd (σ 20) 0 2) 2 (nI j)) 3 (nI (nuC (σ 9) s (j - s)))) 3 1 = nI t := by rw [bset_n (by decide)]; exact hT
      have e9 : bset σ 20 (upd (upd (upd (σ 20) 0 2) 2 (nI j)) 3 (nI (nuC (σ 9) s (j - s)))) 9 = σ 9 := bset_n (by decide)
      have e1 := ih (j + 1) (by omega) (by omega)
      refine g_al_0 hR dX2_takeNumber_18 ?_
      refine gf_X2_tokenEnd hR fl_X2_18 dX2_takeNumber_19 ?_
      refine g_top (e2) ?_
      refine g_al_0 hR dX2_takeNumber_22 ?_
      refine gf_X2_tape hR fl_X2_24 dX2_takeNumber_23 ?_
      refine gf_X1_size hR fl_X2_116 dX2_takeNumber_26 ?_
      refine g_top (e3) ?_
      refine g_icmp_ge (tgt := 94) hR dX2_takeNumber_29 (by decide) (fun hc => absurd hc (nI_ge (by omega) (by omega))) (fun _ => ?_)
      refine g_al_0 hR dX2_takeNumber_32 ?_
      refine gf_X2_tape hR fl_X2_24 dX2_takeNumber_33 ?_
      refine g_al_0 hR dX2_takeNumber_36 ?_
      refine gf_X2_tokenEnd hR fl_X2_18 dX2_takeNumber_37 ?_
      refine g_top (e2) ?_
      refine g_cvI hR ciX1_byteAt dX2_takeNumber_40 ml_X2_110 (Nat.le_of_ble_eq_true rfl) (by decide) rfl rfl rfl (ev_byteAt (i := j) (t := t) (by omega) ht _ e3) rfl (Nat.le_of_ble_eq_true rfl) rfl ?_
      refine g_csI hR ciX2_isDigit dX2_takeNumber_43 ml_X2_125 (Nat.le_of_ble_eq_true rfl) (ev_isDigit _ _) rfl (Nat.le_of_ble_eq_true rfl) rfl ?_
      refine g_if_eq (tgt := 94) hR dX2_takeNumber_46 (by decide) (fun h => ?_) (fun h => ?_)
      · have hc : diB (σ 9) t j = false := decide_eq_false (by rw [← e9]; exact bI_0.mp h)
        rw [run_f hc] at hr
        exact hE dX2_takeNumber_94 (by rw [hr])
      · have hc : diB (σ 9) t j = true := decide_eq_true (by rw [← e9]; exact bI_no h)
        obtain ⟨d9, db, dV⟩ := di_b hc
        have hle := nuC_le (σ 9) s (j - s)
        have eN : nuC (σ 9) s (j + 1 - s) = if 1000 < 10 * nuC (σ 9) s (j - s) + dgB (σ 9 j) then 1000 else 10 * nuC (σ 9) s (j - s) + dgB (σ 9 j) := by
          rw [show j + 1 - s = (j - s) + 1 by omega, nuC, show s + (j - s) = j by omega]
        refine g_al_0 hR dX2_takeNumber_49 ?_
        refine g_sipush_1000 hR dX2_takeNumber_50 ?_
        refine g_al_0 hR dX2_takeNumber_53 ?_
        refine gf_X2_tokenNumber hR fl_X2_21 dX2_takeNumber_54 ?_
        refine g_top (e23) ?_
        refine g_bipush_10 hR dX2_takeNumber_57 ?_
        refine g_imul hR dX2_takeNumber_59 ?_
        refine g_al_0 hR dX2_takeNumber_60 ?_
        refine gf_X2_tape hR fl_X2_24 dX2_takeNumber_61 ?_
        refine g_al_0 hR dX2_takeNumber_64 ?_
        refine gf_X2_tokenEnd hR fl_X2_18 dX2_takeNumber_65 ?_
        refine g_top (e2) ?_
        refine g_cvI hR ciX1_byteAt dX2_takeNumber_68 ml_X2_110 (Nat.le_of_ble_eq_true rfl) (by decide) rfl rfl rfl (ev_byteAt (i := j) (t := t) (by omega) ht _ e3) rfl (Nat.le_of_ble_eq_true rfl) rfl ?_
        refine g_iadd hR dX2_takeNumber_71 ?_
        refine g_bipush_48 hR dX2_takeNumber_72 ?_
        refine g_isub hR dX2_takeNumber_74 ?_
        refine g_top (show _ = nI (10 * nuC (σ 9) s (j - s) + dgB (σ 9 j)) by rw [e9]; exact nu_st dV) ?_
        refine g_min hR (Nat.le_of_ble_eq_true rfl) ml_X2_131 dX2_takeNumber_75 (Nat.le_of_ble_eq_true rfl) ?_
        refine g_top (show _ = nI (nuC (σ 9) s (j + 1 - s)) by rw [eN]; exact nu_mn (by omega)) ?_
        refine pf_X2_tokenNumber hR fl_X2_21 dX2_takeNumber_78 ?_
        refine g_eq (τ := bset σ 20 (upd (upd (upd (σ 20) 0 2) 2 (nI j)) 3 (nI (nuC (σ 9) s (j + 1 - s))))) (by rw [bs_u, upd_upd]) ?_
        refine g_al_0 hR dX2_takeNumber_81 ?_
        refine g_dup hR dX2_takeNumber_82 rfl ?_
        refine gf_X2_tokenEnd hR fl_X2_18 dX2_takeNumber_83 ?_
        refine g_top (show _ = nI j by rw [bset_s, upd_n (by decide), upd_s]) ?_
        refine g_iconst_1 hR dX2_takeNumber_86 ?_
        refine g_iadd hR dX2_takeNumber_87 ?_
        refine pf_X2_tokenEnd hR fl_X2_18 dX2_takeNumber_88 ?_
        refine g_eq (τ := bset σ 20 (upd (upd (upd (σ 20) 0 2) 2 (nI (j + 1))) 3 (nI (nuC (σ 9) s (j + 1 - s))))) (by rw [bs_u, nI_1, upd_sw (show (3 : Nat) ≠ 2 by decide), upd_upd]) ?_
        refine g_goto (tgt := 18) hR dX2_takeNumber_91 (by decide) ?_
        exact e1 (by rw [hr]; exact run_t hc (by omega))
  refine g_al_0 hR dX2_takeNumber_0 ?_
  refine g_iconst_2 hR dX2_takeNumber_1 ?_
  refine pf_X2_tokenSort hR fl_X2_11 dX2_takeNumber_2 ?_
  refine g_al_0 hR dX2_takeNumber_5 ?_
  refine g_al_0 hR dX2_takeNumber_6 ?_
  refine gf_X2_tokenStart hR fl_X2_15 dX2_takeNumber_7 ?_
  refine g_top (show _ = nI s by rw [hset_e, bset_s, upd_n (by decide)]; exact h1) ?_
  refine pf_X2_tokenEnd hR fl_X2_18 dX2_takeNumber_10 ?_
  refine g_al_0 hR dX2_takeNumber_13 ?_
  refine g_iconst_0 hR dX2_takeNumber_14 ?_
  refine pf_X2_tokenNumber hR fl_X2_21 dX2_takeNumber_15 ?_
  refine g_eq (τ := bset σ 20 (upd (upd (upd (σ 20) 0 2) 2 (nI s)) 3 (nI (nuC (σ 9) s (s - s))))) (by rw [hset_e σ, bs_u, bs_u, Nat.sub_self]; rfl) ?_
  exact lp (t - s) s (by omega) (by omega) rfl
set_option maxRecDepth 100000 in
set_option maxHeartbeats 4000000 in
theorem ev_takeToken {p t : Nat} (hp : p ≤ t) (ht : t ≤ 120) (σ : Hp) (hT : σ 3 1 = nI t) (hB : ∀ i, i < t → 0 ≤ (σ 9 i).toInt) (h2 : σ 20 2 = nI p) : CtV yX2_takeToken wX2_takeToken 2 [.ref 12] σ (bset σ 20 (tkR (σ 20) (σ 9) t (tS (σ 9) t p))) := by
  refine CtV.of (by decide) (Nat.le_of_ble_eq_true rfl) rfl (fun G hR hE => ?_)
  have fin : ∀ j x1, j ≤ t → tS (σ 9) t p = j → G 51 [some (.ref 12), x1] [] (bset σ 20 (upd (σ 20) 1 (nI j))) := by
    intro j x1 hj hr
    have e21 : bset σ 20 (upd (σ 20) 1 (nI j)) 20 1 = nI j := by rw [bset_s, upd_s]
    have e3 : bset σ 20 (upd (σ 20) 1 (nI j)) 3 1 = nI t := by rw [bset_n (by decide)]; exact hT
    have e9 : bset σ 20 (upd (σ 20) 1 (nI j)) 9 = σ 9 := bset_n (by decide)
    by_cases hjt : j < t
    · have hne : ¬ byV (bset σ 20 (upd (σ 20) 1 (nI j)) 9) t j = -1 := by
        rw [e9, by_in hjt]; intro q; have := hB j hjt; rw [q] at this; exact absurd this (by decide)
      refine g_al_0 hR dX2_takeToken_51 ?_
      refine gf_X2_tape hR fl_X2_24 dX2_takeToken_52 ?_
      refine g_al_0 hR dX2_takeToken_55 ?_
      refine gf_X2_tokenStart hR fl_X2_15 dX2_takeToken_56 ?_
      refine g_top (e21) ?_
      refine g_cvI hR ciX1_byteAt dX2_takeToken_59 ml_X2_110 (Nat.le_of_ble_eq_true rfl) (by decide) rfl rfl rfl (ev_byteAt (i := j) (t := t) (by omega) ht _ e3) rfl (Nat.le_of_ble_eq_true rfl) rfl ?_
      refine g_is_1 hR dX2_takeToken_62 trivial ?_
      refine g_il_1 hR dX2_takeToken_63 ?_
      refine g_iconst_m1 hR dX2_takeToken_64 ?_
      refine g_icmp_ne (tgt := 84) hR dX2_takeToken_65 (by decide) (fun _ => ?_) (fun hc => absurd hc (hne))
      refine g_il_1 hR dX2_takeToken_84 ?_
      refine g_csI hR ciX2_isLetter dX2_takeToken_85 ml_X2_119 (Nat.le_of_ble_eq_true rfl) (ev_isLetter _ _) rfl (Nat.le_of_ble_eq_true rfl) rfl ?_
      refine g_if_eq (tgt := 98) hR dX2_takeToken_88 (by decide) (fun h => ?_) (fun h => ?_)
      · have hc : ¬ leB (σ 9) t j = true := fun q => bI_0.mp h (by rw [e9]; exact of_decide_eq_true q)
        refine g_il_1 hR dX2_takeToken_98 ?_
        refine g_csI hR ciX2_isDigit dX2_takeToken_99 ml_X2_125 (Nat.le_of_ble_eq_true rfl) (ev_isDigit _ _) rfl (Nat.le_of_ble_eq_true rfl) rfl ?_
        refine g_if_eq (tgt := 112) hR dX2_takeToken_102 (by decide) (fun h3 => ?_) (fun h3 => ?_)
        · have hc2 : ¬ diB (σ 9) t j = true := fun q => bI_0.mp h3 (by rw [e9]; exact of_decide_eq_true q)
          have hE' : tE (σ 9) t j = j + 1 := by unfold tE; rw [if_neg hc, if_neg hc2, if_pos hjt]
          have key : ∀ v, v = srt (σ 9) t j → G 124 [some (.ref 12), some (.int (byV (bset σ 20 (upd (σ 20) 1 (nI j)) 9) t j))] [.int v, .ref 12] (bset σ 20 (upd (σ 20) 1 (nI j))) := by
            intro v hv
            refine pf_X2_tokenSort hR fl_X2_11 dX2_takeToken_124 ?_
            refine g_al_0 hR dX2_takeToken_127 ?_
            refine g_al_0 hR dX2_takeToken_128 ?_
            refine gf_X2_tokenStart hR fl_X2_15 dX2_takeToken_129 ?_
            refine g_top (show _ = nI j by rw [bs_u, bset_s, upd_n (by decide), upd_s]) ?_
            refine g_iconst_1 hR dX2_takeToken_132 ?_
            refine g_iadd hR dX2_takeToken_133 ?_
            refine pf_X2_tokenEnd hR fl_X2_18 dX2_takeToken_134 ?_
            exact hE dX2_takeToken_137 (by rw [hr, bs_u, bs_u]; refine congrArg (bset σ 20) (tk_eq ?_ ?_ ?_ ?_ ?_) <;> first | (rw [upd_n (by decide), upd_s]; exact hv) | (rw [upd_n (by decide), upd_n (by decide), upd_s]) | (rw [upd_s, nI_1, hE']) | (rw [if_neg hc2, upd_n (by decide), upd_n (by decide), upd_n (by decide)]) | (intro i hi; rw [upd_n (by omega), upd_n (by omega), upd_n (by omega)]))
          refine g_al_0 hR dX2_takeToken_112 ?_
          refine g_il_1 hR dX2_takeToken_113 ?_
          refine g_bipush_59 hR dX2_takeToken_114 ?_
          refine g_icmp_ne (tgt := 123) hR dX2_takeToken_116 (by decide) (fun h4 => ?_) (fun h4 => ?_)
          · refine g_iconst_4 hR dX2_takeToken_123 ?_
            have h59 : ¬ σ 9 j = 59 := fun q => h4 (by rw [e9, by_in hjt, q])
            exact key 4 (by unfold srt; rw [if_pos hjt, if_neg hc, if_neg hc2, if_neg h59])
          · refine g_iconst_3 hR dX2_takeToken_119 ?_
            refine g_goto (tgt := 124) hR dX2_takeToken_120 (by decide) ?_
            have h59 : σ 9 j = 59 := by rw [e9, by_in hjt] at h4; exact h4
            exact key 3 (by unfold srt; rw [if_pos hjt, if_neg hc, if_neg hc2, if_pos h59])
        · have hc2 : diB (σ 9) t j = true := decide_eq_true (by rw [← e9]; exact bI_no h3)
          have hE' : tE (σ 9) t j = runN (diB (σ 9) t) t j := by unfold tE; rw [if_neg hc, if_pos hc2]
          refine g_al_0 hR dX2_takeToken_105 ?_
          refine g_cvV hR ciX2_takeNumber dX2_takeToken_106 ml_X2_128 (Nat.le_of_ble_eq_true rfl) (by decide) rfl rfl rfl (ev_takeNumber (s := j) (t := t) hj ht _ e3 e21) rfl (Nat.le_of_ble_eq_true rfl) rfl ?_
          refine g_goto (tgt := 137) hR dX2_takeToken_109 (by decide) ?_
          exact hE dX2_takeToken_137 (by rw [hr, bset_bset, bset_s, e9]; refine congrArg (bset σ 20) (tk_eq ?_ ?_ ?_ ?_ ?_) <;> first | (rw [srt_2.mpr hc2, upd_n (by decide), upd_n (by decide), upd_s]) | (rw [upd_n (by decide), upd_n (by decide), upd_n (by decide), upd_s]) | (rw [hE', upd_n (by decide), upd_s]) | (rw [if_pos hc2, upd_s]; unfold nmV; rw [hE']) | (intro i hi; rw [upd_n (by omega), upd_n (by omega), upd_n (by omega), upd_n (by omega)]))
      · have hc : leB (σ 9) t j = true := decide_eq_true (by rw [← e9]; exact bI_no h)
        have hE' : tE (σ 9) t j = runN (leB (σ 9) t) t j := by unfold tE; rw [if_pos hc]
        refine g_al_0 hR dX2_takeToken_91 ?_
        refine g_cvV hR ciX2_takeWord dX2_takeToken_92 ml_X2_122 (Nat.le_of_ble_eq_true rfl) (by decide) rfl rfl rfl (ev_takeWord (s := j) (t := t) hj ht _ e3 e21) rfl (Nat.le_of_ble_eq_true rfl) rfl ?_
        refine g_goto (tgt := 137) hR dX2_takeToken_95 (by decide) ?_
        exact hE dX2_takeToken_137 (by rw [hr, bset_bset, bset_s, e9]; refine congrArg (bset σ 20) (tk_eq ?_ ?_ ?_ ?_ ?_) <;> first | (rw [srt_1.mpr hc, upd_n (by decide), upd_s]) | (rw [upd_n (by decide), upd_n (by decide), upd_s]) | (rw [hE', upd_s]) | (rw [if_neg (le_di hc), upd_n (by decide), upd_n (by decide), upd_n (by decide)]) | (intro i hi; rw [upd_n (by omega), upd_n (by omega), upd_n (by omega)]))
    · have hc : ¬ leB (σ 9) t j = true := fun q => hjt (le_lt q)
      have hc2 : ¬ diB (σ 9) t j = true := fun q => hjt (di_lt q)
      have hE' : tE (σ 9) t j = j := by unfold tE; rw [if_neg hc, if_neg hc2, if_neg hjt]
      refine g_al_0 hR dX2_takeToken_51 ?_
      refine gf_X2_tape hR fl_X2_24 dX2_takeToken_52 ?_
      refine g_al_0 hR dX2_takeToken_55 ?_
      refine gf_X2_tokenStart hR fl_X2_15 dX2_takeToken_56 ?_
      refine g_top (e21) ?_
      refine g_cvI hR ciX1_byteAt dX2_takeToken_59 ml_X2_110 (Nat.le_of_ble_eq_true rfl) (by decide) rfl rfl rfl (ev_byteAt (i := j) (t := t) (by omega) ht _ e3) rfl (Nat.le_of_ble_eq_true rfl) rfl ?_
      refine g_is_1 hR dX2_takeToken_62 trivial ?_
      refine g_il_1 hR dX2_takeToken_63 ?_
      refine g_iconst_m1 hR dX2_takeToken_64 ?_
      refine g_icmp_ne (tgt := 84) hR dX2_takeToken_65 (by decide) (fun hc => absurd (by_out hjt) hc) (fun _ => ?_)
      refine g_al_0 hR dX2_takeToken_68 ?_
      refine g_iconst_0 hR dX2_takeToken_69 ?_
      refine pf_X2_tokenSort hR fl_X2_11 dX2_takeToken_70 ?_
      refine g_al_0 hR dX2_takeToken_73 ?_
      refine g_al_0 hR dX2_takeToken_74 ?_
      refine gf_X2_tokenStart hR fl_X2_15 dX2_takeToken_75 ?_
      refine g_top (show _ = nI j by rw [bs_u, bset_s, upd_n (by decide), upd_s]) ?_
      refine pf_X2_tokenEnd hR fl_X2_18 dX2_takeToken_78 ?_
      refine g_goto (tgt := 137) hR dX2_takeToken_81 (by decide) ?_
      exact hE dX2_takeToken_137 (by rw [hr, bs_u, bs_u]; refine congrArg (bset σ 20) (tk_eq ?_ ?_ ?_ ?_ ?_) <;> first | (rw [srt_0.mpr hjt, upd_n (by decide), upd_s]) | (rw [upd_n (by decide), upd_n (by decide), upd_s]) | (rw [upd_s, hE']) | (rw [if_neg hc2, upd_n (by decide), upd_n (by decide), upd_n (by decide)]) | (intro i hi; rw [upd_n (by omega), upd_n (by omega), upd_n (by omega)]))
  have lp : ∀ d' j x1, j + d' = t → tS (σ 9) t p = runN (blB (σ 9) t) t j → G 8 [some (.ref 12), x1] [] (bset σ 20 (upd (σ 20) 1 (nI j))) := by
    intro d'
    induction d' with
    | zero =>
      intro j x1 hj hr
      have e21 : bset σ 20 (upd (σ 20) 1 (nI j)) 20 1 = nI j := by rw [bset_s, upd_s]
      have e3 : bset σ 20 (upd (σ 20) 1 (nI j)) 3 1 = nI t := by rw [bset_n (by decide)]; exact hT
      rw [run_o (p := j) (by omega)] at hr
      refine g_al_0 hR dX2_takeToken_8 ?_
      refine gf_X2_tokenStart hR fl_X2_15 dX2_takeToken_9 ?_
      refine g_top (e21) ?_
      refine g_al_0 hR dX2_takeToken_12 ?_
      refine gf_X2_tape hR fl_X2_24 dX2_takeToken_13 ?_
      refine gf_X1_size hR fl_X2_116 dX2_takeToken_16 ?_
      refine g_top (e3) ?_
      refine g_icmp_ge (tgt := 51) hR dX2_takeToken_19 (by decide) (fun _ => ?_) (fun hc => absurd (nI_le (by omega) (by omega)) hc)
      exact fin j _ (by omega) hr
    | succ d' ih =>
      intro j x1 hj hr
      have e21 : bset σ 20 (upd (σ 20) 1 (nI j)) 20 1 = nI j := by rw [bset_s, upd_s]
      have e3 : bset σ 20 (upd (σ 20) 1 (nI j)) 3 1 = nI t := by rw [bset_n (by decide)]; exact hT
      have e9 : bset σ 20 (upd (σ 20) 1 (nI j)) 9 = σ 9 := bset_n (by decide)
      refine g_al_0 hR dX2_takeToken_8 ?_
      refine gf_X2_tokenStart hR fl_X2_15 dX2_takeToken_9 ?_
      refine g_top (e21) ?_
      refine g_al_0 hR dX2_takeToken_12 ?_
      refine gf_X2_tape hR fl_X2_24 dX2_takeToken_13 ?_
      refine gf_X1_size hR fl_X2_116 dX2_takeToken_16 ?_
      refine g_top (e3) ?_
      refine g_icmp_ge (tgt := 51) hR dX2_takeToken_19 (by decide) (fun hc => absurd hc (nI_ge (by omega) (by omega))) (fun _ => ?_)
      refine g_al_0 hR dX2_takeToken_22 ?_
      refine gf_X2_tape hR fl_X2_24 dX2_takeToken_23 ?_
      refine g_al_0 hR dX2_takeToken_26 ?_
      refine gf_X2_tokenStart hR fl_X2_15 dX2_takeToken_27 ?_
      refine g_top (e21) ?_
      refine g_cvI hR ciX1_byteAt dX2_takeToken_30 ml_X2_110 (Nat.le_of_ble_eq_true rfl) (by decide) rfl rfl rfl (ev_byteAt (i := j) (t := t) (by omega) ht _ e3) rfl (Nat.le_of_ble_eq_true rfl) rfl ?_
      refine g_bipush_32 hR dX2_takeToken_33 ?_
      refine g_icmp_ne (tgt := 51) hR dX2_takeToken_35 (by decide) (fun h => ?_) (fun h => ?_)
      · have hc : blB (σ 9) t j = false := decide_eq_false (by rw [← e9]; exact h)
        rw [run_f hc] at hr
        exact fin j _ (by omega) hr
      · have hc : blB (σ 9) t j = true := decide_eq_true (by rw [← e9]; exact h)
        refine g_al_0 hR dX2_takeToken_38 ?_
        refine g_dup hR dX2_takeToken_39 rfl ?_
        refine gf_X2_tokenStart hR fl_X2_15 dX2_takeToken_40 ?_
        refine g_top (e21) ?_
        refine g_iconst_1 hR dX2_takeToken_43 ?_
        refine g_iadd hR dX2_takeToken_44 ?_
        refine pf_X2_tokenStart hR fl_X2_15 dX2_takeToken_45 ?_
        refine g_eq (τ := bset σ 20 (upd (σ 20) 1 (nI (j + 1)))) (by rw [bs_u, upd_upd, nI_1]) ?_
        refine g_goto (tgt := 8) hR dX2_takeToken_48 (by decide) ?_
        exact ih (j + 1) _ (by omega) (by rw [hr]; exact run_t hc (by omega))
  refine g_al_0 hR dX2_takeToken_0 ?_
  refine g_al_0 hR dX2_takeToken_1 ?_
  refine gf_X2_tokenEnd hR fl_X2_18 dX2_takeToken_2 ?_
  refine g_top (h2) ?_
  refine pf_X2_tokenStart hR fl_X2_15 dX2_takeToken_5 ?_
  exact lp (t - p) p none (by omega) rfl
