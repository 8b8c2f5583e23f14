set_option maxRecDepth 100000 in
set_option maxHeartbeats 4000000 in
theorem em_byteAt {i t : Nat} (hi : i ≤ 1000) (ht : t ≤ 120) (σ : Hp) (hT : σ 8 1 = nI t) : CtI yX5_byteAt wX5_byteAt 0 [.ref 18, .int (nI i)] (σ) (byV (σ 10) t i) (σ) := by
  refine CtI.of (by decide) (Nat.le_of_ble_eq_true rfl) rfl rfl (fun G hR hE => ?_)
  by_cases h : i < t
  · refine g_il_1 hR dX5_byteAt_0 ?_
    refine g_al_0 hR dX5_byteAt_1 ?_
    refine gf_X5_taped hR fl_X5_197 dX5_byteAt_2 ?_
    refine g_top (hT) ?_
    refine g_icmp_ge (tgt := 17) hR dX5_byteAt_5 (by decide) (fun h_c => absurd h_c (nI_ge h (by omega))) (fun _ => ?_)
    refine g_al_0 hR dX5_byteAt_8 ?_
    refine gf_X5_tape hR fl_X5_25 dX5_byteAt_9 ?_
    refine g_il_1 hR dX5_byteAt_12 ?_
    refine ga_24 hR i (by omega) rfl dX5_byteAt_13 ?_
    refine g_goto (tgt := 18) hR dX5_byteAt_14 (by decide) ?_
    exact hE dX5_byteAt_18 ((by_in h).symm) (rfl)
  · refine g_il_1 hR dX5_byteAt_0 ?_
    refine g_al_0 hR dX5_byteAt_1 ?_
    refine gf_X5_taped hR fl_X5_197 dX5_byteAt_2 ?_
    refine g_top (hT) ?_
    refine g_icmp_ge (tgt := 17) hR dX5_byteAt_5 (by decide) (fun _ => ?_) (fun h_c => absurd (nI_le (by omega) (by omega)) h_c)
    refine g_iconst_m1 hR dX5_byteAt_17 ?_
    exact hE dX5_byteAt_18 ((by_out h).symm) (rfl)
set_option maxRecDepth 100000 in
set_option maxHeartbeats 4000000 in
theorem em_isLetter (v : Int32) (σ : Hp) : CtI yX5_isLetter wX5_isLetter 1 [.int v] (σ) (bI (97 ≤ v ∧ v ≤ 122)) (σ) := by
  refine CtI.of (by decide) (Nat.le_of_ble_eq_true rfl) (bI_nar _) rfl (fun G hR hE => ?_)
  refine g_il_0 hR dX5_isLetter_0 ?_
  refine g_i2l hR dX5_isLetter_1 ?_
  refine g_ldc2 hR dX5_isLetter_2 kl_X5_200 ?_
  refine g_ldc2 hR dX5_isLetter_5 kl_X5_202 ?_
  refine g_csI hR ciX5_in dX5_isLetter_8 ml_X5_43 (Nat.le_of_ble_eq_true rfl) (ev_in v 97 122 rfl rfl σ) rfl (Nat.le_of_ble_eq_true rfl) rfl ?_
  exact hE dX5_isLetter_11 (rfl) (rfl)
set_option maxRecDepth 100000 in
set_option maxHeartbeats 4000000 in
theorem em_isDigit (v : Int32) (σ : Hp) : CtI yX5_isDigit wX5_isDigit 1 [.int v] (σ) (bI (48 ≤ v ∧ v ≤ 57)) (σ) := by
  refine CtI.of (by decide) (Nat.le_of_ble_eq_true rfl) (bI_nar _) rfl (fun G hR hE => ?_)
  refine g_il_0 hR dX5_isDigit_0 ?_
  refine g_i2l hR dX5_isDigit_1 ?_
  refine g_ldc2 hR dX5_isDigit_2 kl_X5_204 ?_
  refine g_ldc2 hR dX5_isDigit_5 kl_X5_206 ?_
  refine g_csI hR ciX5_in dX5_isDigit_8 ml_X5_43 (Nat.le_of_ble_eq_true rfl) (ev_in v 48 57 rfl rfl σ) rfl (Nat.le_of_ble_eq_true rfl) rfl ?_
  exact hE dX5_isDigit_11 (rfl) (rfl)
set_option maxRecDepth 100000 in
set_option maxHeartbeats 4000000 in
theorem em_token {p t : Nat} (hp : p ≤ t) (ht : t ≤ 120) (σ : Hp) (hT : σ 8 1 = nI t) (h1 : σ 19 1 = nI p) : CtV yX5_token wX5_token 2 [.ref 18] (σ) (bset σ 19 (upd (upd (σ 19) 0 (nI (tS (σ 10) t p))) 1 (nI (tE (σ 10) t (tS (σ 10) t p))))) := by
  refine CtV.of (by decide) (Nat.le_of_ble_eq_true rfl) rfl (fun G hR hE => ?_)
  have e8 : ∀ A, bset σ 19 A 8 1 = nI t := fun A => by rw [bset_n (by decide)]; exact hT
  have e10 : ∀ A, bset σ 19 A 10 = σ 10 := fun A => bset_n (by decide)
  have f1 : ∀ A s j, bset σ 19 (upd (upd A 0 (nI s)) 1 (nI j)) 19 1 = nI j := fun A s j => by rw [bset_s, upd_s]
  have lpL : ∀ s, tS (σ 10) t p = s → leB (σ 10) t s = true → ∀ d' j, j + d' = t → s < j → runN (leB (σ 10) t) t s = runN (leB (σ 10) t) t j → G 86 [some (.ref 18), some (.int (bI (97 ≤ byV (σ 10) t s ∧ byV (σ 10) t s ≤ 122))), some (.int (bI (48 ≤ byV (σ 10) t s ∧ byV (σ 10) t s ≤ 57)))] [] (bset σ 19 (upd (upd (σ 19) 0 (nI s)) 1 (nI j))) := by
    intro s hts hl d'
    have hn : ¬ (48 ≤ byV (σ 10) t s ∧ byV (σ 10) t s ≤ 57) := fun q => le_di hl (decide_eq_true q)
    have hE' : tE (σ 10) t s = runN (leB (σ 10) t) t s := by unfold tE; rw [if_pos hl]
    have stop : ∀ j, leB (σ 10) t j = false → runN (leB (σ 10) t) t s = runN (leB (σ 10) t) t j → G 104 [some (.ref 18), some (.int (bI (97 ≤ byV (σ 10) t s ∧ byV (σ 10) t s ≤ 122))), some (.int (bI (48 ≤ byV (σ 10) t s ∧ byV (σ 10) t s ≤ 57)))] [] (bset σ 19 (upd (upd (σ 19) 0 (nI s)) 1 (nI j))) := by
      intro j hc hr
      rw [run_f hc] at hr
      refine g_il_2 hR dX5_token_104 ?_
      refine g_if_eq (tgt := 135) hR dX5_token_105 (by decide) (fun _ => ?_) (fun h_c => absurd (bI_0.mpr hn) h_c)
      exact hE dX5_token_135 (by rw [hts, hE', hr])
    induction d' with
    | zero =>
      intro j hj hsj hr
      have hc : leB (σ 10) t j = false := by
        by_cases q : leB (σ 10) t j = true
        · have := le_lt q; omega
        · simpa using q
      refine g_il_1 hR dX5_token_86 ?_
      refine g_if_eq (tgt := 104) hR dX5_token_87 (by decide) (fun h_c => absurd h_c (bI_pos (of_decide_eq_true hl))) (fun _ => ?_)
      refine g_al_0 hR dX5_token_90 ?_
      refine g_al_0 hR dX5_token_91 ?_
      refine gf_X5_to hR fl_X5_208 dX5_token_92 ?_
      refine g_top (f1 _ _ _) ?_
      refine g_cvI hR ciX5_byteAt dX5_token_95 ml_X5_214 (Nat.le_of_ble_eq_true rfl) (by decide) rfl rfl rfl (em_byteAt (i := j) (t := t) (by omega) ht _ (e8 _)) rfl (Nat.le_of_ble_eq_true rfl) rfl ?_
      refine g_csI hR ciX5_isLetter dX5_token_98 ml_X5_217 (Nat.le_of_ble_eq_true rfl) (em_isLetter _ _) rfl (Nat.le_of_ble_eq_true rfl) rfl ?_
      rw [e10]
      refine g_if_ne (tgt := 122) hR dX5_token_101 (by decide) (fun h_c => absurd (bI_0.mpr (of_decide_eq_false hc)) h_c) (fun _ => ?_)
      exact stop j hc hr
    | succ d' ih =>
      intro j hj hsj hr
      refine g_il_1 hR dX5_token_86 ?_
      refine g_if_eq (tgt := 104) hR dX5_token_87 (by decide) (fun h_c => absurd h_c (bI_pos (of_decide_eq_true hl))) (fun _ => ?_)
      refine g_al_0 hR dX5_token_90 ?_
      refine g_al_0 hR dX5_token_91 ?_
      refine gf_X5_to hR fl_X5_208 dX5_token_92 ?_
      refine g_top (f1 _ _ _) ?_
      refine g_cvI hR ciX5_byteAt dX5_token_95 ml_X5_214 (Nat.le_of_ble_eq_true rfl) (by decide) rfl rfl rfl (em_byteAt (i := j) (t := t) (by omega) ht _ (e8 _)) rfl (Nat.le_of_ble_eq_true rfl) rfl ?_
      refine g_csI hR ciX5_isLetter dX5_token_98 ml_X5_217 (Nat.le_of_ble_eq_true rfl) (em_isLetter _ _) rfl (Nat.le_of_ble_eq_true rfl) rfl ?_
      rw [e10]
      by_cases hc : leB (σ 10) t j = true
      · refine g_if_ne (tgt := 122) hR dX5_token_101 (by decide) (fun _ => ?_) (fun h_c => absurd h_c (bI_pos (of_decide_eq_true hc)))
        refine g_al_0 hR dX5_token_122 ?_
        refine g_dup hR dX5_token_123 rfl ?_
        refine gf_X5_to hR fl_X5_208 dX5_token_124 ?_
        refine g_top (f1 _ _ _) ?_
        refine g_iconst_1 hR dX5_token_127 ?_
        refine g_iadd hR dX5_token_128 ?_
        refine pf_X5_to hR fl_X5_208 dX5_token_129 ?_
        refine g_eq (τ := bset σ 19 (upd (upd (σ 19) 0 (nI s)) 1 (nI (j + 1)))) (by rw [bs_u, upd_upd, nI_1]) ?_
        refine g_goto (tgt := 86) hR dX5_token_132 (by decide) ?_
        exact ih (j + 1) (by omega) (by omega) (by rw [hr]; exact run_t hc (by omega))
      · have hc : leB (σ 10) t j = false := by simpa using hc
        refine g_if_ne (tgt := 122) hR dX5_token_101 (by decide) (fun h_c => absurd (bI_0.mpr (of_decide_eq_false hc)) h_c) (fun _ => ?_)
        exact stop j hc hr
  have lpD : ∀ s, tS (σ 10) t p = s → diB (σ 10) t s = true → ∀ d' j, j + d' = t → s < j → runN (diB (σ 10) t) t s = runN (diB (σ 10) t) t j → G 86 [some (.ref 18), some (.int (bI (97 ≤ byV (σ 10) t s ∧ byV (σ 10) t s ≤ 122))), some (.int (bI (48 ≤ byV (σ 10) t s ∧ byV (σ 10) t s ≤ 57)))] [] (bset σ 19 (upd (upd (σ 19) 0 (nI s)) 1 (nI j))) := by
    intro s hts hl d'
    have hnl : ¬ leB (σ 10) t s = true := fun q => le_di q hl
    have hn : ¬ (97 ≤ byV (σ 10) t s ∧ byV (σ 10) t s ≤ 122) := fun q => hnl (decide_eq_true q)
    have hE' : tE (σ 10) t s = runN (diB (σ 10) t) t s := by unfold tE; rw [if_neg hnl, if_pos hl]
    induction d' with
    | zero =>
      intro j hj hsj hr
      rw [run_o (p := j) (by omega)] at hr
      have hc : ¬ (48 ≤ byV (σ 10) t j ∧ byV (σ 10) t j ≤ 57) := fun q => by have := di_lt (decide_eq_true q : diB (σ 10) t j = true); omega
      refine g_il_1 hR dX5_token_86 ?_
      refine g_if_eq (tgt := 104) hR dX5_token_87 (by decide) (fun _ => ?_) (fun h_c => absurd (bI_0.mpr hn) h_c)
      refine g_il_2 hR dX5_token_104 ?_
      refine g_if_eq (tgt := 135) hR dX5_token_105 (by decide) (fun h_c => absurd h_c (bI_pos (of_decide_eq_true hl))) (fun _ => ?_)
      refine g_al_0 hR dX5_token_108 ?_
      refine g_al_0 hR dX5_token_109 ?_
      refine gf_X5_to hR fl_X5_208 dX5_token_110 ?_
      refine g_top (f1 _ _ _) ?_
      refine g_cvI hR ciX5_byteAt dX5_token_113 ml_X5_214 (Nat.le_of_ble_eq_true rfl) (by decide) rfl rfl rfl (em_byteAt (i := j) (t := t) (by omega) ht _ (e8 _)) rfl (Nat.le_of_ble_eq_true rfl) rfl ?_
      refine g_csI hR ciX5_isDigit dX5_token_116 ml_X5_220 (Nat.le_of_ble_eq_true rfl) (em_isDigit _ _) rfl (Nat.le_of_ble_eq_true rfl) rfl ?_
      rw [e10]
      refine g_if_eq (tgt := 135) hR dX5_token_119 (by decide) (fun _ => ?_) (fun h_c => absurd (bI_0.mpr hc) h_c)
      exact hE dX5_token_135 (by rw [hts, hE', hr])
    | succ d' ih =>
      intro j hj hsj hr
      refine g_il_1 hR dX5_token_86 ?_
      refine g_if_eq (tgt := 104) hR dX5_token_87 (by decide) (fun _ => ?_) (fun h_c => absurd (bI_0.mpr hn) h_c)
      refine g_il_2 hR dX5_token_104 ?_
      refine g_if_eq (tgt := 135) hR dX5_token_105 (by decide) (fun h_c => absurd h_c (bI_pos (of_decide_eq_true hl))) (fun _ => ?_)
      refine g_al_0 hR dX5_token_108 ?_
      refine g_al_0 hR dX5_token_109 ?_
      refine gf_X5_to hR fl_X5_208 dX5_token_110 ?_
      refine g_top (f1 _ _ _) ?_
      refine g_cvI hR ciX5_byteAt dX5_token_113 ml_X5_214 (Nat.le_of_ble_eq_true rfl) (by decide) rfl rfl rfl (em_byteAt (i := j) (t := t) (by omega) ht _ (e8 _)) rfl (Nat.le_of_ble_eq_true rfl) rfl ?_
      refine g_csI hR ciX5_isDigit dX5_token_116 ml_X5_220 (Nat.le_of_ble_eq_true rfl) (em_isDigit _ _) rfl (Nat.le_of_ble_eq_true rfl) rfl ?_
      rw [e10]
      by_cases hc : diB (σ 10) t j = true
      · refine g_if_eq (tgt := 135) hR dX5_token_119 (by decide) (fun h_c => absurd h_c (bI_pos (of_decide_eq_true hc))) (fun _ => ?_)
        refine g_al_0 hR dX5_token_122 ?_
        refine g_dup hR dX5_token_123 rfl ?_
        refine gf_X5_to hR fl_X5_208 dX5_token_124 ?_
        refine g_top (f1 _ _ _) ?_
        refine g_iconst_1 hR dX5_token_127 ?_
        refine g_iadd hR dX5_token_128 ?_
        refine pf_X5_to hR fl_X5_208 dX5_token_129 ?_
        refine g_eq (τ := bset σ 19 (upd (upd (σ 19) 0 (nI s)) 1 (nI (j + 1)))) (by rw [bs_u, upd_upd, nI_1]) ?_
        refine g_goto (tgt := 86) hR dX5_token_132 (by decide) ?_
        exact ih (j + 1) (by omega) (by omega) (by rw [hr]; exact run_t hc (by omega))
      · have hc : diB (σ 10) t j = false := by simpa using hc
        rw [run_f (p := j) hc] at hr
        refine g_if_eq (tgt := 135) hR dX5_token_119 (by decide) (fun _ => ?_) (fun h_c => absurd (bI_0.mpr (of_decide_eq_false hc)) h_c)
        exact hE dX5_token_135 (by rw [hts, hE', hr])
  have fin : ∀ s x1 x2, s ≤ t → tS (σ 10) t p = s → G 34 [some (.ref 18), x1, x2] [] (bset σ 19 (upd (σ 19) 0 (nI s))) := by
    intro s x1 x2 hs hts
    have e0 : bset σ 19 (upd (σ 19) 0 (nI s)) 19 0 = nI s := by rw [bset_s, upd_s]
    have put : ∀ j, G 86 [some (.ref 18), some (.int (bI (97 ≤ byV (σ 10) t s ∧ byV (σ 10) t s ≤ 122))), some (.int (bI (48 ≤ byV (σ 10) t s ∧ byV (σ 10) t s ≤ 57)))] [] (bset σ 19 (upd (upd (σ 19) 0 (nI s)) 1 (nI j))) → G 83 [some (.ref 18), some (.int (bI (97 ≤ byV (σ 10) t s ∧ byV (σ 10) t s ≤ 122))), some (.int (bI (48 ≤ byV (σ 10) t s ∧ byV (σ 10) t s ≤ 57)))] [.int (nI j), .ref 18] (bset σ 19 (upd (σ 19) 0 (nI s))) := by
      intro j hg
      refine pf_X5_to hR fl_X5_208 dX5_token_83 ?_
      rw [bs_u]; exact hg
    refine g_al_0 hR dX5_token_34 ?_
    refine g_al_0 hR dX5_token_35 ?_
    refine gf_X5_from hR fl_X5_211 dX5_token_36 ?_
    refine g_top (e0) ?_
    refine g_cvI hR ciX5_byteAt dX5_token_39 ml_X5_214 (Nat.le_of_ble_eq_true rfl) (by decide) rfl rfl rfl (em_byteAt (i := s) (t := t) (by omega) ht _ (e8 _)) rfl (Nat.le_of_ble_eq_true rfl) rfl ?_
    refine g_csI hR ciX5_isLetter dX5_token_42 ml_X5_217 (Nat.le_of_ble_eq_true rfl) (em_isLetter _ _) rfl (Nat.le_of_ble_eq_true rfl) rfl ?_
    rw [e10]
    refine g_is_1 hR dX5_token_45 trivial ?_
    refine g_al_0 hR dX5_token_46 ?_
    refine g_al_0 hR dX5_token_47 ?_
    refine gf_X5_from hR fl_X5_211 dX5_token_48 ?_
    refine g_top (e0) ?_
    refine g_cvI hR ciX5_byteAt dX5_token_51 ml_X5_214 (Nat.le_of_ble_eq_true rfl) (by decide) rfl rfl rfl (em_byteAt (i := s) (t := t) (by omega) ht _ (e8 _)) rfl (Nat.le_of_ble_eq_true rfl) rfl ?_
    refine g_csI hR ciX5_isDigit dX5_token_54 ml_X5_220 (Nat.le_of_ble_eq_true rfl) (em_isDigit _ _) rfl (Nat.le_of_ble_eq_true rfl) rfl ?_
    rw [e10]
    by_cases hst : s < t
    · refine g_is_2 hR dX5_token_57 trivial ?_
      refine g_al_0 hR dX5_token_58 ?_
      refine g_al_0 hR dX5_token_59 ?_
      refine gf_X5_from hR fl_X5_211 dX5_token_60 ?_
      refine g_top (e0) ?_
      refine g_al_0 hR dX5_token_63 ?_
      refine gf_X5_taped hR fl_X5_197 dX5_token_64 ?_
      refine g_top (e8 _) ?_
      refine g_icmp_ge (tgt := 79) hR dX5_token_67 (by decide) (fun h_c => absurd h_c (nI_ge hst (by omega))) (fun _ => ?_)
      refine g_al_0 hR dX5_token_70 ?_
      refine gf_X5_from hR fl_X5_211 dX5_token_71 ?_
      refine g_top (e0) ?_
      refine g_iconst_1 hR dX5_token_74 ?_
      refine g_iadd hR dX5_token_75 ?_
      refine g_top (nI_1 s) ?_
      refine g_goto (tgt := 83) hR dX5_token_76 (by decide) ?_
      refine put (s + 1) ?_
      by_cases hl : leB (σ 10) t s = true
      · exact lpL s hts hl (t - (s + 1)) (s + 1) (by omega) (by omega) (run_t hl hst)
      · by_cases hd : diB (σ 10) t s = true
        · exact lpD s hts hd (t - (s + 1)) (s + 1) (by omega) (by omega) (run_t hd hst)
        · have hE' : tE (σ 10) t s = s + 1 := by unfold tE; rw [if_neg hl, if_neg hd, if_pos hst]
          refine g_il_1 hR dX5_token_86 ?_
          refine g_if_eq (tgt := 104) hR dX5_token_87 (by decide) (fun _ => ?_) (fun h_c => absurd (bI_0.mpr (fun q => hl (decide_eq_true q))) h_c)
          refine g_il_2 hR dX5_token_104 ?_
          refine g_if_eq (tgt := 135) hR dX5_token_105 (by decide) (fun _ => ?_) (fun h_c => absurd (bI_0.mpr (fun q => hd (decide_eq_true q))) h_c)
          exact hE dX5_token_135 (by rw [hts, hE'])
    · have hl : ¬ leB (σ 10) t s = true := fun q => hst (le_lt q)
      have hd : ¬ diB (σ 10) t s = true := fun q => hst (di_lt q)
      have hE' : tE (σ 10) t s = s := by unfold tE; rw [if_neg hl, if_neg hd, if_neg hst]
      refine g_is_2 hR dX5_token_57 trivial ?_
      refine g_al_0 hR dX5_token_58 ?_
      refine g_al_0 hR dX5_token_59 ?_
      refine gf_X5_from hR fl_X5_211 dX5_token_60 ?_
      refine g_top (e0) ?_
      refine g_al_0 hR dX5_token_63 ?_
      refine gf_X5_taped hR fl_X5_197 dX5_token_64 ?_
      refine g_top (e8 _) ?_
      refine g_icmp_ge (tgt := 79) hR dX5_token_67 (by decide) (fun _ => ?_) (fun h_c => absurd (nI_le (by omega) (by omega)) h_c)
      refine g_al_0 hR dX5_token_79 ?_
      refine gf_X5_from hR fl_X5_211 dX5_token_80 ?_
      refine g_top (e0) ?_
      refine put s ?_
      refine g_il_1 hR dX5_token_86 ?_
      refine g_if_eq (tgt := 104) hR dX5_token_87 (by decide) (fun _ => ?_) (fun h_c => absurd (bI_0.mpr (fun q => hl (decide_eq_true q))) h_c)
      refine g_il_2 hR dX5_token_104 ?_
      refine g_if_eq (tgt := 135) hR dX5_token_105 (by decide) (fun _ => ?_) (fun h_c => absurd (bI_0.mpr (fun q => hd (decide_eq_true q))) h_c)
      exact hE dX5_token_135 (by rw [hts, hE'])
  have lp : ∀ d' j x1 x2, j + d' = t → tS (σ 10) t p = runN (blB (σ 10) t) t j → G 8 [some (.ref 18), x1, x2] [] (bset σ 19 (upd (σ 19) 0 (nI j))) := by
    intro d'
    induction d' with
    | zero =>
      intro j x1 x2 hj hr
      have e0 : bset σ 19 (upd (σ 19) 0 (nI j)) 19 0 = nI j := by rw [bset_s, upd_s]
      rw [run_o (p := j) (by omega)] at hr
      have hne : ¬ byV (σ 10) t j = 32 := by rw [by_out (by omega)]; decide
      refine g_al_0 hR dX5_token_8 ?_
      refine g_al_0 hR dX5_token_9 ?_
      refine gf_X5_from hR fl_X5_211 dX5_token_10 ?_
      refine g_top (e0) ?_
      refine g_cvI hR ciX5_byteAt dX5_token_13 ml_X5_214 (Nat.le_of_ble_eq_true rfl) (by decide) rfl rfl rfl (em_byteAt (i := j) (t := t) (by omega) ht _ (e8 _)) rfl (Nat.le_of_ble_eq_true rfl) rfl ?_
      refine g_bipush_32 hR dX5_token_16 ?_
      rw [e10]
      refine g_icmp_ne (tgt := 34) hR dX5_token_18 (by decide) (fun _ => ?_) (fun h_c => absurd h_c (hne))
      exact fin j _ _ (by omega) hr
    | succ d' ih =>
      intro j x1 x2 hj hr
      have e0 : bset σ 19 (upd (σ 19) 0 (nI j)) 19 0 = nI j := by rw [bset_s, upd_s]
      refine g_al_0 hR dX5_token_8 ?_
      refine g_al_0 hR dX5_token_9 ?_
      refine gf_X5_from hR fl_X5_211 dX5_token_10 ?_
      refine g_top (e0) ?_
      refine g_cvI hR ciX5_byteAt dX5_token_13 ml_X5_214 (Nat.le_of_ble_eq_true rfl) (by decide) rfl rfl rfl (em_byteAt (i := j) (t := t) (by omega) ht _ (e8 _)) rfl (Nat.le_of_ble_eq_true rfl) rfl ?_
      refine g_bipush_32 hR dX5_token_16 ?_
      rw [e10]
      refine g_icmp_ne (tgt := 34) hR dX5_token_18 (by decide) (fun h => ?_) (fun h => ?_)
      · have hc : blB (σ 10) t j = false := decide_eq_false h
        rw [run_f (p := j) hc] at hr
        exact fin j _ _ (by omega) hr
      · have hc : blB (σ 10) t j = true := decide_eq_true h
        refine g_al_0 hR dX5_token_21 ?_
        refine g_dup hR dX5_token_22 rfl ?_
        refine gf_X5_from hR fl_X5_211 dX5_token_23 ?_
        refine g_top (e0) ?_
        refine g_iconst_1 hR dX5_token_26 ?_
        refine g_iadd hR dX5_token_27 ?_
        refine pf_X5_from hR fl_X5_211 dX5_token_28 ?_
        refine g_eq (τ := bset σ 19 (upd (σ 19) 0 (nI (j + 1)))) (by rw [bs_u, upd_upd, nI_1]) ?_
        refine g_goto (tgt := 8) hR dX5_token_31 (by decide) ?_
        exact ih (j + 1) _ _ (by omega) (by rw [hr]; exact run_t hc (by omega))
  refine g_al_0 hR dX5_token_0 ?_
  refine g_al_0 hR dX5_token_1 ?_
  refine gf_X5_to hR fl_X5_208 dX5_token_2 ?_
  refine g_top (h1) ?_
  refine pf_X5_from hR fl_X5_211 dX5_token_5 ?_
  exact lp (t - p) p none none (by omega) rfl
set_option maxRecDepth 100000 in
set_option maxHeartbeats 4000000 in
theorem em_must1 {s t : Nat} (hs : s ≤ t) (ht : t ≤ 120) (σ : Hp) (S R : Nat → Int32) (hT : σ 8 1 = nI t) : CtV yX5_must wX5_must 3 [.ref 18, .int 1] (mdT σ S (mkR true R (σ 10) t s)) (mdT σ S (mkR true R (σ 10) t (nx (σ 10) t s))) := by
  refine CtV.of (by decide) (Nat.le_of_ble_eq_true rfl) rfl (fun G hR hE => ?_)
  have e10 : ∀ S R, mdT σ S R 10 = σ 10 := fun S R => mdT_b (by decide) (by decide)
  have e8 : ∀ S R, mdT σ S R 8 1 = nI t := fun S R => by rw [mdT_b (by decide) (by decide)]; exact hT
  refine g_al_0 hR dX5_must_0 ?_
  refine g_al_0 hR dX5_must_1 ?_
  refine gf_X5_isWrong hR fl_X5_223 dX5_must_2 ?_
  refine g_top (show _ = 0 by rw [mdT_19]; rfl) ?_
  refine g_if_ne (tgt := 12) hR dX5_must_5 (by decide) (fun h_c => absurd (rfl) h_c) (fun _ => ?_)
  refine g_il_1 hR dX5_must_8 ?_
  refine g_if_ne (tgt := 16) hR dX5_must_9 (by decide) (fun _ => ?_) (fun h_c => absurd h_c ((by decide)))
  refine g_iconst_0 hR dX5_must_16 ?_
  refine pf_X5_isWrong hR fl_X5_223 dX5_must_17 (by decide) ?_
  refine g_eq (τ := mdT σ S (mkR true R (σ 10) t s)) (by rw [mdT_r]; exact congrArg (mdT σ S) (mkR_w true true R (σ 10) t s)) ?_
  refine g_al_0 hR dX5_must_20 ?_
  refine gf_X5_isWrong hR fl_X5_223 dX5_must_21 ?_
  refine g_top (show _ = 0 by rw [mdT_19]; rfl) ?_
  refine g_if_ne (tgt := 31) hR dX5_must_24 (by decide) (fun h_c => absurd (rfl) h_c) (fun _ => ?_)
  refine g_al_0 hR dX5_must_27 ?_
  refine g_cvV hR ciX5_token dX5_must_28 ml_X5_227 (Nat.le_of_ble_eq_true rfl) (by decide) rfl rfl rfl (em_token (p := tE (σ 10) t s) (t := t) (tE_le hs) ht _ (e8 _ _) (by rw [mdT_19]; rfl)) rfl (Nat.le_of_ble_eq_true rfl) rfl ?_
  exact hE dX5_must_31 (by rw [mdT_R, mdT_19, e10]; exact congrArg (mdT σ S) (mkR_tok true R (σ 10) t s _))
set_option maxRecDepth 100000 in
set_option maxHeartbeats 4000000 in
theorem em_must0 {s t : Nat} (σ : Hp) (S R : Nat → Int32) : CtV yX5_must wX5_must 3 [.ref 18, .int 0] (mdT σ S (mkR true R (σ 10) t s)) (mdT σ S (mkR false R (σ 10) t s)) := by
  refine CtV.of (by decide) (Nat.le_of_ble_eq_true rfl) rfl (fun G hR hE => ?_)
  refine g_al_0 hR dX5_must_0 ?_
  refine g_al_0 hR dX5_must_1 ?_
  refine gf_X5_isWrong hR fl_X5_223 dX5_must_2 ?_
  refine g_top (show _ = 0 by rw [mdT_19]; rfl) ?_
  refine g_if_ne (tgt := 12) hR dX5_must_5 (by decide) (fun h_c => absurd (rfl) h_c) (fun _ => ?_)
  refine g_il_1 hR dX5_must_8 ?_
  refine g_if_ne (tgt := 16) hR dX5_must_9 (by decide) (fun h_c => absurd (rfl) h_c) (fun _ => ?_)
  refine g_iconst_1 hR dX5_must_12 ?_
  refine g_goto (tgt := 17) hR dX5_must_13 (by decide) ?_
  refine pf_X5_isWrong hR fl_X5_223 dX5_must_17 (by decide) ?_
  refine g_eq (τ := mdT σ S (mkR false R (σ 10) t s)) (by rw [mdT_r]; exact congrArg (mdT σ S) (mkR_w true false R (σ 10) t s)) ?_
  refine g_al_0 hR dX5_must_20 ?_
  refine gf_X5_isWrong hR fl_X5_223 dX5_must_21 ?_
  refine g_top (show _ = 1 by rw [mdT_19]; rfl) ?_
  refine g_if_ne (tgt := 31) hR dX5_must_24 (by decide) (fun _ => ?_) (fun h_c => absurd h_c ((by decide)))
  exact hE dX5_must_31 (rfl)
set_option maxRecDepth 100000 in
set_option maxHeartbeats 4000000 in
theorem em_word {s t : Nat} (hs : s ≤ t) (ht : t ≤ 120) (σ : Hp) (S R : Nat → Int32) (hT : σ 8 1 = nI t) : CtL yX5_word wX5_word 2 [.ref 18] (mdT σ S (mkR true R (σ 10) t s)) (lN (wcN (σ 10) t s)) (mdT σ S (mkR true R (σ 10) t s)) := by
  refine CtL.of (by decide) (Nat.le_of_ble_eq_true rfl) rfl (fun G hR hE => ?_)
  have e10 : ∀ S R, mdT σ S R 10 = σ 10 := fun S R => mdT_b (by decide) (by decide)
  have e8 : ∀ S R, mdT σ S R 8 1 = nI t := fun S R => by rw [mdT_b (by decide) (by decide)]; exact hT
  have e0 : mdT σ S (mkR true R (σ 10) t s) 19 0 = nI s := by rw [mdT_19]; rfl
  have e1 : mdT σ S (mkR true R (σ 10) t s) 19 1 = nI (tE (σ 10) t s) := by rw [mdT_19]; rfl
  have hEt := tE_le (B := σ 10) hs
  have hEs := tE_ge (σ 10) t s
  by_cases hl : leB (σ 10) t s = true
  · have hr := le_run hl
    have hw : wcN (σ 10) t s = saN (σ 10) s (tE (σ 10) t s - s) := by unfold wcN; rw [if_pos hl]
    have lp : ∀ d' j, s + j + d' = tE (σ 10) t s → G 7 [some (.ref 18), some (.long (lN (saN (σ 10) s j))), none, some (.int (nI (s + j)))] [] (mdT σ S (mkR true R (σ 10) t s)) := by
      intro d'
      induction d' with
      | zero =>
        intro j hj
        rw [← show tE (σ 10) t s - s = j by omega, ← hw]
        refine g_il_3 hR dX5_word_7 ?_
        refine g_al_0 hR dX5_word_8 ?_
        refine gf_X5_to hR fl_X5_208 dX5_word_9 ?_
        refine g_top (e1) ?_
        refine g_icmp_ge (tgt := 50) hR dX5_word_12 (by decide) (fun _ => ?_) (fun h_c => absurd (nI_le (by omega) (by omega)) h_c)
        refine g_al_0 hR dX5_word_50 ?_
        refine gf_X5_isWrong hR fl_X5_223 dX5_word_51 ?_
        refine g_top (show _ = 0 by rw [mdT_19]; rfl) ?_
        refine g_if_ne (tgt := 71) hR dX5_word_54 (by decide) (fun h_c => absurd (rfl) h_c) (fun _ => ?_)
        refine g_al_0 hR dX5_word_57 ?_
        refine g_al_0 hR dX5_word_58 ?_
        refine gf_X5_from hR fl_X5_211 dX5_word_59 ?_
        refine g_top (e0) ?_
        refine g_cvI hR ciX5_byteAt dX5_word_62 ml_X5_214 (Nat.le_of_ble_eq_true rfl) (by decide) rfl rfl rfl (em_byteAt (i := s) (t := t) (by omega) ht _ (e8 _ _)) rfl (Nat.le_of_ble_eq_true rfl) rfl ?_
        rw [e10]
        refine g_csI hR ciX5_isLetter dX5_word_65 ml_X5_217 (Nat.le_of_ble_eq_true rfl) (em_isLetter _ _) rfl (Nat.le_of_ble_eq_true rfl) rfl ?_
        refine g_if_ne (tgt := 75) hR dX5_word_68 (by decide) (fun _ => ?_) (fun h_c => absurd h_c (bI_pos (of_decide_eq_true hl)))
        refine g_ll_1 hR dX5_word_75 ?_
        exact hE dX5_word_76 (rfl) (rfl)
      | succ d' ih =>
        intro j hj
        have hlj := hr j (by omega)
        have hb := le_b hlj
        have hle : saN (σ 10) s j ≤ 1200000000000000000 := saN_le j (fun i hi => (le_b (hr i (by omega))).2.1)
        have en := ih (j + 1) (by omega)
        rw [saN] at en
        refine g_il_3 hR dX5_word_7 ?_
        refine g_al_0 hR dX5_word_8 ?_
        refine gf_X5_to hR fl_X5_208 dX5_word_9 ?_
        refine g_top (e1) ?_
        refine g_icmp_ge (tgt := 50) hR dX5_word_12 (by decide) (fun h_c => absurd h_c (nI_ge (by omega) (by omega))) (fun _ => ?_)
        refine g_ll_1 hR dX5_word_15 ?_
        refine g_ldc2 hR dX5_word_16 kl_X5_230 ?_
        refine g_lcmp hR dX5_word_19 ?_
        refine g_if_le (tgt := 27) hR dX5_word_20 (by decide) (fun h => ?_) (fun h => ?_)
        · have h := (wo_c hle).mp h
          rw [if_neg h] at en
          refine g_ldc2 hR dX5_word_27 kl_X5_232 ?_
          refine g_ll_1 hR dX5_word_30 ?_
          refine g_lmul hR dX5_word_31 ?_
          refine g_al_0 hR dX5_word_32 ?_
          refine gf_X5_tape hR fl_X5_25 dX5_word_33 ?_
          refine g_il_3 hR dX5_word_36 ?_
          refine ga_24 hR (s + j) (by omega) rfl dX5_word_37 ?_
          refine g_bipush_96 hR dX5_word_38 ?_
          refine g_isub hR dX5_word_40 ?_
          refine g_i2l hR dX5_word_41 ?_
          refine g_ladd hR dX5_word_42 ?_
          rw [e10, wo_st hb.2.2 hb.2.1]
          refine g_lstore_n hR dX5_word_43 trivial (Nat.le_of_ble_eq_true rfl) rfl ?_
          refine g_inc_3 hR dX5_word_44 trivial ?_
          refine g_goto (tgt := 7) hR dX5_word_47 (by decide) ?_
          exact en
        · have h : 36028797018963967 < saN (σ 10) s j := Classical.byContradiction (fun q => h ((wo_c hle).mpr q))
          rw [if_pos h] at en
          refine g_ll_1 hR dX5_word_23 ?_
          refine g_goto (tgt := 43) hR dX5_word_24 (by decide) ?_
          refine g_lstore_n hR dX5_word_43 trivial (Nat.le_of_ble_eq_true rfl) rfl ?_
          refine g_inc_3 hR dX5_word_44 trivial ?_
          refine g_goto (tgt := 7) hR dX5_word_47 (by decide) ?_
          exact en
    refine g_lconst (v := 0) hR dX5_word_0 (by decide) ?_
    refine g_lstore_n hR dX5_word_1 trivial (Nat.le_of_ble_eq_true rfl) rfl ?_
    refine g_al_0 hR dX5_word_2 ?_
    refine gf_X5_from hR fl_X5_211 dX5_word_3 ?_
    refine g_top (e0) ?_
    refine g_is_3 hR dX5_word_6 trivial ?_
    exact lp (tE (σ 10) t s - s) 0 (by omega)
  · have hw : wcN (σ 10) t s = 0 := by unfold wcN; rw [if_neg hl]
    have lp : ∀ d' j (v : Int64), s + j + d' = tE (σ 10) t s → G 7 [some (.ref 18), some (.long v), none, some (.int (nI (s + j)))] [] (mdT σ S (mkR true R (σ 10) t s)) := by
      intro d'
      induction d' with
      | zero =>
        intro j v hj
        refine g_il_3 hR dX5_word_7 ?_
        refine g_al_0 hR dX5_word_8 ?_
        refine gf_X5_to hR fl_X5_208 dX5_word_9 ?_
        refine g_top (e1) ?_
        refine g_icmp_ge (tgt := 50) hR dX5_word_12 (by decide) (fun _ => ?_) (fun h_c => absurd (nI_le (by omega) (by omega)) h_c)
        refine g_al_0 hR dX5_word_50 ?_
        refine gf_X5_isWrong hR fl_X5_223 dX5_word_51 ?_
        refine g_top (show _ = 0 by rw [mdT_19]; rfl) ?_
        refine g_if_ne (tgt := 71) hR dX5_word_54 (by decide) (fun h_c => absurd (rfl) h_c) (fun _ => ?_)
        refine g_al_0 hR dX5_word_57 ?_
        refine g_al_0 hR dX5_word_58 ?_
        refine gf_X5_from hR fl_X5_211 dX5_word_59 ?_
        refine g_top (e0) ?_
        refine g_cvI hR ciX5_byteAt dX5_word_62 ml_X5_214 (Nat.le_of_ble_eq_true rfl) (by decide) rfl rfl rfl (em_byteAt (i := s) (t := t) (by omega) ht _ (e8 _ _)) rfl (Nat.le_of_ble_eq_true rfl) rfl ?_
        rw [e10]
        refine g_csI hR ciX5_isLetter dX5_word_65 ml_X5_217 (Nat.le_of_ble_eq_true rfl) (em_isLetter _ _) rfl (Nat.le_of_ble_eq_true rfl) rfl ?_
        refine g_if_ne (tgt := 75) hR dX5_word_68 (by decide) (fun h_c => absurd (bI_0.mpr (fun q => hl (decide_eq_true q))) h_c) (fun _ => ?_)
        refine g_lconst (v := 0) hR dX5_word_71 (by decide) ?_
        refine g_goto (tgt := 76) hR dX5_word_72 (by decide) ?_
        exact hE dX5_word_76 (by rw [hw]; rfl) (rfl)
      | succ d' ih =>
        intro j v hj
        refine g_il_3 hR dX5_word_7 ?_
        refine g_al_0 hR dX5_word_8 ?_
        refine gf_X5_to hR fl_X5_208 dX5_word_9 ?_
        refine g_top (e1) ?_
        refine g_icmp_ge (tgt := 50) hR dX5_word_12 (by decide) (fun h_c => absurd h_c (nI_ge (by omega) (by omega))) (fun _ => ?_)
        refine g_ll_1 hR dX5_word_15 ?_
        refine g_ldc2 hR dX5_word_16 kl_X5_230 ?_
        refine g_lcmp hR dX5_word_19 ?_
        refine g_if_le (tgt := 27) hR dX5_word_20 (by decide) (fun h => ?_) (fun h => ?_)
        · refine g_ldc2 hR dX5_word_27 kl_X5_232 ?_
          refine g_ll_1 hR dX5_word_30 ?_
          refine g_lmul hR dX5_word_31 ?_
          refine g_al_0 hR dX5_word_32 ?_
          refine gf_X5_tape hR fl_X5_25 dX5_word_33 ?_
          refine g_il_3 hR dX5_word_36 ?_
          refine ga_24 hR (s + j) (by omega) rfl dX5_word_37 ?_
          refine g_bipush_96 hR dX5_word_38 ?_
          refine g_isub hR dX5_word_40 ?_
          refine g_i2l hR dX5_word_41 ?_
          refine g_ladd hR dX5_word_42 ?_
          refine g_lstore_n hR dX5_word_43 trivial (Nat.le_of_ble_eq_true rfl) rfl ?_
          refine g_inc_3 hR dX5_word_44 trivial ?_
          refine g_goto (tgt := 7) hR dX5_word_47 (by decide) ?_
          exact ih (j + 1) _ (by omega)
        · refine g_ll_1 hR dX5_word_23 ?_
          refine g_goto (tgt := 43) hR dX5_word_24 (by decide) ?_
          refine g_lstore_n hR dX5_word_43 trivial (Nat.le_of_ble_eq_true rfl) rfl ?_
          refine g_inc_3 hR dX5_word_44 trivial ?_
          refine g_goto (tgt := 7) hR dX5_word_47 (by decide) ?_
          exact ih (j + 1) _ (by omega)
    refine g_lconst (v := 0) hR dX5_word_0 (by decide) ?_
    refine g_lstore_n hR dX5_word_1 trivial (Nat.le_of_ble_eq_true rfl) rfl ?_
    refine g_al_0 hR dX5_word_2 ?_
    refine gf_X5_from hR fl_X5_211 dX5_word_3 ?_
    refine g_top (e0) ?_
    refine g_is_3 hR dX5_word_6 trivial ?_
    exact lp (tE (σ 10) t s - s) 0 0 (by omega)
set_option maxRecDepth 100000 in
set_option maxHeartbeats 4000000 in
theorem em_number0 {s t : Nat} (lo hi : Int32) (σ : Hp) (S R : Nat → Int32) : CtV yX5_number wX5_number 4 [.ref 18, .int lo, .int hi] (mdT σ S (mkR false R (σ 10) t s)) (mdT σ S (mkR false R (σ 10) t s)) := by
  refine CtV.of (by decide) (Nat.le_of_ble_eq_true rfl) rfl (fun G hR hE => ?_)
  refine g_al_0 hR dX5_number_0 ?_
  refine gf_X5_isWrong hR fl_X5_223 dX5_number_1 ?_
  refine g_top (show _ = 1 by rw [mdT_19]; rfl) ?_
  refine g_if_eq (tgt := 8) hR dX5_number_4 (by decide) (fun h_c => absurd h_c ((by decide))) (fun _ => ?_)
  exact hE dX5_number_7 (rfl)
set_option maxRecDepth 100000 in
set_option maxHeartbeats 4000000 in
theorem em_number {s t hi : Nat} (hs : s ≤ t) (ht : t ≤ 120) (hh : hi ≤ 999) (lo : Int32) (σ : Hp) (S R : Nat → Int32) (hT : σ 8 1 = nI t) : CtW yX5_number wX5_number 4 [.ref 18, .int lo, .int (nI hi)] (mdT σ S (mkR true R (σ 10) t s)) (fun σ' => ∃ R', σ' = mdT σ S (mkR (ncB lo (nI hi) (σ 10) t s) R' (σ 10) t (if ncB lo (nI hi) (σ 10) t s = true then nx (σ 10) t s else s)) ∧ (ncB lo (nI hi) (σ 10) t s = true → R' 2 = nI (nmV (σ 10) t s))) := by
  refine CtW.of (by decide) (Nat.le_of_ble_eq_true rfl) rfl (fun G hR hE => ?_)
  have e10 : ∀ S R, mdT σ S R 10 = σ 10 := fun S R => mdT_b (by decide) (by decide)
  have e8 : ∀ S R, mdT σ S R 8 1 = nI t := fun S R => by rw [mdT_b (by decide) (by decide)]; exact hT
  have e0 : mdT σ S (mkR true R (σ 10) t s) 19 0 = nI s := by rw [mdT_19]; rfl
  have e1 : mdT σ S (mkR true R (σ 10) t s) 19 1 = nI (tE (σ 10) t s) := by rw [mdT_19]; rfl
  have hEt := tE_le (B := σ 10) hs
  have hEs := tE_ge (σ 10) t s
  have fin : ∀ (c v : Int32) x5, (c = 0 ∨ c = 1) → (ncB lo (nI hi) (σ 10) t s = true ↔ (¬ c = 0 ∧ lo ≤ v ∧ v ≤ nI hi)) → (ncB lo (nI hi) (σ 10) t s = true → v = nI (nmV (σ 10) t s)) → G 79 [some (.ref 18), some (.int lo), some (.int (nI hi)), some (.int c), some (.int v), x5] [] (mdT σ S (mkR true R (σ 10) t s)) := by
    intro c v x5 hc hiff hv
    have good : ncB lo (nI hi) (σ 10) t s = true → G 108 [some (.ref 18), some (.int lo), some (.int (nI hi)), some (.int c), some (.int v), x5] [.int 1, .ref 18] (mdT σ S (mkR true (upd R 2 v) (σ 10) t s)) := by
      intro hn
      rw [hn] at hE
      refine g_cvV hR ciX5_must dX5_number_108 ml_X5_237 (Nat.le_of_ble_eq_true rfl) (by decide) rfl rfl rfl (em_must1 (s := s) (t := t) hs ht σ S _ hT) rfl (Nat.le_of_ble_eq_true rfl) rfl ?_
      exact hE dX5_number_111 (⟨_, by rw [if_pos rfl], fun _ => by rw [upd_s]; exact hv hn⟩)
    have bad : ¬ ncB lo (nI hi) (σ 10) t s = true → G 107 [some (.ref 18), some (.int lo), some (.int (nI hi)), some (.int c), some (.int v), x5] [.ref 18] (mdT σ S (mkR true (upd R 2 v) (σ 10) t s)) := by
      intro hn
      have hn2 : ncB lo (nI hi) (σ 10) t s = false := by simpa using hn
      rw [hn2] at hE
      refine g_iconst_0 hR dX5_number_107 ?_
      refine g_cvV hR ciX5_must dX5_number_108 ml_X5_237 (Nat.le_of_ble_eq_true rfl) (by decide) rfl rfl rfl (em_must0 (s := s) (t := t) σ S _) rfl (Nat.le_of_ble_eq_true rfl) rfl ?_
      exact hE dX5_number_111 (⟨_, by rw [if_neg (by decide)], fun w => absurd w (by decide)⟩)
    refine g_al_0 hR dX5_number_79 ?_
    refine g_il_4 hR dX5_number_80 ?_
    refine pf_X5_value hR fl_X5_234 dX5_number_82 ?_
    rw [mdT_r, mkR_v]
    refine g_al_0 hR dX5_number_85 ?_
    refine g_il_3 hR dX5_number_86 ?_
    refine g_if_eq (tgt := 107) hR dX5_number_87 (by decide) (fun h => ?_) (fun h => ?_)
    · exact bad (fun w => (hiff.mp w).1 h)
    · refine g_il_4 hR dX5_number_90 ?_
      refine g_i2l hR dX5_number_92 ?_
      refine g_il_1 hR dX5_number_93 ?_
      refine g_i2l hR dX5_number_94 ?_
      refine g_il_2 hR dX5_number_95 ?_
      refine g_i2l hR dX5_number_96 ?_
      refine g_csI hR ciX5_in dX5_number_97 ml_X5_43 (Nat.le_of_ble_eq_true rfl) (ev_in v lo (nI hi) rfl rfl _) rfl (Nat.le_of_ble_eq_true rfl) rfl ?_
      refine g_if_eq (tgt := 107) hR dX5_number_100 (by decide) (fun h2 => ?_) (fun h2 => ?_)
      · exact bad (fun w => bI_0.mp h2 (hiff.mp w).2)
      · refine g_iconst_1 hR dX5_number_103 ?_
        refine g_goto (tgt := 108) hR dX5_number_104 (by decide) ?_
        exact good (hiff.mpr ⟨h, bI_no h2⟩)
  refine g_al_0 hR dX5_number_0 ?_
  refine gf_X5_isWrong hR fl_X5_223 dX5_number_1 ?_
  refine g_top (show _ = 0 by rw [mdT_19]; rfl) ?_
  refine g_if_eq (tgt := 8) hR dX5_number_4 (by decide) (fun _ => ?_) (fun h_c => absurd (rfl) h_c)
  refine g_al_0 hR dX5_number_8 ?_
  refine g_al_0 hR dX5_number_9 ?_
  refine gf_X5_from hR fl_X5_211 dX5_number_10 ?_
  refine g_top (e0) ?_
  refine g_cvI hR ciX5_byteAt dX5_number_13 ml_X5_214 (Nat.le_of_ble_eq_true rfl) (by decide) rfl rfl rfl (em_byteAt (i := s) (t := t) (by omega) ht _ (e8 _ _)) rfl (Nat.le_of_ble_eq_true rfl) rfl ?_
  rw [e10]
  refine g_csI hR ciX5_isDigit dX5_number_16 ml_X5_220 (Nat.le_of_ble_eq_true rfl) (em_isDigit _ _) rfl (Nat.le_of_ble_eq_true rfl) rfl ?_
  refine g_is_3 hR dX5_number_19 trivial ?_
  refine g_iconst_0 hR dX5_number_20 ?_
  refine g_is_4 hR dX5_number_21 trivial ?_
  refine g_al_0 hR dX5_number_23 ?_
  refine gf_X5_from hR fl_X5_211 dX5_number_24 ?_
  refine g_top (e0) ?_
  refine g_is_5 hR dX5_number_27 trivial ?_
  by_cases hd : diB (σ 10) t s = true
  · have hnl : ¬ leB (σ 10) t s = true := fun q => le_di q hd
    have hE' : tE (σ 10) t s = runN (diB (σ 10) t) t s := by unfold tE; rw [if_neg hnl, if_pos hd]
    have hdi : ∀ j, s + j < tE (σ 10) t s → diB (σ 10) t (s + j) = true := fun j hj => run_in (p := s) (t := t) (by omega) (by rw [← hE']; exact hj)
    have lp : ∀ d' j, s + j + d' = tE (σ 10) t s → G 29 [some (.ref 18), some (.int lo), some (.int (nI hi)), some (.int (bI (48 ≤ byV (σ 10) t s ∧ byV (σ 10) t s ≤ 57))), some (.int (nI (nuM (σ 10) s j))), some (.int (nI (s + j)))] [] (mdT σ S (mkR true R (σ 10) t s)) := by
      intro d'
      induction d' with
      | zero =>
        intro j hj
        have ej : nuM (σ 10) s j = nmM (σ 10) t s := by unfold nmM; congr 1; omega
        obtain ⟨k1, k2⟩ := nm_c (lo := lo) hd hh
        refine g_il_5 hR dX5_number_29 ?_
        refine g_al_0 hR dX5_number_31 ?_
        refine gf_X5_to hR fl_X5_208 dX5_number_32 ?_
        refine g_top (e1) ?_
        refine g_icmp_ge (tgt := 79) hR dX5_number_35 (by decide) (fun _ => ?_) (fun h_c => absurd (nI_le (by omega) (by omega)) h_c)
        rw [ej]
        refine fin _ _ _ (bI_01 _) ⟨fun w => ⟨bI_pos (of_decide_eq_true hd), k1.mpr (of_decide_eq_true w).2⟩, fun w => decide_eq_true ⟨hd, k1.mp w.2⟩⟩ (fun w => congrArg nI (k2 (of_decide_eq_true w).2))
      | succ d' ih =>
        intro j hj
        have hb := di_b (hdi j (by omega))
        have hM : nuM (σ 10) s j ≤ 9999 := nuM_le (fun i hi => (di_b (hdi i (by omega))).1)
        have en := ih (j + 1) (by omega)
        rw [nuM] at en
        refine g_il_5 hR dX5_number_29 ?_
        refine g_al_0 hR dX5_number_31 ?_
        refine gf_X5_to hR fl_X5_208 dX5_number_32 ?_
        refine g_top (e1) ?_
        refine g_icmp_ge (tgt := 79) hR dX5_number_35 (by decide) (fun h_c => absurd h_c (nI_ge (by omega) (by omega))) (fun _ => ?_)
        refine g_il_3 hR dX5_number_38 ?_
        refine g_if_eq (tgt := 79) hR dX5_number_39 (by decide) (fun h_c => absurd h_c (bI_pos (of_decide_eq_true hd))) (fun _ => ?_)
        refine g_il_4 hR dX5_number_42 ?_
        refine g_sipush_999 hR dX5_number_44 ?_
        by_cases h9 : 999 < nuM (σ 10) s j
        · rw [if_pos h9] at en
          refine g_icmp_le (tgt := 55) hR dX5_number_47 (by decide) (fun h_c => absurd h_c (nI_ge (a := 999) h9 (by omega))) (fun _ => ?_)
          refine g_il_4 hR dX5_number_50 ?_
          refine g_goto (tgt := 71) hR dX5_number_52 (by decide) ?_
          refine g_is_4 hR dX5_number_71 trivial ?_
          refine g_inc_5 hR dX5_number_73 trivial ?_
          refine g_goto (tgt := 29) hR dX5_number_76 (by decide) ?_
          exact en
        · rw [if_neg h9] at en
          refine g_icmp_le (tgt := 55) hR dX5_number_47 (by decide) (fun _ => ?_) (fun h_c => absurd (nI_le (b := 999) (by omega) (by decide)) h_c)
          refine g_bipush_10 hR dX5_number_55 ?_
          refine g_il_4 hR dX5_number_57 ?_
          refine g_imul hR dX5_number_59 ?_
          refine g_al_0 hR dX5_number_60 ?_
          refine gf_X5_tape hR fl_X5_25 dX5_number_61 ?_
          refine g_il_5 hR dX5_number_64 ?_
          refine ga_24 hR (s + j) (by omega) rfl dX5_number_66 ?_
          refine g_iadd hR dX5_number_67 ?_
          refine g_bipush_48 hR dX5_number_68 ?_
          refine g_isub hR dX5_number_70 ?_
          refine g_top (show _ = nI (10 * nuM (σ 10) s j + dgB (σ 10 (s + j))) by rw [e10]; exact nu_st2 hb.2.1) ?_
          refine g_is_4 hR dX5_number_71 trivial ?_
          refine g_inc_5 hR dX5_number_73 trivial ?_
          refine g_goto (tgt := 29) hR dX5_number_76 (by decide) ?_
          exact en
    exact lp (tE (σ 10) t s - s) 0 (by omega)
  · have hb0 : bI (48 ≤ byV (σ 10) t s ∧ byV (σ 10) t s ≤ 57) = 0 := bI_0.mpr (fun q => hd (decide_eq_true q))
    rw [hb0]
    have hno : ¬ ncB lo (nI hi) (σ 10) t s = true := fun w => hd (of_decide_eq_true w).1
    by_cases hst : s < tE (σ 10) t s
    · refine g_il_5 hR dX5_number_29 ?_
      refine g_al_0 hR dX5_number_31 ?_
      refine gf_X5_to hR fl_X5_208 dX5_number_32 ?_
      refine g_top (e1) ?_
      refine g_icmp_ge (tgt := 79) hR dX5_number_35 (by decide) (fun h_c => absurd h_c (nI_ge hst (by omega))) (fun _ => ?_)
      refine g_il_3 hR dX5_number_38 ?_
      refine g_if_eq (tgt := 79) hR dX5_number_39 (by decide) (fun _ => ?_) (fun h_c => absurd (rfl) h_c)
      exact fin 0 0 _ (Or.inl rfl) ⟨fun w => absurd w hno, fun w => absurd rfl w.1⟩ (fun w => absurd w hno)
    · refine g_il_5 hR dX5_number_29 ?_
      refine g_al_0 hR dX5_number_31 ?_
      refine gf_X5_to hR fl_X5_208 dX5_number_32 ?_
      refine g_top (e1) ?_
      refine g_icmp_ge (tgt := 79) hR dX5_number_35 (by decide) (fun _ => ?_) (fun h_c => absurd (nI_le (by omega) (by omega)) h_c)
      exact fin 0 0 _ (Or.inl rfl) ⟨fun w => absurd w hno, fun w => absurd rfl w.1⟩ (fun w => absurd w hno)
