set_option maxRecDepth 100000 in
set_option maxHeartbeats 4000000 in
theorem ev_isNumber {s t : Nat} (l m : Int32) (σ : Hp) (R : Nat → Int32) (h : σ 20 = tkR R (σ 9) t s) : CtI yX2_isNumber wX2_isNumber 1 [.ref 12, .int l, .int m] (σ) (bI (ncB l m (σ 9) t s = true)) (σ) := by
  refine CtI.of (by decide) (Nat.le_of_ble_eq_true rfl) (bI_nar _) rfl (fun G hR hE => ?_)
  have e0 : σ 20 0 = srt (σ 9) t s := by rw [h]; rfl
  refine g_al_0 hR dX2_isNumber_0 ?_
  refine gf_X2_tokenSort hR fl_X2_11 dX2_isNumber_1 ?_
  refine g_top (e0) ?_
  refine g_iconst_2 hR dX2_isNumber_4 ?_
  refine g_icmp_ne (tgt := 24) hR dX2_isNumber_5 (by decide) (fun h1 => ?_) (fun h1 => ?_)
  · have hd : ¬ diB (σ 9) t s = true := fun q => h1 (srt_2.mpr q)
    refine g_iconst_0 hR dX2_isNumber_24 ?_
    exact hE dX2_isNumber_25 (bI_f (fun q => hd (of_decide_eq_true q).1)) (rfl)
  · have hd := srt_2.mp h1
    have e3 : σ 20 3 = nI (nmV (σ 9) t s) := by rw [h]; exact tkR_3 hd
    refine g_al_0 hR dX2_isNumber_8 ?_
    refine gf_X2_tokenNumber hR fl_X2_21 dX2_isNumber_9 ?_
    refine g_top (e3) ?_
    refine g_il_1 hR dX2_isNumber_12 ?_
    refine g_il_2 hR dX2_isNumber_13 ?_
    refine g_cnI hR ciX4_isWithin dX2_isNumber_14 nw_X2_96 (Nat.le_of_ble_eq_true rfl) (ev_isWithin _ l m σ) rfl (Nat.le_of_ble_eq_true rfl) rfl ?_
    refine g_if_eq (tgt := 24) hR dX2_isNumber_17 (by decide) (fun h2 => ?_) (fun h2 => ?_)
    · have h2 := bI_0.mp h2
      refine g_iconst_0 hR dX2_isNumber_24 ?_
      exact hE dX2_isNumber_25 (bI_f (fun q => h2 (of_decide_eq_true q).2)) (rfl)
    · have h2 := bI_no h2
      refine g_iconst_1 hR dX2_isNumber_20 ?_
      refine g_goto (tgt := 25) hR dX2_isNumber_21 (by decide) ?_
      exact hE dX2_isNumber_25 (bI_t (decide_eq_true ⟨hd, h2⟩)) (rfl)
set_option maxRecDepth 100000 in
set_option maxHeartbeats 4000000 in
theorem ev_isWord {q s t : Nat} (hi : q < 13) (hs : s ≤ t) (ht : t ≤ 120) (σ : Hp) (R : Nat → Int32) (h : σ 20 = tkR R (σ 9) t s) (hT : σ 3 1 = nI t) : CtI yX2_isWord wX2_isWord 5 [.ref 12, .ref (50 + q)] (σ) (bI (wdB (sBy.getD q []) (σ 9) t s = true)) (σ) := by
  refine CtI.of (by decide) (Nat.le_of_ble_eq_true rfl) (bI_nar _) rfl (fun G hR hE => ?_)
  have e0 : σ 20 0 = srt (σ 9) t s := by rw [h]; rfl
  have e1 : σ 20 1 = nI s := by rw [h]; rfl
  have e2 : σ 20 2 = nI (tE (σ 9) t s) := by rw [h]; rfl
  obtain ⟨hb1, hb2, -⟩ := str_by q hi
  have hEs := tE_ge (σ 9) t s
  have hEt := tE_le (B := σ 9) hs
  have no : ∀ x, ¬ wdB (sBy.getD q []) (σ 9) t s = true → G 24 [some (.ref 12), some (.ref (50 + q)), x] [] σ := by
    intro x hn
    refine g_iconst_0 hR dX2_isWord_24 ?_
    exact hE dX2_isWord_25 (bI_f hn) (rfl)
  have lp : ∀ d' j, j + d' = sLn.getD q 0 → leB (σ 9) t s = true → (sBy.getD q []).length = tE (σ 9) t s - s → (∀ i, i < j → (sBy.getD q []).getD i 0 = σ 9 (s + i)) → G 28 [some (.ref 12), some (.ref (50 + q)), some (.int (nI j))] [] σ := by
    intro d'
    induction d' with
    | zero =>
      intro j hj hl hlen hw
      obtain rfl : j = sLn.getD q 0 := by omega
      refine g_il_2 hR dX2_isWord_28 ?_
      refine g_al_1 hR dX2_isWord_29 ?_
      refine g_cvS hR ciJ0_length_8abf5 dX2_isWord_30 ml_X2_100 (Nat.le_of_ble_eq_true rfl) hi rfl (es_length hi σ) rfl (Nat.le_of_ble_eq_true rfl) rfl ?_
      refine g_icmp_ge (tgt := 65) hR dX2_isWord_33 (by decide) (fun _ => ?_) (fun hc => absurd (Int32.le_refl _) hc)
      refine g_iconst_1 hR dX2_isWord_65 ?_
      exact hE dX2_isWord_66 (bI_t (decide_eq_true ⟨hl, hlen, by rw [hb1]; exact hw⟩)) (rfl)
    | succ d' ih =>
      intro j hj hl hlen hw
      have ej : byV (σ 9) t (s + j) = σ 9 (s + j) := by_in (by omega)
      refine g_il_2 hR dX2_isWord_28 ?_
      refine g_al_1 hR dX2_isWord_29 ?_
      refine g_cvS hR ciJ0_length_8abf5 dX2_isWord_30 ml_X2_100 (Nat.le_of_ble_eq_true rfl) hi rfl (es_length hi σ) rfl (Nat.le_of_ble_eq_true rfl) rfl ?_
      refine g_icmp_ge (tgt := 65) hR dX2_isWord_33 (by decide) (fun hc => absurd hc (nI_ge (by omega) (by omega))) (fun _ => ?_)
      refine g_al_1 hR dX2_isWord_36 ?_
      refine g_il_2 hR dX2_isWord_37 ?_
      refine g_cvS hR ciJ0_charAt_5068e dX2_isWord_38 ml_X2_106 (Nat.le_of_ble_eq_true rfl) hi rfl (es_charAt hi (k := j) (by omega) σ) rfl (Nat.le_of_ble_eq_true rfl) rfl ?_
      refine g_al_0 hR dX2_isWord_41 ?_
      refine gf_X2_tape hR fl_X2_24 dX2_isWord_42 ?_
      refine g_al_0 hR dX2_isWord_45 ?_
      refine gf_X2_tokenStart hR fl_X2_15 dX2_isWord_46 ?_
      refine g_top (e1) ?_
      refine g_il_2 hR dX2_isWord_49 ?_
      refine g_iadd hR dX2_isWord_50 ?_
      refine g_top (nI_add s j) ?_
      refine g_cvI hR ciX1_byteAt dX2_isWord_51 ml_X2_110 (Nat.le_of_ble_eq_true rfl) (by decide) rfl rfl rfl (ev_byteAt (i := s + j) (t := t) (by omega) ht σ hT) rfl (Nat.le_of_ble_eq_true rfl) rfl ?_
      refine g_icmp_eq (tgt := 59) hR dX2_isWord_54 (by decide) (fun h2 => ?_) (fun h2 => ?_)
      · have h2 : (sBy.getD q []).getD j 0 = σ 9 (s + j) := h2.trans ej
        refine g_inc_2 hR dX2_isWord_59 trivial ?_
        refine g_goto (tgt := 28) hR dX2_isWord_62 (by decide) ?_
        refine ih (j + 1) (by omega) hl hlen (fun i hi2 => ?_)
        by_cases e : i = j
        · rw [e]; exact h2
        · exact hw i (by omega)
      · have h2 : ¬ (sBy.getD q []).getD j 0 = σ 9 (s + j) := fun e => h2 (e.trans ej.symm)
        refine g_iconst_0 hR dX2_isWord_57 ?_
        exact hE dX2_isWord_58 (bI_f (fun w => h2 ((of_decide_eq_true w).2.2 j (by rw [hb1]; omega)))) (rfl)
  refine g_al_0 hR dX2_isWord_0 ?_
  refine gf_X2_tokenSort hR fl_X2_11 dX2_isWord_1 ?_
  refine g_top (e0) ?_
  refine g_iconst_1 hR dX2_isWord_4 ?_
  refine g_icmp_ne (tgt := 24) hR dX2_isWord_5 (by decide) (fun h1 => ?_) (fun h1 => ?_)
  · exact no _ (fun w => h1 (srt_1.mpr (of_decide_eq_true w).1))
  · refine g_al_1 hR dX2_isWord_8 ?_
    refine g_cvS hR ciJ0_length_8abf5 dX2_isWord_9 ml_X2_100 (Nat.le_of_ble_eq_true rfl) hi rfl (es_length hi σ) rfl (Nat.le_of_ble_eq_true rfl) rfl ?_
    refine g_al_0 hR dX2_isWord_12 ?_
    refine gf_X2_tokenEnd hR fl_X2_18 dX2_isWord_13 ?_
    refine g_top (e2) ?_
    refine g_al_0 hR dX2_isWord_16 ?_
    refine gf_X2_tokenStart hR fl_X2_15 dX2_isWord_17 ?_
    refine g_top (e1) ?_
    refine g_isub hR dX2_isWord_20 ?_
    refine g_top (pk_sub hEs) ?_
    refine g_icmp_eq (tgt := 26) hR dX2_isWord_21 (by decide) (fun h2 => ?_) (fun h2 => ?_)
    · have h2 := (nI_eq (by omega) (by omega)).mp h2
      refine g_iconst_0 hR dX2_isWord_26 ?_
      refine g_is_2 hR dX2_isWord_27 trivial ?_
      exact lp (sLn.getD q 0) 0 (by omega) (srt_1.mp h1) (by rw [hb1]; exact h2) (fun i hi2 => by omega)
    · exact no _ (fun w => h2 (congrArg nI (by rw [← hb1]; exact (of_decide_eq_true w).2.1)))
set_option maxRecDepth 100000 in
set_option maxHeartbeats 4000000 in
theorem ev_wordOf {k : Nat} (hk : k < 7) (σ : Hp) : CtR yX2_wordOf wX2_wordOf 0 [.int (nI k)] (σ) (50 + k) (σ) := by
  refine CtR.of (by decide) (Nat.le_of_ble_eq_true rfl) rfl (fun G hR hE => ?_)
  rcases (show k = 0 ∨ k = 1 ∨ k = 2 ∨ k = 3 ∨ k = 4 ∨ k = 5 ∨ k = 6 by omega) with rfl | rfl | rfl | rfl | rfl | rfl | rfl
  · refine g_il_0 hR dX2_wordOf_0 ?_
    refine g_tin (off := 43) (tgt := 44) hR dX2_wordOf_1 (by decide) (by decide) (by decide) (by decide) ?_
    refine g_ldcS (i := 0) hR (by decide) rfl dX2_wordOf_44 ?_
    exact hE dX2_wordOf_46 (rfl) (rfl)
  · refine g_il_0 hR dX2_wordOf_0 ?_
    refine g_tin (off := 46) (tgt := 47) hR dX2_wordOf_1 (by decide) (by decide) (by decide) (by decide) ?_
    refine g_ldcS (i := 1) hR (by decide) rfl dX2_wordOf_47 ?_
    exact hE dX2_wordOf_49 (rfl) (rfl)
  · refine g_il_0 hR dX2_wordOf_0 ?_
    refine g_tin (off := 49) (tgt := 50) hR dX2_wordOf_1 (by decide) (by decide) (by decide) (by decide) ?_
    refine g_ldcS (i := 2) hR (by decide) rfl dX2_wordOf_50 ?_
    exact hE dX2_wordOf_52 (rfl) (rfl)
  · refine g_il_0 hR dX2_wordOf_0 ?_
    refine g_tin (off := 52) (tgt := 53) hR dX2_wordOf_1 (by decide) (by decide) (by decide) (by decide) ?_
    refine g_ldcS (i := 3) hR (by decide) rfl dX2_wordOf_53 ?_
    exact hE dX2_wordOf_55 (rfl) (rfl)
  · refine g_il_0 hR dX2_wordOf_0 ?_
    refine g_tin (off := 55) (tgt := 56) hR dX2_wordOf_1 (by decide) (by decide) (by decide) (by decide) ?_
    refine g_ldcS (i := 4) hR (by decide) rfl dX2_wordOf_56 ?_
    exact hE dX2_wordOf_58 (rfl) (rfl)
  · refine g_il_0 hR dX2_wordOf_0 ?_
    refine g_tin (off := 58) (tgt := 59) hR dX2_wordOf_1 (by decide) (by decide) (by decide) (by decide) ?_
    refine g_ldcS (i := 5) hR (by decide) rfl dX2_wordOf_59 ?_
    exact hE dX2_wordOf_61 (rfl) (rfl)
  · refine g_il_0 hR dX2_wordOf_0 ?_
    refine g_tin (off := 61) (tgt := 62) hR dX2_wordOf_1 (by decide) (by decide) (by decide) (by decide) ?_
    refine g_ldcS (i := 6) hR (by decide) rfl dX2_wordOf_62 ?_
    exact hE dX2_wordOf_64 (rfl) (rfl)
set_option maxRecDepth 100000 in
set_option maxHeartbeats 4000000 in
theorem ev_readFact {q p k s t : Nat} (hi : q < 13) (hp : p < 8) (hk : k < 6) (hs : s ≤ t) (ht : t ≤ 120) (lo hi' : Int32) (hlo : flT k = lo) (hhi : fmT k = hi') (σ : Hp) (S R : Nat → Int32) (hT : σ 3 1 = nI t) (hB : ∀ i, i < t → 0 ≤ (σ 9 i).toInt) : CtP yX2_readFact wX2_readFact 6 [.ref 12, .ref (50 + q), .int (nI p), .int (nI k)] (rdT σ S (tkR R (σ 9) t s)) (bI ((facR (sBy.getD q []) lo hi' (σ 9) t p k S s).1 = true)) (fun σ' => ∃ R', σ' = rdT σ (facR (sBy.getD q []) lo hi' (σ 9) t p k S s).2.1 (tkR R' (σ 9) t (facR (sBy.getD q []) lo hi' (σ 9) t p k S s).2.2)) := by
  refine CtP.of (by decide) (Nat.le_of_ble_eq_true rfl) (bI_nar _) rfl (fun G hR hE => ?_)
  have e9 : ∀ S R, rdT σ S R 9 = σ 9 := fun S R => rdT_b (by decide) (by decide)
  have e3 : ∀ S R, rdT σ S R 3 1 = nI t := fun S R => by rw [rdT_b (by decide) (by decide)]; exact hT
  have e20 : ∀ S R s, rdT σ S (tkR R (σ 9) t s) 20 = tkR R (rdT σ S (tkR R (σ 9) t s) 9) t s := fun S R s => by rw [rdT_20, e9]
  have eB : ∀ S R i, i < t → 0 ≤ (rdT σ S R 9 i).toInt := fun S R i h => by rw [e9]; exact hB i h
  by_cases hw : wdB (sBy.getD q []) (σ 9) t s = true
  · unfold facR at hE
    rw [if_pos hw] at hE
    have bad : ¬ ncB lo hi' (σ 9) t (nx (σ 9) t s) = true → G 33 [some (.ref 12), some (.ref (50 + q)), some (.int (nI p)), some (.int (nI k))] [] (rdT σ S (tkR (tkR R (σ 9) t s) (σ 9) t (nx (σ 9) t s))) := by
      intro hn
      rw [if_neg hn] at hE
      refine g_iconst_0 hR dX2_readFact_33 ?_
      exact hE dX2_readFact_34 (bI_f (fun w => by cases w)) (⟨_, rfl⟩)
    refine g_al_0 hR dX2_readFact_0 ?_
    refine g_al_1 hR dX2_readFact_1 ?_
    refine g_cvI hR ciX2_isWord dX2_readFact_2 ml_X2_43 (Nat.le_of_ble_eq_true rfl) (by decide) rfl rfl rfl (ev_isWord (q := q) (s := s) (t := t) hi hs ht _ R (e20 _ _ _) (e3 _ _)) rfl (Nat.le_of_ble_eq_true rfl) rfl ?_
    refine g_if_ne (tgt := 10) hR dX2_readFact_5 (by decide) (fun _ => ?_) (fun hc => absurd hc (bI_pos (by rw [e9]; exact hw)))
    refine g_al_0 hR dX2_readFact_10 ?_
    refine g_cvV hR ciX2_takeToken dX2_readFact_11 ml_X2_32 (Nat.le_of_ble_eq_true rfl) (by decide) rfl rfl rfl (ev_takeToken (p := tE (σ 9) t s) (t := t) (tE_le hs) ht _ (e3 _ _) (eB _ _) (by rw [rdT_20]; rfl)) rfl (Nat.le_of_ble_eq_true rfl) rfl ?_
    rw [rdT_R, rdT_20, e9, show tS (σ 9) t (tE (σ 9) t s) = nx (σ 9) t s from rfl]
    refine g_al_0 hR dX2_readFact_14 ?_
    refine gf_X2_tokenSort hR fl_X2_11 dX2_readFact_15 ?_
    refine g_top (show _ = srt (σ 9) t (nx (σ 9) t s) by rw [rdT_20]; rfl) ?_
    refine g_iconst_2 hR dX2_readFact_18 ?_
    refine g_icmp_ne (tgt := 33) hR dX2_readFact_19 (by decide) (fun h1 => ?_) (fun h1 => ?_)
    · exact bad (fun w => h1 (srt_2.mpr (of_decide_eq_true w).1))
    · have hd := srt_2.mp h1
      refine g_il_3 hR dX2_readFact_22 ?_
      refine g_al_0 hR dX2_readFact_23 ?_
      refine gf_X2_tokenNumber hR fl_X2_21 dX2_readFact_24 ?_
      refine g_top (show _ = nI (nmV (σ 9) t (nx (σ 9) t s)) by rw [rdT_20]; exact tkR_3 hd) ?_
      refine g_cnI hR ciX4_isFactValue dX2_readFact_27 nw_X2_89 (Nat.le_of_ble_eq_true rfl) (ev_isFV k _ hk _) rfl (Nat.le_of_ble_eq_true rfl) rfl ?_
      refine g_if_ne (tgt := 35) hR dX2_readFact_30 (by decide) (fun h2 => ?_) (fun h2 => ?_)
      · have h2 := bI_no h2
        rw [hlo, hhi] at h2
        have hn : ncB lo hi' (σ 9) t (nx (σ 9) t s) = true := decide_eq_true ⟨hd, h2⟩
        rw [if_pos hn] at hE
        refine g_al_0 hR dX2_readFact_35 ?_
        refine gf_X2_world hR fl_X2_28 dX2_readFact_36 ?_
        refine g_il_2 hR dX2_readFact_39 ?_
        refine g_il_3 hR dX2_readFact_40 ?_
        refine g_al_0 hR dX2_readFact_41 ?_
        refine gf_X2_tokenNumber hR fl_X2_21 dX2_readFact_42 ?_
        refine g_top (show _ = nI (nmV (σ 9) t (nx (σ 9) t s)) by rw [rdT_20]; exact tkR_3 hd) ?_
        refine g_cvV hR ciX3_setFact dX2_readFact_45 ml_X2_92 (Nat.le_of_ble_eq_true rfl) (by omega) (lay_w z1) rfl rfl (ev_setFact (k := 1) (p := p) (w := k) z1 hp hk _ _) rfl (Nat.le_of_ble_eq_true rfl) rfl ?_
        refine g_al_0 hR dX2_readFact_48 ?_
        refine g_cvV hR ciX2_takeToken dX2_readFact_49 ml_X2_32 (Nat.le_of_ble_eq_true rfl) (by decide) rfl rfl rfl (ev_takeToken (p := tE (σ 9) t (nx (σ 9) t s)) (t := t) (tE_le (nx_le hs)) ht _ (by rw [rdT_S]; exact e3 _ _) (by rw [rdT_S]; exact eB _ _) (by rw [rdT_S, rdT_20]; rfl)) rfl (Nat.le_of_ble_eq_true rfl) rfl ?_
        refine g_iconst_1 hR dX2_readFact_52 ?_
        exact hE dX2_readFact_53 (bI_t rfl) (⟨_, by rw [rdT_S, rdT_R, rdT_20, rdT_1, e9]; rfl⟩)
      · have h2 := bI_0.mp h2
        rw [hlo, hhi] at h2
        exact bad (fun w => h2 (of_decide_eq_true w).2)
  · unfold facR at hE
    rw [if_neg hw] at hE
    refine g_al_0 hR dX2_readFact_0 ?_
    refine g_al_1 hR dX2_readFact_1 ?_
    refine g_cvI hR ciX2_isWord dX2_readFact_2 ml_X2_43 (Nat.le_of_ble_eq_true rfl) (by decide) rfl rfl rfl (ev_isWord (q := q) (s := s) (t := t) hi hs ht _ R (e20 _ _ _) (e3 _ _)) rfl (Nat.le_of_ble_eq_true rfl) rfl ?_
    refine g_if_ne (tgt := 10) hR dX2_readFact_5 (by decide) (fun hc => absurd (bI_0.mpr (by rw [e9]; exact hw)) hc) (fun _ => ?_)
    refine g_iconst_1 hR dX2_readFact_8 ?_
    exact hE dX2_readFact_9 (bI_t rfl) (⟨R, rfl⟩)
