set_option maxRecDepth 100000 in
set_option maxHeartbeats 4000000 in
theorem em_kindHere {s t : Nat} (hs : s ≤ t) (ht : t ≤ 120) (σ : Hp) (S R : Nat → Int32) (hT : σ 8 1 = nI t) : CtI yX5_kindHere wX5_kindHere 3 [.ref 18] (mdT σ S (mkR true R (σ 10) t s)) (oI (kdN (σ 10) t s)) (mdT σ S (mkR true R (σ 10) t s)) := by
  refine CtI.of (by decide) (Nat.le_of_ble_eq_true rfl) rfl rfl (fun G hR hE => ?_)
  refine g_al_0 hR dX5_kindHere_0 ?_
  refine g_cvL hR ciX5_word dX5_kindHere_1 ml_X5_241 (Nat.le_of_ble_eq_true rfl) (by decide) rfl rfl rfl (em_word (s := s) (t := t) hs ht σ S R hT) rfl (Nat.le_of_ble_eq_true rfl) rfl ?_
  refine g_lstore_n hR dX5_kindHere_4 trivial (Nat.le_of_ble_eq_true rfl) rfl ?_
  refine g_ll_1 hR dX5_kindHere_5 ?_
  refine g_ldc2 hR dX5_kindHere_6 kl_X5_245 ?_
  refine g_lcmp hR dX5_kindHere_9 ?_
  have f0 : fstN (fun k => wdB (sBy.getD k []) (σ 10) t s) 0 = none := rfl
  by_cases w0 : wdB (sBy.getD 0 []) (σ 10) t s = true
  · refine g_if_ne (tgt := 17) hR dX5_kindHere_10 (by decide) (fun h_c => absurd ((wl_c (q := 0) (by decide) (by decide) wl_0).mpr w0) h_c) (fun _ => ?_)
    refine g_iconst_0 hR dX5_kindHere_13 ?_
    refine g_goto (tgt := 91) hR dX5_kindHere_14 (by decide) ?_
    exact hE dX5_kindHere_91 (by rw [kd_some (by decide) f0 w0]; rfl) (rfl)
  · have f1 := kd_next f0 w0
    refine g_if_ne (tgt := 17) hR dX5_kindHere_10 (by decide) (fun _ => ?_) (fun h_c => absurd h_c ((fun q => w0 ((wl_c (q := 0) (by decide) (by decide) wl_0).mp q))))
    refine g_ll_1 hR dX5_kindHere_17 ?_
    refine g_ldc2 hR dX5_kindHere_18 kl_X5_247 ?_
    refine g_lcmp hR dX5_kindHere_21 ?_
    by_cases w1 : wdB (sBy.getD 1 []) (σ 10) t s = true
    · refine g_if_ne (tgt := 29) hR dX5_kindHere_22 (by decide) (fun h_c => absurd ((wl_c (q := 1) (by decide) (by decide) wl_1).mpr w1) h_c) (fun _ => ?_)
      refine g_iconst_1 hR dX5_kindHere_25 ?_
      refine g_goto (tgt := 91) hR dX5_kindHere_26 (by decide) ?_
      exact hE dX5_kindHere_91 (by rw [kd_some (by decide) f1 w1]; rfl) (rfl)
    · have f2 := kd_next f1 w1
      refine g_if_ne (tgt := 29) hR dX5_kindHere_22 (by decide) (fun _ => ?_) (fun h_c => absurd h_c ((fun q => w1 ((wl_c (q := 1) (by decide) (by decide) wl_1).mp q))))
      refine g_ll_1 hR dX5_kindHere_29 ?_
      refine g_ldc2 hR dX5_kindHere_30 kl_X5_249 ?_
      refine g_lcmp hR dX5_kindHere_33 ?_
      by_cases w2 : wdB (sBy.getD 2 []) (σ 10) t s = true
      · refine g_if_ne (tgt := 41) hR dX5_kindHere_34 (by decide) (fun h_c => absurd ((wl_c (q := 2) (by decide) (by decide) wl_2).mpr w2) h_c) (fun _ => ?_)
        refine g_iconst_2 hR dX5_kindHere_37 ?_
        refine g_goto (tgt := 91) hR dX5_kindHere_38 (by decide) ?_
        exact hE dX5_kindHere_91 (by rw [kd_some (by decide) f2 w2]; rfl) (rfl)
      · have f3 := kd_next f2 w2
        refine g_if_ne (tgt := 41) hR dX5_kindHere_34 (by decide) (fun _ => ?_) (fun h_c => absurd h_c ((fun q => w2 ((wl_c (q := 2) (by decide) (by decide) wl_2).mp q))))
        refine g_ll_1 hR dX5_kindHere_41 ?_
        refine g_ldc2 hR dX5_kindHere_42 kl_X5_251 ?_
        refine g_lcmp hR dX5_kindHere_45 ?_
        by_cases w3 : wdB (sBy.getD 3 []) (σ 10) t s = true
        · refine g_if_ne (tgt := 53) hR dX5_kindHere_46 (by decide) (fun h_c => absurd ((wl_c (q := 3) (by decide) (by decide) wl_3).mpr w3) h_c) (fun _ => ?_)
          refine g_iconst_3 hR dX5_kindHere_49 ?_
          refine g_goto (tgt := 91) hR dX5_kindHere_50 (by decide) ?_
          exact hE dX5_kindHere_91 (by rw [kd_some (by decide) f3 w3]; rfl) (rfl)
        · have f4 := kd_next f3 w3
          refine g_if_ne (tgt := 53) hR dX5_kindHere_46 (by decide) (fun _ => ?_) (fun h_c => absurd h_c ((fun q => w3 ((wl_c (q := 3) (by decide) (by decide) wl_3).mp q))))
          refine g_ll_1 hR dX5_kindHere_53 ?_
          refine g_ldc2 hR dX5_kindHere_54 kl_X5_253 ?_
          refine g_lcmp hR dX5_kindHere_57 ?_
          by_cases w4 : wdB (sBy.getD 4 []) (σ 10) t s = true
          · refine g_if_ne (tgt := 65) hR dX5_kindHere_58 (by decide) (fun h_c => absurd ((wl_c (q := 4) (by decide) (by decide) wl_4).mpr w4) h_c) (fun _ => ?_)
            refine g_iconst_4 hR dX5_kindHere_61 ?_
            refine g_goto (tgt := 91) hR dX5_kindHere_62 (by decide) ?_
            exact hE dX5_kindHere_91 (by rw [kd_some (by decide) f4 w4]; rfl) (rfl)
          · have f5 := kd_next f4 w4
            refine g_if_ne (tgt := 65) hR dX5_kindHere_58 (by decide) (fun _ => ?_) (fun h_c => absurd h_c ((fun q => w4 ((wl_c (q := 4) (by decide) (by decide) wl_4).mp q))))
            refine g_ll_1 hR dX5_kindHere_65 ?_
            refine g_ldc2 hR dX5_kindHere_66 kl_X5_255 ?_
            refine g_lcmp hR dX5_kindHere_69 ?_
            by_cases w5 : wdB (sBy.getD 5 []) (σ 10) t s = true
            · refine g_if_ne (tgt := 77) hR dX5_kindHere_70 (by decide) (fun h_c => absurd ((wl_c (q := 5) (by decide) (by decide) wl_5).mpr w5) h_c) (fun _ => ?_)
              refine g_iconst_5 hR dX5_kindHere_73 ?_
              refine g_goto (tgt := 91) hR dX5_kindHere_74 (by decide) ?_
              exact hE dX5_kindHere_91 (by rw [kd_some (by decide) f5 w5]; rfl) (rfl)
            · have f6 := kd_next f5 w5
              refine g_if_ne (tgt := 77) hR dX5_kindHere_70 (by decide) (fun _ => ?_) (fun h_c => absurd h_c ((fun q => w5 ((wl_c (q := 5) (by decide) (by decide) wl_5).mp q))))
              refine g_ll_1 hR dX5_kindHere_77 ?_
              refine g_ldc2 hR dX5_kindHere_78 kl_X5_257 ?_
              refine g_lcmp hR dX5_kindHere_81 ?_
              by_cases w6 : wdB (sBy.getD 6 []) (σ 10) t s = true
              · refine g_if_ne (tgt := 90) hR dX5_kindHere_82 (by decide) (fun h_c => absurd ((wl_c (q := 6) (by decide) (by decide) wl_6).mpr w6) h_c) (fun _ => ?_)
                refine g_bipush_6 hR dX5_kindHere_85 ?_
                refine g_goto (tgt := 91) hR dX5_kindHere_87 (by decide) ?_
                exact hE dX5_kindHere_91 (by rw [kd_some (by decide) f6 w6]; rfl) (rfl)
              · have f7 := kd_next f6 w6
                refine g_if_ne (tgt := 90) hR dX5_kindHere_82 (by decide) (fun _ => ?_) (fun h_c => absurd h_c ((fun q => w6 ((wl_c (q := 6) (by decide) (by decide) wl_6).mp q))))
                refine g_iconst_m1 hR dX5_kindHere_90 ?_
                exact hE dX5_kindHere_91 (by rw [show kdN (σ 10) t s = none from f7]; rfl) (rfl)
set_option maxRecDepth 100000 in
set_option maxHeartbeats 4000000 in
theorem em_partItem0 {s t : Nat} (c : Int64) (i lo hi : Int32) (σ : Hp) (S R : Nat → Int32) : CtV yX5_partItem wX5_partItem 5 [.ref 18, .long c, .int i, .int lo, .int hi] (mdT σ S (mkR false R (σ 10) t s)) (mdT σ S (mkR false R (σ 10) t s)) := by
  refine CtV.of (by decide) (Nat.le_of_ble_eq_true rfl) rfl (fun G hR hE => ?_)
  refine g_al_0 hR dX5_partItem_0 ?_
  refine gf_X5_isWrong hR fl_X5_223 dX5_partItem_1 ?_
  refine g_top (show _ = 1 by rw [mdT_19]; rfl) ?_
  refine g_if_ne (tgt := 55) hR dX5_partItem_4 (by decide) (fun _ => ?_) (fun h_c => absurd h_c ((by decide)))
  exact hE dX5_partItem_55 (rfl)
set_option maxRecDepth 100000 in
set_option maxHeartbeats 4000000 in
theorem em_partItem {q p k s t hi : Nat} (hq : q < 13) (h7 : q ≠ 7) (hp : p < 8) (hk : k < 6) (hs : s ≤ t) (ht : t ≤ 120) (c : Int64) (hc : c = lN (cdL.getD q 0)) (lo hi' : Int32) (eh : hi' = nI hi) (hh : hi ≤ 999) (σ : Hp) (S R : Nat → Int32) (hT : σ 8 1 = nI t) : CtW yX5_partItem wX5_partItem 5 [.ref 18, .long c, .int (nI (6 + (6 * p + k))), .int lo, .int hi'] (mdT σ S (mkR true R (σ 10) t s)) (fun σ' => ∃ R', σ' = mdT σ (facR (sBy.getD q []) lo hi' (σ 10) t p k S s).2.1 (mkR (facR (sBy.getD q []) lo hi' (σ 10) t p k S s).1 R' (σ 10) t (facR (sBy.getD q []) lo hi' (σ 10) t p k S s).2.2)) := by
  refine CtW.of (by decide) (Nat.le_of_ble_eq_true rfl) rfl (fun G hR hE => ?_)
  subst eh
  unfold facR at hE
  refine g_al_0 hR dX5_partItem_0 ?_
  refine gf_X5_isWrong hR fl_X5_223 dX5_partItem_1 ?_
  refine g_top (show _ = 0 by rw [mdT_19]; rfl) ?_
  refine g_if_ne (tgt := 55) hR dX5_partItem_4 (by decide) (fun h_c => absurd (rfl) h_c) (fun _ => ?_)
  refine g_al_0 hR dX5_partItem_7 ?_
  refine g_cvL hR ciX5_word dX5_partItem_8 ml_X5_241 (Nat.le_of_ble_eq_true rfl) (by decide) rfl rfl rfl (em_word (s := s) (t := t) hs ht σ S R hT) rfl (Nat.le_of_ble_eq_true rfl) rfl ?_
  refine g_ll_1 hR dX5_partItem_11 ?_
  refine g_lcmp hR dX5_partItem_12 ?_
  by_cases hw : wdB (sBy.getD q []) (σ 10) t s = true
  · rw [if_pos hw] at hE
    have hs1 : nx (σ 10) t s ≤ t := nx_le hs
    refine g_if_ne (tgt := 55) hR dX5_partItem_13 (by decide) (fun h_c => absurd ((wl_c hq h7 hc).mpr hw) h_c) (fun _ => ?_)
    refine g_al_0 hR dX5_partItem_16 ?_
    refine g_iconst_1 hR dX5_partItem_17 ?_
    refine g_cvV hR ciX5_must dX5_partItem_18 ml_X5_237 (Nat.le_of_ble_eq_true rfl) (by decide) rfl rfl rfl (em_must1 (s := s) (t := t) hs ht σ S R hT) rfl (Nat.le_of_ble_eq_true rfl) rfl ?_
    refine g_al_0 hR dX5_partItem_21 ?_
    refine g_il_4 hR dX5_partItem_22 ?_
    refine g_il_5 hR dX5_partItem_24 ?_
    refine g_cvW hR ciX5_number dX5_partItem_26 ml_X5_259 (Nat.le_of_ble_eq_true rfl) (by decide) rfl rfl rfl (em_number (s := nx (σ 10) t s) (t := t) (hi := hi) hs1 ht hh lo σ S R hT) rfl (Nat.le_of_ble_eq_true rfl) rfl (fun σ2 h2 => ?_)
    refine g_al_0 hR dX5_partItem_29 ?_
    refine gf_X5_s hR fl_X5_7 dX5_partItem_30 ?_
    refine g_il_3 hR dX5_partItem_33 ?_
    refine g_al_0 hR dX5_partItem_34 ?_
    obtain ⟨R', rfl, hv⟩ := h2
    by_cases hn : ncB lo (nI hi) (σ 10) t (nx (σ 10) t s) = true
    · rw [if_pos hn] at hE
      rw [if_pos hn, hn]
      refine gf_X5_isWrong hR fl_X5_223 dX5_partItem_35 ?_
      refine g_top (show _ = 0 by rw [mdT_19]; rfl) ?_
      refine g_if_eq (tgt := 50) hR dX5_partItem_38 (by decide) (fun _ => ?_) (fun h_c => absurd (rfl) h_c)
      refine g_al_0 hR dX5_partItem_50 ?_
      refine gf_X5_value hR fl_X5_234 dX5_partItem_51 ?_
      refine g_top (show _ = nI (nmV (σ 10) t (nx (σ 10) t s)) by rw [mdT_19, mkR_2]; exact hv hn) ?_
      refine gs_19 hR (6 + (6 * p + k)) (by omega) rfl dX5_partItem_54 ?_
      exact hE dX5_partItem_55 (⟨R', by rw [mdT_h]; rfl⟩)
    · rw [if_neg hn] at hE
      have hn2 : ncB lo (nI hi) (σ 10) t (nx (σ 10) t s) = false := by simpa using hn
      rw [if_neg hn, hn2]
      refine gf_X5_isWrong hR fl_X5_223 dX5_partItem_35 ?_
      refine g_top (show _ = 1 by rw [mdT_19]; rfl) ?_
      refine g_if_eq (tgt := 50) hR dX5_partItem_38 (by decide) (fun h_c => absurd h_c ((by decide))) (fun _ => ?_)
      refine g_al_0 hR dX5_partItem_41 ?_
      refine gf_X5_s hR fl_X5_7 dX5_partItem_42 ?_
      refine g_il_3 hR dX5_partItem_45 ?_
      refine ga_19 hR (6 + (6 * p + k)) (by omega) rfl dX5_partItem_46 ?_
      refine g_goto (tgt := 54) hR dX5_partItem_47 (by decide) ?_
      refine gs_19 hR (6 + (6 * p + k)) (by omega) rfl dX5_partItem_54 ?_
      exact hE dX5_partItem_55 (⟨R', by rw [mdT_h, mdT_4, upd_id]⟩)
  · rw [if_neg hw] at hE
    refine g_if_ne (tgt := 55) hR dX5_partItem_13 (by decide) (fun _ => ?_) (fun h_c => absurd h_c ((fun z => hw ((wl_c hq h7 hc).mp z))))
    exact hE dX5_partItem_55 (⟨R, rfl⟩)
set_option maxRecDepth 100000 in
set_option maxHeartbeats 4000000 in
theorem em_pieceItem {n s t : Nat} (hn8 : n ≤ 8) (hs : s ≤ t) (ht : t ≤ 120) (kind : Int32) (σ : Hp) (S R : Nat → Int32) (hn : S 1 = nI n) (hT : σ 8 1 = nI t) : CtW yX5_pieceItem wX5_pieceItem 6 [.ref 18, .int kind] (mdT σ S (mkR true R (σ 10) t s)) (fun σ' => ∃ R', σ' = mdT σ (pieR kind (σ 10) t S n s).2.1 (mkR (pieR kind (σ 10) t S n s).1 R' (σ 10) t (pieR kind (σ 10) t S n s).2.2)) := by
  refine CtW.of (by decide) (Nat.le_of_ble_eq_true rfl) rfl (fun G hR hE => ?_)
  have e1 : ∀ R, mdT σ S R 4 1 = nI n := fun R => by rw [mdT_4]; exact hn
  unfold pieR at hE
  by_cases h8 : n = 8
  · rw [if_pos h8] at hE
    refine g_al_0 hR dX5_pieceItem_0 ?_
    refine g_al_0 hR dX5_pieceItem_1 ?_
    refine gf_X5_s hR fl_X5_7 dX5_pieceItem_2 ?_
    refine g_iconst_1 hR dX5_pieceItem_5 ?_
    refine ga_19 hR 1 (by decide) rfl dX5_pieceItem_6 ?_
    refine g_top (e1 _) ?_
    refine g_bipush_8 hR dX5_pieceItem_7 ?_
    refine g_icmp_ge (tgt := 16) hR dX5_pieceItem_9 (by decide) (fun _ => ?_) (fun h_c => absurd (nI_le (a := 8) (by omega) (by omega)) h_c)
    refine g_iconst_0 hR dX5_pieceItem_16 ?_
    refine g_cvV hR ciX5_must dX5_pieceItem_17 ml_X5_237 (Nat.le_of_ble_eq_true rfl) (by decide) rfl rfl rfl (em_must0 (s := s) (t := t) σ S R) rfl (Nat.le_of_ble_eq_true rfl) rfl ?_
    refine g_al_0 hR dX5_pieceItem_20 ?_
    refine gf_X5_isWrong hR fl_X5_223 dX5_pieceItem_21 ?_
    refine g_top (show _ = 1 by rw [mdT_19]; rfl) ?_
    refine g_if_eq (tgt := 28) hR dX5_pieceItem_24 (by decide) (fun h_c => absurd h_c ((by decide))) (fun _ => ?_)
    exact hE dX5_pieceItem_27 (⟨R, rfl⟩)
  · rw [if_neg h8] at hE
    have hs1 : nx (σ 10) t s ≤ t := nx_le hs
    refine g_al_0 hR dX5_pieceItem_0 ?_
    refine g_al_0 hR dX5_pieceItem_1 ?_
    refine gf_X5_s hR fl_X5_7 dX5_pieceItem_2 ?_
    refine g_iconst_1 hR dX5_pieceItem_5 ?_
    refine ga_19 hR 1 (by decide) rfl dX5_pieceItem_6 ?_
    refine g_top (e1 _) ?_
    refine g_bipush_8 hR dX5_pieceItem_7 ?_
    refine g_icmp_ge (tgt := 16) hR dX5_pieceItem_9 (by decide) (fun h_c => absurd h_c (nI_ge (b := 8) (by omega) (by decide))) (fun _ => ?_)
    refine g_iconst_1 hR dX5_pieceItem_12 ?_
    refine g_goto (tgt := 17) hR dX5_pieceItem_13 (by decide) ?_
    refine g_cvV hR ciX5_must dX5_pieceItem_17 ml_X5_237 (Nat.le_of_ble_eq_true rfl) (by decide) rfl rfl rfl (em_must1 (s := s) (t := t) hs ht σ S R hT) rfl (Nat.le_of_ble_eq_true rfl) rfl ?_
    refine g_al_0 hR dX5_pieceItem_20 ?_
    refine gf_X5_isWrong hR fl_X5_223 dX5_pieceItem_21 ?_
    refine g_top (show _ = 0 by rw [mdT_19]; rfl) ?_
    refine g_if_eq (tgt := 28) hR dX5_pieceItem_24 (by decide) (fun _ => ?_) (fun h_c => absurd (rfl) h_c)
    refine g_al_0 hR dX5_pieceItem_28 ?_
    refine g_il_1 hR dX5_pieceItem_29 ?_
    refine g_iconst_0 hR dX5_pieceItem_30 ?_
    refine g_cvI hR ciX5_adds dX5_pieceItem_31 ml_X5_70 (Nat.le_of_ble_eq_true rfl) (by decide) rfl rfl rfl (em_adds (n := n) (by omega) kind 0 _ (e1 _)) rfl (Nat.le_of_ble_eq_true rfl) rfl ?_
    refine g_is_2 hR dX5_pieceItem_34 trivial ?_
    rw [mdT_S, mdT_4]
    unfold prtR at hE
    have hl1 := fac_le (w := sBy.getD 10 []) (lo := 0) (hi := 11) (B := σ 10) (p := n) (k := 1) (S := addS S n kind 0) hs1
    have c1 := fun R0 => em_partItem (q := 10) (p := n) (k := 1) (s := nx (σ 10) t s) (t := t) (hi := 11) (by decide) (by decide) (by omega) (by decide) hs1 ht 655 wl_10 0 11 rfl (by decide) σ (addS S n kind 0) R0 hT
    generalize facR (sBy.getD 10 []) 0 11 (σ 10) t n 1 (addS S n kind 0) (nx (σ 10) t s) = r1 at hE hl1 c1
    refine g_al_0 hR dX5_pieceItem_35 ?_
    refine g_ldc2 hR dX5_pieceItem_36 kl_X5_263 ?_
    refine g_il_2 hR dX5_pieceItem_39 ?_
    refine g_iconst_1 hR dX5_pieceItem_40 ?_
    refine g_csI hR ciX5_place dX5_pieceItem_41 ml_X5_49 (Nat.le_of_ble_eq_true rfl) (em_place n 1 _) rfl (Nat.le_of_ble_eq_true rfl) rfl ?_
    refine g_iconst_0 hR dX5_pieceItem_44 ?_
    refine g_bipush_11 hR dX5_pieceItem_45 ?_
    refine g_cvW hR ciX5_partItem dX5_pieceItem_47 ml_X5_265 (Nat.le_of_ble_eq_true rfl) (by decide) rfl rfl rfl (c1 _) rfl (Nat.le_of_ble_eq_true rfl) rfl (fun σ2 h2 => ?_)
    obtain ⟨R1, rfl⟩ := h2
    by_cases g1 : r1.1 = true
    · rw [thn_t g1] at hE
      have hl2 := fac_le (w := sBy.getD 11 []) (lo := 1) (hi := 99) (B := σ 10) (p := n) (k := 2) (S := r1.2.1) hl1
      have c2 := fun R0 => em_partItem (q := 11) (p := n) (k := 2) (s := r1.2.2) (t := t) (hi := 99) (by decide) (by decide) (by omega) (by decide) hl1 ht 409031 wl_11 1 99 rfl (by decide) σ r1.2.1 R0 hT
      generalize facR (sBy.getD 11 []) 1 99 (σ 10) t n 2 r1.2.1 r1.2.2 = r2 at hE hl2 c2
      rw [g1]
      refine g_al_0 hR dX5_pieceItem_50 ?_
      refine g_ldc2 hR dX5_pieceItem_51 kl_X5_269 ?_
      refine g_il_2 hR dX5_pieceItem_54 ?_
      refine g_iconst_2 hR dX5_pieceItem_55 ?_
      refine g_csI hR ciX5_place dX5_pieceItem_56 ml_X5_49 (Nat.le_of_ble_eq_true rfl) (em_place n 2 _) rfl (Nat.le_of_ble_eq_true rfl) rfl ?_
      refine g_iconst_1 hR dX5_pieceItem_59 ?_
      refine g_bipush_99 hR dX5_pieceItem_60 ?_
      refine g_cvW hR ciX5_partItem dX5_pieceItem_62 ml_X5_265 (Nat.le_of_ble_eq_true rfl) (by decide) rfl rfl rfl (c2 _) rfl (Nat.le_of_ble_eq_true rfl) rfl (fun σ3 h3 => ?_)
      obtain ⟨R2, rfl⟩ := h3
      by_cases g2 : r2.1 = true
      · rw [thn_t g2] at hE
        have c3 := fun R0 => em_partItem (q := 12) (p := n) (k := 3) (s := r2.2.2) (t := t) (hi := 9) (by decide) (by decide) (by omega) (by decide) hl2 ht 12009107 wl_12 0 9 rfl (by decide) σ r2.2.1 R0 hT
        generalize facR (sBy.getD 12 []) 0 9 (σ 10) t n 3 r2.2.1 r2.2.2 = r3 at hE c3
        rw [g2]
        refine g_al_0 hR dX5_pieceItem_65 ?_
        refine g_ldc2 hR dX5_pieceItem_66 kl_X5_271 ?_
        refine g_il_2 hR dX5_pieceItem_69 ?_
        refine g_iconst_3 hR dX5_pieceItem_70 ?_
        refine g_csI hR ciX5_place dX5_pieceItem_71 ml_X5_49 (Nat.le_of_ble_eq_true rfl) (em_place n 3 _) rfl (Nat.le_of_ble_eq_true rfl) rfl ?_
        refine g_iconst_0 hR dX5_pieceItem_74 ?_
        refine g_bipush_9 hR dX5_pieceItem_75 ?_
        refine g_cvW hR ciX5_partItem dX5_pieceItem_77 ml_X5_265 (Nat.le_of_ble_eq_true rfl) (by decide) rfl rfl rfl (c3 _) rfl (Nat.le_of_ble_eq_true rfl) rfl (fun σ4 h4 => ?_)
        exact hE dX5_pieceItem_80 (h4)
      · rw [thn_f g2] at hE
        have g2' : r2.1 = false := by simpa using g2
        rw [g2'] at hE ⊢
        refine g_al_0 hR dX5_pieceItem_65 ?_
        refine g_ldc2 hR dX5_pieceItem_66 kl_X5_271 ?_
        refine g_il_2 hR dX5_pieceItem_69 ?_
        refine g_iconst_3 hR dX5_pieceItem_70 ?_
        refine g_csI hR ciX5_place dX5_pieceItem_71 ml_X5_49 (Nat.le_of_ble_eq_true rfl) (em_place n 3 _) rfl (Nat.le_of_ble_eq_true rfl) rfl ?_
        refine g_iconst_0 hR dX5_pieceItem_74 ?_
        refine g_bipush_9 hR dX5_pieceItem_75 ?_
        refine g_cvV hR ciX5_partItem dX5_pieceItem_77 ml_X5_265 (Nat.le_of_ble_eq_true rfl) (by decide) rfl rfl rfl (em_partItem0 _ _ _ _ σ r2.2.1 R2) rfl (Nat.le_of_ble_eq_true rfl) rfl ?_
        exact hE dX5_pieceItem_80 (⟨R2, rfl⟩)
    · rw [thn_f g1, thn_f g1] at hE
      have g1' : r1.1 = false := by simpa using g1
      rw [g1'] at hE ⊢
      refine g_al_0 hR dX5_pieceItem_50 ?_
      refine g_ldc2 hR dX5_pieceItem_51 kl_X5_269 ?_
      refine g_il_2 hR dX5_pieceItem_54 ?_
      refine g_iconst_2 hR dX5_pieceItem_55 ?_
      refine g_csI hR ciX5_place dX5_pieceItem_56 ml_X5_49 (Nat.le_of_ble_eq_true rfl) (em_place n 2 _) rfl (Nat.le_of_ble_eq_true rfl) rfl ?_
      refine g_iconst_1 hR dX5_pieceItem_59 ?_
      refine g_bipush_99 hR dX5_pieceItem_60 ?_
      refine g_cvV hR ciX5_partItem dX5_pieceItem_62 ml_X5_265 (Nat.le_of_ble_eq_true rfl) (by decide) rfl rfl rfl (em_partItem0 _ _ _ _ σ r1.2.1 R1) rfl (Nat.le_of_ble_eq_true rfl) rfl ?_
      refine g_al_0 hR dX5_pieceItem_65 ?_
      refine g_ldc2 hR dX5_pieceItem_66 kl_X5_271 ?_
      refine g_il_2 hR dX5_pieceItem_69 ?_
      refine g_iconst_3 hR dX5_pieceItem_70 ?_
      refine g_csI hR ciX5_place dX5_pieceItem_71 ml_X5_49 (Nat.le_of_ble_eq_true rfl) (em_place n 3 _) rfl (Nat.le_of_ble_eq_true rfl) rfl ?_
      refine g_iconst_0 hR dX5_pieceItem_74 ?_
      refine g_bipush_9 hR dX5_pieceItem_75 ?_
      refine g_cvV hR ciX5_partItem dX5_pieceItem_77 ml_X5_265 (Nat.le_of_ble_eq_true rfl) (by decide) rfl rfl rfl (em_partItem0 _ _ _ _ σ r1.2.1 R1) rfl (Nat.le_of_ble_eq_true rfl) rfl ?_
      exact hE dX5_pieceItem_80 (⟨R1, rfl⟩)
set_option maxRecDepth 100000 in
set_option maxHeartbeats 4000000 in
theorem em_item {n s t : Nat} (hn8 : n ≤ 8) (hs : s ≤ t) (ht : t ≤ 120) (σ : Hp) (S R : Nat → Int32) (hn : S 1 = nI n) (hT : σ 8 1 = nI t) : CtW yX5_item wX5_item 7 [.ref 18] (mdT σ S (mkR true R (σ 10) t s)) (fun σ' => ∃ R', σ' = mdT σ (itmR (σ 10) t S n s).2.1 (mkR (itmR (σ 10) t S n s).1 R' (σ 10) t (itmR (σ 10) t S n s).2.2)) := by
  refine CtW.of (by decide) (Nat.le_of_ble_eq_true rfl) rfl (fun G hR hE => ?_)
  have hs1 : nx (σ 10) t s ≤ t := nx_le hs
  have tail : ∀ b : Int32, (b = 1 ∧ wdB (sBy.getD 8 []) (σ 10) t s = true) ∨ (b = 0 ∧ ¬ wdB (sBy.getD 8 []) (σ 10) t s = true) → G 22 [some (.ref 18), some (.int (oI (kdN (σ 10) t s))), some (.int b), none] [] (mdT σ S (mkR true R (σ 10) t s)) := by
    intro b hb
    cases hk : kdN (σ 10) t s with
    | some k =>
      have hk7 := kd_lt hk
      rw [itm_some hk] at hE
      refine g_il_1 hR dX5_item_22 ?_
      refine g_if_lt (tgt := 34) hR dX5_item_23 (by decide) (fun h_c => absurd h_c (oI_pos (p := k) rfl (by omega))) (fun _ => ?_)
      refine g_al_0 hR dX5_item_26 ?_
      refine g_il_1 hR dX5_item_27 ?_
      refine g_cvW hR ciX5_pieceItem dX5_item_28 ml_X5_278 (Nat.le_of_ble_eq_true rfl) (by decide) rfl rfl rfl (em_pieceItem (n := n) (s := s) (t := t) hn8 hs ht (nI k) σ S R hn hT) rfl (Nat.le_of_ble_eq_true rfl) rfl (fun σ2 h2 => ?_)
      refine g_goto (tgt := 110) hR dX5_item_31 (by decide) ?_
      exact hE dX5_item_110 (h2)
    | none =>
      rw [itm_none hk] at hE
      rcases hb with ⟨rfl, h8⟩ | ⟨rfl, h8⟩
      · rw [if_pos h8] at hE
        unfold numR at hE
        refine g_il_1 hR dX5_item_22 ?_
        refine g_if_lt (tgt := 34) hR dX5_item_23 (by decide) (fun _ => ?_) (fun h_c => absurd (oI_neg rfl) h_c)
        refine g_al_0 hR dX5_item_34 ?_
        refine g_il_2 hR dX5_item_35 ?_
        refine g_if_ne (tgt := 50) hR dX5_item_36 (by decide) (fun _ => ?_) (fun h_c => absurd h_c ((by decide)))
        refine g_iconst_1 hR dX5_item_50 ?_
        refine g_goto (tgt := 55) hR dX5_item_51 (by decide) ?_
        refine g_cvV hR ciX5_must dX5_item_55 ml_X5_237 (Nat.le_of_ble_eq_true rfl) (by decide) rfl rfl rfl (em_must1 (s := s) (t := t) hs ht σ S R hT) rfl (Nat.le_of_ble_eq_true rfl) rfl ?_
        refine g_al_0 hR dX5_item_58 ?_
        refine g_iconst_0 hR dX5_item_59 ?_
        refine g_il_2 hR dX5_item_60 ?_
        refine g_if_eq (tgt := 69) hR dX5_item_61 (by decide) (fun h_c => absurd h_c ((by decide))) (fun _ => ?_)
        refine g_bipush_11 hR dX5_item_64 ?_
        refine g_goto (tgt := 71) hR dX5_item_66 (by decide) ?_
        refine g_cvW hR ciX5_number dX5_item_71 ml_X5_259 (Nat.le_of_ble_eq_true rfl) (by decide) rfl rfl rfl (em_number (s := nx (σ 10) t s) (t := t) (hi := 11) hs1 ht (by decide) 0 σ S R hT) rfl (Nat.le_of_ble_eq_true rfl) rfl (fun σ2 h2 => ?_)
        refine g_il_2 hR dX5_item_74 ?_
        refine g_if_eq (tgt := 82) hR dX5_item_75 (by decide) (fun h_c => absurd h_c ((by decide))) (fun _ => ?_)
        refine g_iconst_2 hR dX5_item_78 ?_
        refine g_goto (tgt := 83) hR dX5_item_79 (by decide) ?_
        refine g_is_3 hR dX5_item_83 trivial ?_
        refine g_al_0 hR dX5_item_84 ?_
        refine gf_X5_s hR fl_X5_7 dX5_item_85 ?_
        refine g_il_3 hR dX5_item_88 ?_
        refine g_al_0 hR dX5_item_89 ?_
        obtain ⟨R', rfl, hv⟩ := h2
        rw [show nI 11 = (11 : Int32) from rfl] at hv ⊢
        by_cases hn' : ncB 0 11 (σ 10) t (nx (σ 10) t s) = true
        · rw [if_pos hn'] at hE
          rw [if_pos hn', hn']
          refine gf_X5_isWrong hR fl_X5_223 dX5_item_90 ?_
          refine g_top (show _ = 0 by rw [mdT_19]; rfl) ?_
          refine g_if_eq (tgt := 105) hR dX5_item_93 (by decide) (fun _ => ?_) (fun h_c => absurd (rfl) h_c)
          refine g_al_0 hR dX5_item_105 ?_
          refine gf_X5_value hR fl_X5_234 dX5_item_106 ?_
          refine g_top (show _ = nI (nmV (σ 10) t (nx (σ 10) t s)) by rw [mdT_19, mkR_2]; exact hv hn') ?_
          refine gs_19 hR 2 (by decide) rfl dX5_item_109 ?_
          exact hE dX5_item_110 (⟨R', by rw [mdT_h]⟩)
        · rw [if_neg hn'] at hE
          have hn2 : ncB 0 11 (σ 10) t (nx (σ 10) t s) = false := by simpa using hn'
          rw [if_neg hn', hn2]
          refine gf_X5_isWrong hR fl_X5_223 dX5_item_90 ?_
          refine g_top (show _ = 1 by rw [mdT_19]; rfl) ?_
          refine g_if_eq (tgt := 105) hR dX5_item_93 (by decide) (fun h_c => absurd h_c ((by decide))) (fun _ => ?_)
          refine g_al_0 hR dX5_item_96 ?_
          refine gf_X5_s hR fl_X5_7 dX5_item_97 ?_
          refine g_il_3 hR dX5_item_100 ?_
          refine ga_19 hR 2 (by decide) rfl dX5_item_101 ?_
          refine g_goto (tgt := 109) hR dX5_item_102 (by decide) ?_
          refine gs_19 hR 2 (by decide) rfl dX5_item_109 ?_
          exact hE dX5_item_110 (⟨R', by rw [mdT_h, mdT_4, upd_id]⟩)
      · rw [if_neg h8] at hE
        refine g_il_1 hR dX5_item_22 ?_
        refine g_if_lt (tgt := 34) hR dX5_item_23 (by decide) (fun _ => ?_) (fun h_c => absurd (oI_neg rfl) h_c)
        refine g_al_0 hR dX5_item_34 ?_
        refine g_il_2 hR dX5_item_35 ?_
        refine g_if_ne (tgt := 50) hR dX5_item_36 (by decide) (fun h_c => absurd (rfl) h_c) (fun _ => ?_)
        refine g_al_0 hR dX5_item_39 ?_
        refine g_cvL hR ciX5_word dX5_item_40 ml_X5_241 (Nat.le_of_ble_eq_true rfl) (by decide) rfl rfl rfl (em_word (s := s) (t := t) hs ht σ S R hT) rfl (Nat.le_of_ble_eq_true rfl) rfl ?_
        refine g_ldc2 hR dX5_item_43 kl_X5_281 ?_
        refine g_lcmp hR dX5_item_46 ?_
        by_cases h9 : wdB (sBy.getD 9 []) (σ 10) t s = true
        · rw [if_pos h9] at hE
          unfold numR at hE
          refine g_if_ne (tgt := 54) hR dX5_item_47 (by decide) (fun h_c => absurd ((wl_c (q := 9) (by decide) (by decide) wl_9).mpr h9) h_c) (fun _ => ?_)
          refine g_iconst_1 hR dX5_item_50 ?_
          refine g_goto (tgt := 55) hR dX5_item_51 (by decide) ?_
          refine g_cvV hR ciX5_must dX5_item_55 ml_X5_237 (Nat.le_of_ble_eq_true rfl) (by decide) rfl rfl rfl (em_must1 (s := s) (t := t) hs ht σ S R hT) rfl (Nat.le_of_ble_eq_true rfl) rfl ?_
          refine g_al_0 hR dX5_item_58 ?_
          refine g_iconst_0 hR dX5_item_59 ?_
          refine g_il_2 hR dX5_item_60 ?_
          refine g_if_eq (tgt := 69) hR dX5_item_61 (by decide) (fun _ => ?_) (fun h_c => absurd (rfl) h_c)
          refine g_bipush_99 hR dX5_item_69 ?_
          refine g_cvW hR ciX5_number dX5_item_71 ml_X5_259 (Nat.le_of_ble_eq_true rfl) (by decide) rfl rfl rfl (em_number (s := nx (σ 10) t s) (t := t) (hi := 99) hs1 ht (by decide) 0 σ S R hT) rfl (Nat.le_of_ble_eq_true rfl) rfl (fun σ2 h2 => ?_)
          refine g_il_2 hR dX5_item_74 ?_
          refine g_if_eq (tgt := 82) hR dX5_item_75 (by decide) (fun _ => ?_) (fun h_c => absurd (rfl) h_c)
          refine g_iconst_3 hR dX5_item_82 ?_
          refine g_is_3 hR dX5_item_83 trivial ?_
          refine g_al_0 hR dX5_item_84 ?_
          refine gf_X5_s hR fl_X5_7 dX5_item_85 ?_
          refine g_il_3 hR dX5_item_88 ?_
          refine g_al_0 hR dX5_item_89 ?_
          obtain ⟨R', rfl, hv⟩ := h2
          rw [show nI 99 = (99 : Int32) from rfl] at hv ⊢
          by_cases hn' : ncB 0 99 (σ 10) t (nx (σ 10) t s) = true
          · rw [if_pos hn'] at hE
            rw [if_pos hn', hn']
            refine gf_X5_isWrong hR fl_X5_223 dX5_item_90 ?_
            refine g_top (show _ = 0 by rw [mdT_19]; rfl) ?_
            refine g_if_eq (tgt := 105) hR dX5_item_93 (by decide) (fun _ => ?_) (fun h_c => absurd (rfl) h_c)
            refine g_al_0 hR dX5_item_105 ?_
            refine gf_X5_value hR fl_X5_234 dX5_item_106 ?_
            refine g_top (show _ = nI (nmV (σ 10) t (nx (σ 10) t s)) by rw [mdT_19, mkR_2]; exact hv hn') ?_
            refine gs_19 hR 3 (by decide) rfl dX5_item_109 ?_
            exact hE dX5_item_110 (⟨R', by rw [mdT_h]⟩)
          · rw [if_neg hn'] at hE
            have hn2 : ncB 0 99 (σ 10) t (nx (σ 10) t s) = false := by simpa using hn'
            rw [if_neg hn', hn2]
            refine gf_X5_isWrong hR fl_X5_223 dX5_item_90 ?_
            refine g_top (show _ = 1 by rw [mdT_19]; rfl) ?_
            refine g_if_eq (tgt := 105) hR dX5_item_93 (by decide) (fun h_c => absurd h_c ((by decide))) (fun _ => ?_)
            refine g_al_0 hR dX5_item_96 ?_
            refine gf_X5_s hR fl_X5_7 dX5_item_97 ?_
            refine g_il_3 hR dX5_item_100 ?_
            refine ga_19 hR 3 (by decide) rfl dX5_item_101 ?_
            refine g_goto (tgt := 109) hR dX5_item_102 (by decide) ?_
            refine gs_19 hR 3 (by decide) rfl dX5_item_109 ?_
            exact hE dX5_item_110 (⟨R', by rw [mdT_h, mdT_4, upd_id]⟩)
        · rw [if_neg h9] at hE
          refine g_if_ne (tgt := 54) hR dX5_item_47 (by decide) (fun _ => ?_) (fun h_c => absurd h_c ((fun q => h9 ((wl_c (q := 9) (by decide) (by decide) wl_9).mp q))))
          refine g_iconst_0 hR dX5_item_54 ?_
          refine g_cvV hR ciX5_must dX5_item_55 ml_X5_237 (Nat.le_of_ble_eq_true rfl) (by decide) rfl rfl rfl (em_must0 (s := s) (t := t) σ S R) rfl (Nat.le_of_ble_eq_true rfl) rfl ?_
          refine g_al_0 hR dX5_item_58 ?_
          refine g_iconst_0 hR dX5_item_59 ?_
          refine g_il_2 hR dX5_item_60 ?_
          refine g_if_eq (tgt := 69) hR dX5_item_61 (by decide) (fun _ => ?_) (fun h_c => absurd (rfl) h_c)
          refine g_bipush_99 hR dX5_item_69 ?_
          refine g_cvV hR ciX5_number dX5_item_71 ml_X5_259 (Nat.le_of_ble_eq_true rfl) (by decide) rfl rfl rfl (em_number0 _ _ σ S R) rfl (Nat.le_of_ble_eq_true rfl) rfl ?_
          refine g_il_2 hR dX5_item_74 ?_
          refine g_if_eq (tgt := 82) hR dX5_item_75 (by decide) (fun _ => ?_) (fun h_c => absurd (rfl) h_c)
          refine g_iconst_3 hR dX5_item_82 ?_
          refine g_is_3 hR dX5_item_83 trivial ?_
          refine g_al_0 hR dX5_item_84 ?_
          refine gf_X5_s hR fl_X5_7 dX5_item_85 ?_
          refine g_il_3 hR dX5_item_88 ?_
          refine g_al_0 hR dX5_item_89 ?_
          refine gf_X5_isWrong hR fl_X5_223 dX5_item_90 ?_
          refine g_top (show _ = 1 by rw [mdT_19]; rfl) ?_
          refine g_if_eq (tgt := 105) hR dX5_item_93 (by decide) (fun h_c => absurd h_c ((by decide))) (fun _ => ?_)
          refine g_al_0 hR dX5_item_96 ?_
          refine gf_X5_s hR fl_X5_7 dX5_item_97 ?_
          refine g_il_3 hR dX5_item_100 ?_
          refine ga_19 hR 3 (by decide) rfl dX5_item_101 ?_
          refine g_goto (tgt := 109) hR dX5_item_102 (by decide) ?_
          refine gs_19 hR 3 (by decide) rfl dX5_item_109 ?_
          exact hE dX5_item_110 (⟨R, by rw [mdT_h, mdT_4, upd_id]⟩)
  refine g_al_0 hR dX5_item_0 ?_
  refine g_cvI hR ciX5_kindHere dX5_item_1 ml_X5_273 (Nat.le_of_ble_eq_true rfl) (by decide) rfl rfl rfl (em_kindHere (s := s) (t := t) hs ht σ S R hT) rfl (Nat.le_of_ble_eq_true rfl) rfl ?_
  refine g_is_1 hR dX5_item_4 trivial ?_
  refine g_al_0 hR dX5_item_5 ?_
  refine g_cvL hR ciX5_word dX5_item_6 ml_X5_241 (Nat.le_of_ble_eq_true rfl) (by decide) rfl rfl rfl (em_word (s := s) (t := t) hs ht σ S R hT) rfl (Nat.le_of_ble_eq_true rfl) rfl ?_
  refine g_ldc2 hR dX5_item_9 kl_X5_276 ?_
  refine g_lcmp hR dX5_item_12 ?_
  by_cases h8 : wdB (sBy.getD 8 []) (σ 10) t s = true
  · refine g_if_ne (tgt := 20) hR dX5_item_13 (by decide) (fun h_c => absurd ((wl_c (q := 8) (by decide) (by decide) wl_8).mpr h8) h_c) (fun _ => ?_)
    refine g_iconst_1 hR dX5_item_16 ?_
    refine g_goto (tgt := 21) hR dX5_item_17 (by decide) ?_
    refine g_is_2 hR dX5_item_21 trivial ?_
    exact tail 1 (Or.inl ⟨rfl, h8⟩)
  · refine g_if_ne (tgt := 20) hR dX5_item_13 (by decide) (fun _ => ?_) (fun h_c => absurd h_c ((fun q => h8 ((wl_c (q := 8) (by decide) (by decide) wl_8).mp q))))
    refine g_iconst_0 hR dX5_item_20 ?_
    refine g_is_2 hR dX5_item_21 trivial ?_
    exact tail 0 (Or.inr ⟨rfl, h8⟩)
set_option maxRecDepth 100000 in
set_option maxHeartbeats 4000000 in
theorem cm_text {n t : Nat} {d : Int} (ht : t ≤ 120) (σ : Hp) (hG : Gd (σ 4) n d) (hd : 0 ≤ d) (hT : σ 8 1 = nI t) : CtP yX5_text wX5_text 8 [.ref 18] (σ) (txV (σ 10) t (σ 4) n) (fun σ' => Eb σ' (bset (bset σ 8 (upd (σ 8) 1 0)) 4 (txS (σ 10) t (σ 4) n))) := by
  refine CtP.of (by decide) (Nat.le_of_ble_eq_true rfl) rfl rfl (fun G hR hE => ?_)
  generalize hσ1 : bset σ 6 (cpN (σ 4) (σ 6) 64) = σ1
  have e10 : σ1 10 = σ 10 := by rw [← hσ1]; exact bset_n (by decide)
  have e4 : σ1 4 = σ 4 := by rw [← hσ1]; exact bset_n (by decide)
  have e19 : σ1 19 = σ 19 := by rw [← hσ1]; exact bset_n (by decide)
  have e6 : σ1 6 = cpN (σ 4) (σ 6) 64 := by rw [← hσ1]; exact bset_s _ _ _
  have eb : ∀ b, b ≠ 6 → σ1 b = σ b := fun b hb => by rw [← hσ1]; exact bset_n hb
  have e8 : σ1 8 1 = nI t := by rw [eb 8 (by decide)]; exact hT
  have hEb : ∀ S R, Eb (bset (hset (mdT σ1 S R) 8 1 0) 4 (txS (σ 10) t (σ 4) n)) (bset (bset σ 8 (upd (σ 8) 1 0)) 4 (txS (σ 10) t (σ 4) n)) := by
    intro S R b h1 h6 h7 h15
    by_cases hb4 : b = 4
    · rw [hb4, bset_s, bset_s]
    · rw [bset_n hb4, bset_n hb4]
      by_cases hb : b = 8
      · rw [hb, hset_e, bset_s, bset_s, mdT_b (by decide) (by decide), eb 8 (by decide)]
      · rw [hset_e, bset_n hb, bset_n hb, mdT_b hb4 (by omega), eb b h6]
  have bad : ∀ S R s' x1 ok, ¬ (txR (σ 10) t (σ 4) n).1 = true → (txR (σ 10) t (σ 4) n).2.2.1 = s' → Hi (σ 4) S → G 83 [some (.ref 18), x1] [.int 1, .ref 18] (mdT σ1 S (mkR ok R (σ1 10) t s')) := by
    intro S R s' x1 ok hn hs' hH
    have hv : txV (σ 10) t (σ 4) n = -1 - nI s' := by unfold txV txA; rw [if_neg hn, hs']
    have hS : txS (σ 10) t (σ 4) n = σ 4 := by unfold txS; rw [if_neg hn]
    have hb : cpN (mdT σ1 S (mkR false R (σ1 10) t s') 6) (mdT σ1 S (mkR false R (σ1 10) t s') 4) 64 = σ 4 := by
      rw [mdT_b (by decide) (by decide), e6, mdT_4]
      funext i
      unfold cpN
      by_cases hi : i < 64
      · rw [if_pos hi, if_pos hi]
      · rw [if_neg hi]; exact hH i (by omega)
    refine pf_X5_isWrong hR fl_X5_223 dX5_text_83 (by decide) ?_
    rw [mdT_r, show upd (mkR ok R (σ1 10) t s') 3 1 = mkR false R (σ1 10) t s' from mkR_w ok false _ _ _ _]
    refine g_al_0 hR dX5_text_86 ?_
    refine gf_X5_isWrong hR fl_X5_223 dX5_text_87 ?_
    refine g_top (show _ = 1 by rw [mdT_19]; rfl) ?_
    refine g_if_eq (tgt := 97) hR dX5_text_90 (by decide) (fun h_c => absurd h_c ((by decide))) (fun _ => ?_)
    refine g_al_0 hR dX5_text_93 ?_
    refine g_cvV hR ciX5_putsBack dX5_text_94 ml_X5_289 (Nat.le_of_ble_eq_true rfl) (by decide) rfl rfl rfl (em_putsBack _) rfl (Nat.le_of_ble_eq_true rfl) rfl ?_
    rw [hb, mdT_S]
    have hE2 := hEb (σ 4) (mkR false R (σ1 10) t s')
    rw [hS] at hE2
    have hE3 : Eb (hset (mdT σ1 (σ 4) (mkR false R (σ1 10) t s')) 8 1 0) (bset (bset σ 8 (upd (σ 8) 1 0)) 4 (txS (σ 10) t (σ 4) n)) := by
      rw [hS]
      have := hE2
      intro b h1 h6 h7 h15
      have q := this b h1 h6 h7 h15
      by_cases hb4 : b = 4
      · rw [hb4, hset_e, bset_n (by decide), mdT_4, bset_s]
      · rw [bset_n hb4] at q; exact q
    refine g_al_0 hR dX5_text_97 ?_
    refine g_iconst_0 hR dX5_text_98 ?_
    refine pf_X5_taped hR fl_X5_197 dX5_text_99 ?_
    refine g_al_0 hR dX5_text_102 ?_
    refine gf_X5_isWrong hR fl_X5_223 dX5_text_103 ?_
    refine g_top (show _ = 1 by rw [hset_e, bset_n (by decide), mdT_19]; rfl) ?_
    refine g_if_eq (tgt := 118) hR dX5_text_106 (by decide) (fun h_c => absurd h_c ((by decide))) (fun _ => ?_)
    refine g_iconst_m1 hR dX5_text_109 ?_
    refine g_al_0 hR dX5_text_110 ?_
    refine gf_X5_from hR fl_X5_211 dX5_text_111 ?_
    refine g_top (show _ = nI s' by rw [hset_e, bset_n (by decide), mdT_19]; rfl) ?_
    refine g_isub hR dX5_text_114 ?_
    refine g_goto (tgt := 119) hR dX5_text_115 (by decide) ?_
    exact hE dX5_text_119 (hv.symm) (hE3)
  have good : ∀ S R s' it, (txR (σ 10) t (σ 4) n).1 = true → (txR (σ 10) t (σ 4) n).2.2.2.2 = it → (txR (σ 10) t (σ 4) n).2.1 = S → G 83 [some (.ref 18), some (.int (nI it))] [.int 0, .ref 18] (mdT σ1 S (mkR true R (σ1 10) t s')) := by
    intro S R s' it hn hit hS'
    have hv : txV (σ 10) t (σ 4) n = nI it := by unfold txV txA; rw [if_pos hn, hit]
    have hS : txS (σ 10) t (σ 4) n = S := by unfold txS; rw [if_pos hn, hS']
    have hE3 : Eb (hset (mdT σ1 S (mkR true R (σ1 10) t s')) 8 1 0) (bset (bset σ 8 (upd (σ 8) 1 0)) 4 (txS (σ 10) t (σ 4) n)) := by
      intro b h1 h6 h7 h15
      have q := hEb S (mkR true R (σ1 10) t s') b h1 h6 h7 h15
      by_cases hb4 : b = 4
      · rw [hb4, hset_e, bset_n (by decide), mdT_4, bset_s, hS]
      · rw [bset_n hb4] at q; exact q
    refine pf_X5_isWrong hR fl_X5_223 dX5_text_83 (by decide) ?_
    rw [mdT_r, show upd (mkR true R (σ1 10) t s') 3 0 = mkR true R (σ1 10) t s' from mkR_w true true _ _ _ _]
    refine g_al_0 hR dX5_text_86 ?_
    refine gf_X5_isWrong hR fl_X5_223 dX5_text_87 ?_
    refine g_top (show _ = 0 by rw [mdT_19]; rfl) ?_
    refine g_if_eq (tgt := 97) hR dX5_text_90 (by decide) (fun _ => ?_) (fun h_c => absurd (rfl) h_c)
    refine g_al_0 hR dX5_text_97 ?_
    refine g_iconst_0 hR dX5_text_98 ?_
    refine pf_X5_taped hR fl_X5_197 dX5_text_99 ?_
    refine g_al_0 hR dX5_text_102 ?_
    refine gf_X5_isWrong hR fl_X5_223 dX5_text_103 ?_
    refine g_top (show _ = 0 by rw [hset_e, bset_n (by decide), mdT_19]; rfl) ?_
    refine g_if_eq (tgt := 118) hR dX5_text_106 (by decide) (fun _ => ?_) (fun h_c => absurd (rfl) h_c)
    refine g_il_1 hR dX5_text_118 ?_
    exact hE dX5_text_119 (hv.symm) (hE3)
  have lp : ∀ f S n' s it R', Gd S n' d → s ≤ t → t < f + 1 + s → txR (σ 10) t (σ 4) n = rdR (σ1 10) t (f + 1) S n' s it → Hi (σ 4) S → G 24 [some (.ref 18), some (.int (nI it))] [] (mdT σ1 (itmR (σ1 10) t S n' s).2.1 (mkR (itmR (σ1 10) t S n' s).1 R' (σ1 10) t (itmR (σ1 10) t S n' s).2.2)) := by
    intro f
    induction f with
    | zero =>
      intro S n' s it R' hg h1 h2 hr hH
      rw [rdR, itm_out (show ¬ s < t by omega), if_neg (fun w => by cases w)] at hr
      rw [itm_out (show ¬ s < t by omega)]
      refine g_al_0 hR dX5_text_24 ?_
      refine gf_X5_isWrong hR fl_X5_223 dX5_text_25 ?_
      refine g_top (show _ = 1 by rw [mdT_19]; rfl) ?_
      refine g_if_ne (tgt := 59) hR dX5_text_28 (by decide) (fun _ => ?_) (fun h_c => absurd h_c ((by decide)))
      refine g_al_0 hR dX5_text_59 ?_
      refine g_al_0 hR dX5_text_60 ?_
      refine gf_X5_isWrong hR fl_X5_223 dX5_text_61 ?_
      refine g_top (show _ = 1 by rw [mdT_19]; rfl) ?_
      refine g_if_ne (tgt := 78) hR dX5_text_64 (by decide) (fun _ => ?_) (fun h_c => absurd h_c ((by decide)))
      refine g_iconst_1 hR dX5_text_78 ?_
      refine g_goto (tgt := 83) hR dX5_text_79 (by decide) ?_
      exact bad S R' s _ _ (by rw [hr]; exact fun w => by cases w) (by rw [hr]) hH
    | succ f ih =>
      intro S n' s it R' hg h1 h2 hr hH
      have hl := itm_le (B := σ1 10) (n := n') (S := S) h1
      have hge := itm_ge (B := σ1 10) (n := n') (S := S) (t := t) (s := s)
      have hg2 := itm_G (B := σ1 10) (t := t) (s := s) hg hd
      have hH2 := hH.tr (itm_Hi (B := σ1 10) (t := t) (s := s) (S := S) hg.1)
      rw [rdR] at hr
      generalize itmR (σ1 10) t S n' s = r at hr hl hge hg2 hH2 ⊢
      by_cases g : r.1 = true
      · rw [if_pos g] at hr
        rw [g]
        have en : mdT σ1 r.2.1 (mkR true R' (σ1 10) t r.2.2) 10 = σ1 10 := mdT_b (by decide) (by decide)
        refine g_al_0 hR dX5_text_24 ?_
        refine gf_X5_isWrong hR fl_X5_223 dX5_text_25 ?_
        refine g_top (show _ = 0 by rw [mdT_19]; rfl) ?_
        refine g_if_ne (tgt := 59) hR dX5_text_28 (by decide) (fun h_c => absurd (rfl) h_c) (fun _ => ?_)
        refine g_al_0 hR dX5_text_31 ?_
        refine g_al_0 hR dX5_text_32 ?_
        refine gf_X5_from hR fl_X5_211 dX5_text_33 ?_
        refine g_top (show _ = nI r.2.2 by rw [mdT_19]; rfl) ?_
        refine g_cvI hR ciX5_byteAt dX5_text_36 ml_X5_214 (Nat.le_of_ble_eq_true rfl) (by decide) rfl rfl rfl (em_byteAt (i := r.2.2) (t := t) (by omega) ht _ (by rw [mdT_b (by decide) (by decide)]; exact e8)) rfl (Nat.le_of_ble_eq_true rfl) rfl ?_
        refine g_bipush_59 hR dX5_text_39 ?_
        rw [en]
        by_cases h5 : r.2.2 < t
        · rw [if_pos h5] at hr
          rw [by_in h5]
          by_cases h6 : σ1 10 r.2.2 = 59
          · rw [if_pos h6] at hr
            have hgt := nx_gt (B := σ1 10) h5
            refine g_icmp_ne (tgt := 59) hR dX5_text_41 (by decide) (fun h_c => absurd (h6) h_c) (fun _ => ?_)
            refine g_al_0 hR dX5_text_44 ?_
            refine g_iconst_1 hR dX5_text_45 ?_
            refine g_cvV hR ciX5_must dX5_text_46 ml_X5_237 (Nat.le_of_ble_eq_true rfl) (by decide) rfl rfl rfl (em_must1 (s := r.2.2) (t := t) hl ht σ1 r.2.1 R' e8) rfl (Nat.le_of_ble_eq_true rfl) rfl ?_
            refine g_al_0 hR dX5_text_49 ?_
            refine g_cvW hR ciX5_item dX5_text_50 ml_X5_286 (Nat.le_of_ble_eq_true rfl) (by decide) rfl rfl rfl (em_item (n := itmN (σ1 10) t n' s) (s := nx (σ1 10) t r.2.2) (t := t) hg2.1 (nx_le hl) ht σ1 r.2.1 R' hg2.2.1 e8) rfl (Nat.le_of_ble_eq_true rfl) rfl (fun σ2 h2' => ?_)
            obtain ⟨R2, rfl⟩ := h2'
            refine g_inc_1 hR dX5_text_53 trivial ?_
            refine g_goto (tgt := 24) hR dX5_text_56 (by decide) ?_
            exact ih r.2.1 _ _ (it + 1) R2 hg2 (nx_le hl) (by omega) hr hH2
          · rw [if_neg h6] at hr
            refine g_icmp_ne (tgt := 59) hR dX5_text_41 (by decide) (fun _ => ?_) (fun h_c => absurd h_c (h6))
            refine g_al_0 hR dX5_text_59 ?_
            refine g_al_0 hR dX5_text_60 ?_
            refine gf_X5_isWrong hR fl_X5_223 dX5_text_61 ?_
            refine g_top (show _ = 0 by rw [mdT_19]; rfl) ?_
            refine g_if_ne (tgt := 78) hR dX5_text_64 (by decide) (fun h_c => absurd (rfl) h_c) (fun _ => ?_)
            refine g_al_0 hR dX5_text_67 ?_
            refine gf_X5_from hR fl_X5_211 dX5_text_68 ?_
            refine g_top (show _ = nI r.2.2 by rw [mdT_19]; rfl) ?_
            refine g_al_0 hR dX5_text_71 ?_
            refine gf_X5_taped hR fl_X5_197 dX5_text_72 ?_
            refine g_top (show _ = nI t by rw [mdT_b (by decide) (by decide)]; exact e8) ?_
            refine g_icmp_ge (tgt := 82) hR dX5_text_75 (by decide) (fun h_c => absurd h_c (nI_ge h5 (by omega))) (fun _ => ?_)
            refine g_iconst_1 hR dX5_text_78 ?_
            refine g_goto (tgt := 83) hR dX5_text_79 (by decide) ?_
            exact bad r.2.1 R' r.2.2 _ _ (by rw [hr]; exact fun w => by cases w) (by rw [hr]) hH2
        · rw [if_neg h5] at hr
          rw [by_out h5]
          refine g_icmp_ne (tgt := 59) hR dX5_text_41 (by decide) (fun _ => ?_) (fun h_c => absurd h_c ((by decide)))
          refine g_al_0 hR dX5_text_59 ?_
          refine g_al_0 hR dX5_text_60 ?_
          refine gf_X5_isWrong hR fl_X5_223 dX5_text_61 ?_
          refine g_top (show _ = 0 by rw [mdT_19]; rfl) ?_
          refine g_if_ne (tgt := 78) hR dX5_text_64 (by decide) (fun h_c => absurd (rfl) h_c) (fun _ => ?_)
          refine g_al_0 hR dX5_text_67 ?_
          refine gf_X5_from hR fl_X5_211 dX5_text_68 ?_
          refine g_top (show _ = nI r.2.2 by rw [mdT_19]; rfl) ?_
          refine g_al_0 hR dX5_text_71 ?_
          refine gf_X5_taped hR fl_X5_197 dX5_text_72 ?_
          refine g_top (show _ = nI t by rw [mdT_b (by decide) (by decide)]; exact e8) ?_
          refine g_icmp_ge (tgt := 82) hR dX5_text_75 (by decide) (fun _ => ?_) (fun h_c => absurd (nI_le (by omega) (by omega)) h_c)
          refine g_iconst_0 hR dX5_text_82 ?_
          exact good r.2.1 R' r.2.2 it (by rw [hr]) (by rw [hr]) (by rw [hr])
      · rw [if_neg g] at hr
        have g' : r.1 = false := by simpa using g
        rw [g']
        refine g_al_0 hR dX5_text_24 ?_
        refine gf_X5_isWrong hR fl_X5_223 dX5_text_25 ?_
        refine g_top (show _ = 1 by rw [mdT_19]; rfl) ?_
        refine g_if_ne (tgt := 59) hR dX5_text_28 (by decide) (fun _ => ?_) (fun h_c => absurd h_c ((by decide)))
        refine g_al_0 hR dX5_text_59 ?_
        refine g_al_0 hR dX5_text_60 ?_
        refine gf_X5_isWrong hR fl_X5_223 dX5_text_61 ?_
        refine g_top (show _ = 1 by rw [mdT_19]; rfl) ?_
        refine g_if_ne (tgt := 78) hR dX5_text_64 (by decide) (fun _ => ?_) (fun h_c => absurd h_c ((by decide)))
        refine g_iconst_1 hR dX5_text_78 ?_
        refine g_goto (tgt := 83) hR dX5_text_79 (by decide) ?_
        exact bad r.2.1 R' r.2.2 _ _ (by rw [hr]; exact fun w => by cases w) (by rw [hr]) hH2
  refine g_al_0 hR dX5_text_0 ?_
  refine g_cvV hR ciX5_saves dX5_text_1 ml_X5_283 (Nat.le_of_ble_eq_true rfl) (by decide) rfl rfl rfl (em_saves σ) rfl (Nat.le_of_ble_eq_true rfl) rfl ?_
  rw [hσ1]
  refine g_al_0 hR dX5_text_4 ?_
  refine g_iconst_0 hR dX5_text_5 ?_
  refine pf_X5_isWrong hR fl_X5_223 dX5_text_6 (by decide) ?_
  refine g_al_0 hR dX5_text_9 ?_
  refine g_iconst_0 hR dX5_text_10 ?_
  refine pf_X5_to hR fl_X5_208 dX5_text_11 ?_
  refine g_al_0 hR dX5_text_14 ?_
  refine g_cvV hR ciX5_token dX5_text_15 ml_X5_227 (Nat.le_of_ble_eq_true rfl) (by decide) rfl rfl rfl (em_token (p := 0) (t := t) (by omega) ht _ (by rw [hset_e, bset_n (by decide), hset_e, bset_n (by decide)]; exact e8) (by rw [hset_e, bset_s, upd_s]; rfl)) rfl (Nat.le_of_ble_eq_true rfl) rfl ?_
  refine g_eq (τ := mdT σ1 (σ 4) (mkR true (σ 19) (σ1 10) t (tS (σ1 10) t 0))) ?_ ?_
  · rw [← e4, ← e19]
    unfold mdT
    rw [bset_id, hset_e, hset_e, bset_bset, bset_bset, bset_s, bset_s, bset_n (show 10 ≠ 19 by decide)]
    refine congrArg (bset σ1 19) (mkR_eq ?_ ?_ ?_ ?_)
    · rw [upd_n (by decide), upd_s, bset_n (show 10 ≠ 19 by decide)]
    · rw [upd_s, bset_n (show 10 ≠ 19 by decide)]
    · rw [upd_n (by decide), upd_n (by decide), upd_n (by decide), upd_s]; rfl
    · intro i h0 h1 h3; rw [upd_n h1, upd_n h0, upd_n h1, upd_n h3]
  have hsT : tS (σ1 10) t 0 ≤ t := tS_le (by omega)
  refine g_iconst_1 hR dX5_text_18 ?_
  refine g_is_1 hR dX5_text_19 trivial ?_
  refine g_al_0 hR dX5_text_20 ?_
  refine g_cvW hR ciX5_item dX5_text_21 ml_X5_286 (Nat.le_of_ble_eq_true rfl) (by decide) rfl rfl rfl (em_item (n := n) (s := tS (σ1 10) t 0) (t := t) hG.1 hsT ht σ1 (σ 4) (σ 19) hG.2.1 e8) rfl (Nat.le_of_ble_eq_true rfl) rfl (fun σ2 h2 => ?_)
  obtain ⟨R2, rfl⟩ := h2
  exact lp t (σ 4) n _ 1 R2 hG hsT (by omega) (by rw [e10]; rfl) (Hi.rf _)
