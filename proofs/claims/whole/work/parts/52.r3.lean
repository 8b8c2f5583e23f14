set_option maxRecDepth 100000 in
set_option maxHeartbeats 4000000 in
theorem ev_readBall {s t : Nat} (hs : s ≤ t) (ht : t ≤ 120) (σ : Hp) (S R : Nat → Int32) (hT : σ 3 1 = nI t) (hB : ∀ i, i < t → 0 ≤ (σ 9 i).toInt) : CtP yX2_readBall wX2_readBall 3 [.ref 12] (rdT σ S (tkR R (σ 9) t s)) (bI ((numR 0 11 2 (σ 9) t S s).1 = true)) (fun σ' => ∃ R', σ' = rdT σ (numR 0 11 2 (σ 9) t S s).2.1 (tkR R' (σ 9) t (numR 0 11 2 (σ 9) t S s).2.2)) := by
  refine CtP.of (by decide) (Nat.le_of_ble_eq_true rfl) (bI_nar _) rfl (fun G hR hE => ?_)
  have e9 : ∀ S R, rdT σ S R 9 = σ 9 := fun S R => rdT_b (by decide) (by decide)
  have e3 : ∀ S R, rdT σ S R 3 1 = nI t := fun S R => by rw [rdT_b (by decide) (by decide)]; exact hT
  have e20 : ∀ S R s, rdT σ S (tkR R (σ 9) t s) 20 = tkR R (rdT σ S (tkR R (σ 9) t s) 9) t s := fun S R s => by rw [rdT_20, e9]
  have eB : ∀ S R i, i < t → 0 ≤ (rdT σ S R 9 i).toInt := fun S R i h => by rw [e9]; exact hB i h
  unfold numR at hE
  by_cases hn : ncB 0 11 (σ 9) t s = true
  · rw [if_pos hn] at hE
    refine g_al_0 hR dX2_readBall_0 ?_
    refine g_iconst_0 hR dX2_readBall_1 ?_
    refine g_bipush_11 hR dX2_readBall_2 ?_
    refine g_cvI hR ciX2_isNumber dX2_readBall_4 ml_X2_61 (Nat.le_of_ble_eq_true rfl) (by decide) rfl rfl rfl (ev_isNumber (s := s) (t := t) 0 11 _ R (e20 _ _ _)) rfl (Nat.le_of_ble_eq_true rfl) rfl ?_
    refine g_if_ne (tgt := 12) hR dX2_readBall_7 (by decide) (fun _ => ?_) (fun hc => absurd hc (bI_pos (by rw [e9]; exact hn)))
    refine g_al_0 hR dX2_readBall_12 ?_
    refine gf_X2_world hR fl_X2_28 dX2_readBall_13 ?_
    refine g_al_0 hR dX2_readBall_16 ?_
    refine gf_X2_tokenNumber hR fl_X2_21 dX2_readBall_17 ?_
    refine g_top (show _ = nI (nmV (σ 9) t s) by rw [rdT_20]; exact tkR_3 (of_decide_eq_true hn).1) ?_
    refine pf_X3_at hR z1 fl_X2_65 dX2_readBall_20 ?_
    rw [rdT_h]
    refine g_al_0 hR dX2_readBall_23 ?_
    refine g_cvV hR ciX2_takeToken dX2_readBall_24 ml_X2_32 (Nat.le_of_ble_eq_true rfl) (by decide) rfl rfl rfl (ev_takeToken (p := tE (σ 9) t s) (t := t) (tE_le hs) ht _ (e3 _ _) (eB _ _) (by rw [rdT_20]; rfl)) rfl (Nat.le_of_ble_eq_true rfl) rfl ?_
    refine g_iconst_1 hR dX2_readBall_27 ?_
    exact hE dX2_readBall_28 (bI_t rfl) (⟨_, by rw [rdT_R, rdT_20, e9]; rfl⟩)
  · rw [if_neg hn] at hE
    refine g_al_0 hR dX2_readBall_0 ?_
    refine g_iconst_0 hR dX2_readBall_1 ?_
    refine g_bipush_11 hR dX2_readBall_2 ?_
    refine g_cvI hR ciX2_isNumber dX2_readBall_4 ml_X2_61 (Nat.le_of_ble_eq_true rfl) (by decide) rfl rfl rfl (ev_isNumber (s := s) (t := t) 0 11 _ R (e20 _ _ _)) rfl (Nat.le_of_ble_eq_true rfl) rfl ?_
    refine g_if_ne (tgt := 12) hR dX2_readBall_7 (by decide) (fun hc => absurd (bI_0.mpr (by rw [e9]; exact hn)) hc) (fun _ => ?_)
    refine g_iconst_0 hR dX2_readBall_10 ?_
    exact hE dX2_readBall_11 (bI_f (fun w => by cases w)) (⟨R, rfl⟩)
set_option maxRecDepth 100000 in
set_option maxHeartbeats 4000000 in
theorem ev_readDrag {s t : Nat} (hs : s ≤ t) (ht : t ≤ 120) (σ : Hp) (S R : Nat → Int32) (hT : σ 3 1 = nI t) (hB : ∀ i, i < t → 0 ≤ (σ 9 i).toInt) : CtP yX2_readDrag wX2_readDrag 3 [.ref 12] (rdT σ S (tkR R (σ 9) t s)) (bI ((numR 0 99 3 (σ 9) t S s).1 = true)) (fun σ' => ∃ R', σ' = rdT σ (numR 0 99 3 (σ 9) t S s).2.1 (tkR R' (σ 9) t (numR 0 99 3 (σ 9) t S s).2.2)) := by
  refine CtP.of (by decide) (Nat.le_of_ble_eq_true rfl) (bI_nar _) rfl (fun G hR hE => ?_)
  have e9 : ∀ S R, rdT σ S R 9 = σ 9 := fun S R => rdT_b (by decide) (by decide)
  have e3 : ∀ S R, rdT σ S R 3 1 = nI t := fun S R => by rw [rdT_b (by decide) (by decide)]; exact hT
  have e20 : ∀ S R s, rdT σ S (tkR R (σ 9) t s) 20 = tkR R (rdT σ S (tkR R (σ 9) t s) 9) t s := fun S R s => by rw [rdT_20, e9]
  have eB : ∀ S R i, i < t → 0 ≤ (rdT σ S R 9 i).toInt := fun S R i h => by rw [e9]; exact hB i h
  unfold numR at hE
  by_cases hn : ncB 0 99 (σ 9) t s = true
  · rw [if_pos hn] at hE
    refine g_al_0 hR dX2_readDrag_0 ?_
    refine g_iconst_0 hR dX2_readDrag_1 ?_
    refine g_bipush_99 hR dX2_readDrag_2 ?_
    refine g_cvI hR ciX2_isNumber dX2_readDrag_4 ml_X2_61 (Nat.le_of_ble_eq_true rfl) (by decide) rfl rfl rfl (ev_isNumber (s := s) (t := t) 0 99 _ R (e20 _ _ _)) rfl (Nat.le_of_ble_eq_true rfl) rfl ?_
    refine g_if_ne (tgt := 12) hR dX2_readDrag_7 (by decide) (fun _ => ?_) (fun hc => absurd hc (bI_pos (by rw [e9]; exact hn)))
    refine g_al_0 hR dX2_readDrag_12 ?_
    refine gf_X2_world hR fl_X2_28 dX2_readDrag_13 ?_
    refine g_al_0 hR dX2_readDrag_16 ?_
    refine gf_X2_tokenNumber hR fl_X2_21 dX2_readDrag_17 ?_
    refine g_top (show _ = nI (nmV (σ 9) t s) by rw [rdT_20]; exact tkR_3 (of_decide_eq_true hn).1) ?_
    refine pf_X3_drag hR z1 fl_X2_70 dX2_readDrag_20 ?_
    rw [rdT_h]
    refine g_al_0 hR dX2_readDrag_23 ?_
    refine g_cvV hR ciX2_takeToken dX2_readDrag_24 ml_X2_32 (Nat.le_of_ble_eq_true rfl) (by decide) rfl rfl rfl (ev_takeToken (p := tE (σ 9) t s) (t := t) (tE_le hs) ht _ (e3 _ _) (eB _ _) (by rw [rdT_20]; rfl)) rfl (Nat.le_of_ble_eq_true rfl) rfl ?_
    refine g_iconst_1 hR dX2_readDrag_27 ?_
    exact hE dX2_readDrag_28 (bI_t rfl) (⟨_, by rw [rdT_R, rdT_20, e9]; rfl⟩)
  · rw [if_neg hn] at hE
    refine g_al_0 hR dX2_readDrag_0 ?_
    refine g_iconst_0 hR dX2_readDrag_1 ?_
    refine g_bipush_99 hR dX2_readDrag_2 ?_
    refine g_cvI hR ciX2_isNumber dX2_readDrag_4 ml_X2_61 (Nat.le_of_ble_eq_true rfl) (by decide) rfl rfl rfl (ev_isNumber (s := s) (t := t) 0 99 _ R (e20 _ _ _)) rfl (Nat.le_of_ble_eq_true rfl) rfl ?_
    refine g_if_ne (tgt := 12) hR dX2_readDrag_7 (by decide) (fun hc => absurd (bI_0.mpr (by rw [e9]; exact hn)) hc) (fun _ => ?_)
    refine g_iconst_0 hR dX2_readDrag_10 ?_
    exact hE dX2_readDrag_11 (bI_f (fun w => by cases w)) (⟨R, rfl⟩)
set_option maxRecDepth 100000 in
set_option maxHeartbeats 4000000 in
theorem ev_readPiece {n s t : Nat} (hn8 : n ≤ 8) (hs : s ≤ t) (ht : t ≤ 120) (kind : Int32) (σ : Hp) (S R : Nat → Int32) (hn : S 1 = nI n) (hT : σ 3 1 = nI t) (hB : ∀ i, i < t → 0 ≤ (σ 9 i).toInt) : CtP yX2_readPiece wX2_readPiece 7 [.ref 12, .int kind] (rdT σ S (tkR R (σ 9) t s)) (bI ((pieR kind (σ 9) t S n s).1 = true)) (fun σ' => ∃ R', σ' = rdT σ (pieR kind (σ 9) t S n s).2.1 (tkR R' (σ 9) t (pieR kind (σ 9) t S n s).2.2)) := by
  refine CtP.of (by decide) (Nat.le_of_ble_eq_true rfl) (bI_nar _) rfl (fun G hR hE => ?_)
  have e9 : ∀ S R, rdT σ S R 9 = σ 9 := fun S R => rdT_b (by decide) (by decide)
  have e3 : ∀ S R, rdT σ S R 3 1 = nI t := fun S R => by rw [rdT_b (by decide) (by decide)]; exact hT
  have eB : ∀ S R i, i < t → 0 ≤ (rdT σ S R 9 i).toInt := fun S R i h => by rw [e9]; exact hB i h
  unfold pieR at hE
  by_cases h8 : n = 8
  · rw [if_pos h8] at hE
    refine g_al_0 hR dX2_readPiece_0 ?_
    refine gf_X2_world hR fl_X2_28 dX2_readPiece_1 ?_
    refine g_cvI hR ciX3_isFull dX2_readPiece_4 ml_X2_72 (Nat.le_of_ble_eq_true rfl) (by omega) (lay_w z1) rfl rfl (ev_isFull (k := 1) z1 _) rfl (Nat.le_of_ble_eq_true rfl) rfl ?_
    refine g_if_eq (tgt := 12) hR dX2_readPiece_7 (by decide) (fun hc => absurd hc (bI_pos (by rw [rdT_1, hn, h8]; exact Int32.le_refl _))) (fun _ => ?_)
    refine g_iconst_0 hR dX2_readPiece_10 ?_
    exact hE dX2_readPiece_11 (bI_f (fun w => by cases w)) (⟨R, rfl⟩)
  · rw [if_neg h8] at hE
    refine g_al_0 hR dX2_readPiece_0 ?_
    refine gf_X2_world hR fl_X2_28 dX2_readPiece_1 ?_
    refine g_cvI hR ciX3_isFull dX2_readPiece_4 ml_X2_72 (Nat.le_of_ble_eq_true rfl) (by omega) (lay_w z1) rfl rfl (ev_isFull (k := 1) z1 _) rfl (Nat.le_of_ble_eq_true rfl) rfl ?_
    refine g_if_eq (tgt := 12) hR dX2_readPiece_7 (by decide) (fun _ => ?_) (fun hc => absurd (bI_0.mpr (by rw [rdT_1, hn]; exact nI_ge (b := 8) (by omega) (by decide))) hc)
    refine g_al_0 hR dX2_readPiece_12 ?_
    refine gf_X2_world hR fl_X2_28 dX2_readPiece_13 ?_
    refine g_il_1 hR dX2_readPiece_16 ?_
    refine g_iconst_0 hR dX2_readPiece_17 ?_
    refine g_cvI hR ciX3_addPiece dX2_readPiece_18 ml_X2_75 (Nat.le_of_ble_eq_true rfl) (by omega) (lay_w z1) rfl rfl (ev_addPiece (k := 1) (n := n) z1 (by omega) kind 0 _ (by rw [rdT_1]; exact hn)) rfl (Nat.le_of_ble_eq_true rfl) rfl ?_
    refine g_is_2 hR dX2_readPiece_21 trivial ?_
    rw [rdT_S, rdT_1]
    refine g_al_0 hR dX2_readPiece_22 ?_
    refine g_cvV hR ciX2_takeToken dX2_readPiece_23 ml_X2_32 (Nat.le_of_ble_eq_true rfl) (by decide) rfl rfl rfl (ev_takeToken (p := tE (σ 9) t s) (t := t) (tE_le hs) ht _ (e3 _ _) (eB _ _) (by rw [rdT_20]; rfl)) rfl (Nat.le_of_ble_eq_true rfl) rfl ?_
    rw [rdT_R, rdT_20, e9, show tS (σ 9) t (tE (σ 9) t s) = nx (σ 9) t s from rfl]
    have hs1 : nx (σ 9) t s ≤ t := nx_le hs
    unfold prtR at hE
    have hl1 := fac_le (w := sBy.getD 10 []) (lo := 0) (hi := 11) (B := σ 9) (p := n) (k := 1) (S := addS S n kind 0) hs1
    have c1 := fun R0 => ev_readFact (q := 10) (p := n) (k := 1) (s := nx (σ 9) t s) (t := t) (by decide) (by omega) (by decide) hs1 ht 0 11 rfl rfl σ (addS S n kind 0) R0 hT hB
    generalize facR (sBy.getD 10 []) 0 11 (σ 9) t n 1 (addS S n kind 0) (nx (σ 9) t s) = r1 at hE hl1 c1
    have no : ∀ r : Bool × (Nat → Int32) × Nat, ¬ r.1 = true → thn (thn r1 (facR (sBy.getD 11 []) 1 99 (σ 9) t n 2)) (facR (sBy.getD 12 []) 0 9 (σ 9) t n 3) = r → ∀ R', G 63 [some (.ref 12), some (.int kind), some (.int (nI n))] [] (rdT σ r.2.1 (tkR R' (σ 9) t r.2.2)) := by
      intro r hr he R'
      rw [he] at hE
      refine g_iconst_0 hR dX2_readPiece_63 ?_
      exact hE dX2_readPiece_64 (bI_f hr) (⟨R', rfl⟩)
    refine g_al_0 hR dX2_readPiece_26 ?_
    refine g_ldcS (i := 10) hR (by decide) rfl dX2_readPiece_27 ?_
    refine g_il_2 hR dX2_readPiece_29 ?_
    refine g_iconst_1 hR dX2_readPiece_30 ?_
    refine g_cvP hR ciX2_readFact dX2_readPiece_31 ml_X2_81 (Nat.le_of_ble_eq_true rfl) (by decide) rfl rfl rfl (c1 _) rfl (Nat.le_of_ble_eq_true rfl) rfl (fun σ2 h2 => ?_)
    refine g_if_eq (tgt := 63) hR dX2_readPiece_34 (by decide) (fun g1 => ?_) (fun g1 => ?_)
    · obtain ⟨R2, rfl⟩ := h2
      have g1 := bI_0.mp g1
      exact no r1 g1 (by rw [thn_f g1, thn_f g1]) R2
    · obtain ⟨R2, rfl⟩ := h2
      have g1 := bI_no g1
      rw [thn_t g1] at hE no
      have hl2 := fac_le (w := sBy.getD 11 []) (lo := 1) (hi := 99) (B := σ 9) (p := n) (k := 2) (S := r1.2.1) hl1
      have c2 := fun R0 => ev_readFact (q := 11) (p := n) (k := 2) (s := r1.2.2) (t := t) (by decide) (by omega) (by decide) hl1 ht 1 99 rfl rfl σ r1.2.1 R0 hT hB
      generalize facR (sBy.getD 11 []) 1 99 (σ 9) t n 2 r1.2.1 r1.2.2 = r2 at hE hl2 c2 no
      refine g_al_0 hR dX2_readPiece_37 ?_
      refine g_ldcS (i := 11) hR (by decide) rfl dX2_readPiece_38 ?_
      refine g_il_2 hR dX2_readPiece_40 ?_
      refine g_iconst_2 hR dX2_readPiece_41 ?_
      refine g_cvP hR ciX2_readFact dX2_readPiece_42 ml_X2_81 (Nat.le_of_ble_eq_true rfl) (by decide) rfl rfl rfl (c2 _) rfl (Nat.le_of_ble_eq_true rfl) rfl (fun σ3 h3 => ?_)
      refine g_if_eq (tgt := 63) hR dX2_readPiece_45 (by decide) (fun g2 => ?_) (fun g2 => ?_)
      · obtain ⟨R3, rfl⟩ := h3
        have g2 := bI_0.mp g2
        exact no r2 g2 (by rw [thn_f g2]) R3
      · obtain ⟨R3, rfl⟩ := h3
        have g2 := bI_no g2
        rw [thn_t g2] at hE no
        have c3 := fun R0 => ev_readFact (q := 12) (p := n) (k := 3) (s := r2.2.2) (t := t) (by decide) (by omega) (by decide) hl2 ht 0 9 rfl rfl σ r2.2.1 R0 hT hB
        generalize facR (sBy.getD 12 []) 0 9 (σ 9) t n 3 r2.2.1 r2.2.2 = r3 at hE c3 no
        refine g_al_0 hR dX2_readPiece_48 ?_
        refine g_ldcS (i := 12) hR (by decide) rfl dX2_readPiece_49 ?_
        refine g_il_2 hR dX2_readPiece_51 ?_
        refine g_iconst_3 hR dX2_readPiece_52 ?_
        refine g_cvP hR ciX2_readFact dX2_readPiece_53 ml_X2_81 (Nat.le_of_ble_eq_true rfl) (by decide) rfl rfl rfl (c3 _) rfl (Nat.le_of_ble_eq_true rfl) rfl (fun σ4 h4 => ?_)
        refine g_if_eq (tgt := 63) hR dX2_readPiece_56 (by decide) (fun g3 => ?_) (fun g3 => ?_)
        · obtain ⟨R4, rfl⟩ := h4
          exact no r3 (bI_0.mp g3) rfl R4
        · obtain ⟨R4, rfl⟩ := h4
          refine g_iconst_1 hR dX2_readPiece_59 ?_
          refine g_goto (tgt := 64) hR dX2_readPiece_60 (by decide) ?_
          exact hE dX2_readPiece_64 (bI_t (bI_no g3)) (⟨R4, rfl⟩)
set_option maxRecDepth 100000 in
set_option maxHeartbeats 4000000 in
theorem ev_readItem {n s t : Nat} (hn8 : n ≤ 8) (hs : s ≤ t) (ht : t ≤ 120) (σ : Hp) (S R : Nat → Int32) (hn : S 1 = nI n) (hT : σ 3 1 = nI t) (hB : ∀ i, i < t → 0 ≤ (σ 9 i).toInt) : CtP yX2_readItem wX2_readItem 8 [.ref 12] (rdT σ S (tkR R (σ 9) t s)) (bI ((itmR (σ 9) t S n s).1 = true)) (fun σ' => ∃ R', σ' = rdT σ (itmR (σ 9) t S n s).2.1 (tkR R' (σ 9) t (itmR (σ 9) t S n s).2.2)) := by
  refine CtP.of (by decide) (Nat.le_of_ble_eq_true rfl) (bI_nar _) rfl (fun G hR hE => ?_)
  have e9 : ∀ S R, rdT σ S R 9 = σ 9 := fun S R => rdT_b (by decide) (by decide)
  have e3 : ∀ S R, rdT σ S R 3 1 = nI t := fun S R => by rw [rdT_b (by decide) (by decide)]; exact hT
  have e20 : ∀ S R s, rdT σ S (tkR R (σ 9) t s) 20 = tkR R (rdT σ S (tkR R (σ 9) t s) 9) t s := fun S R s => by rw [rdT_20, e9]
  have eB : ∀ S R i, i < t → 0 ≤ (rdT σ S R 9 i).toInt := fun S R i h => by rw [e9]; exact hB i h
  have lp : ∀ d' j, j + d' = 7 → fstN (fun k => wdB (sBy.getD k []) (σ 9) t s) j = none → G 2 [some (.ref 12), some (.int (nI j))] [] (rdT σ S (tkR R (σ 9) t s)) := by
    intro d'
    induction d' with
    | zero =>
      intro j hj hf
      have e7 : j = 7 := by omega
      subst e7
      rw [itm_none hf] at hE
      refine g_il_1 hR dX2_readItem_2 ?_
      refine g_bipush_7 hR dX2_readItem_3 ?_
      refine g_icmp_ge (tgt := 31) hR dX2_readItem_5 (by decide) (fun _ => ?_) (fun hc => absurd (Int32.le_refl _) hc)
      refine g_al_0 hR dX2_readItem_31 ?_
      refine g_ldcS (i := 8) hR (by decide) rfl dX2_readItem_32 ?_
      refine g_cvI hR ciX2_isWord dX2_readItem_34 ml_X2_43 (Nat.le_of_ble_eq_true rfl) (by decide) rfl rfl rfl (ev_isWord (q := 8) (s := s) (t := t) (by decide) hs ht _ R (e20 _ _ _) (e3 _ _)) rfl (Nat.le_of_ble_eq_true rfl) rfl ?_
      rw [e9]
      by_cases h1 : wdB (sBy.getD 8 []) (σ 9) t s = true
      · rw [if_pos h1] at hE
        refine g_if_eq (tgt := 49) hR dX2_readItem_37 (by decide) (fun hc => absurd hc (bI_pos h1)) (fun _ => ?_)
        refine g_al_0 hR dX2_readItem_40 ?_
        refine g_cvV hR ciX2_takeToken dX2_readItem_41 ml_X2_32 (Nat.le_of_ble_eq_true rfl) (by decide) rfl rfl rfl (ev_takeToken (p := tE (σ 9) t s) (t := t) (tE_le hs) ht _ (e3 _ _) (eB _ _) (by rw [rdT_20]; rfl)) rfl (Nat.le_of_ble_eq_true rfl) rfl ?_
        rw [rdT_R, rdT_20, e9, show tS (σ 9) t (tE (σ 9) t s) = nx (σ 9) t s from rfl]
        refine g_al_0 hR dX2_readItem_44 ?_
        refine g_cvP hR ciX2_readBall dX2_readItem_45 ml_X2_53 (Nat.le_of_ble_eq_true rfl) (by decide) rfl rfl rfl (ev_readBall (s := nx (σ 9) t s) (t := t) (nx_le hs) ht σ S _ hT hB) rfl (Nat.le_of_ble_eq_true rfl) rfl (fun σ2 h2 => ?_)
        exact hE dX2_readItem_48 (rfl) (h2)
      · rw [if_neg h1] at hE
        refine g_if_eq (tgt := 49) hR dX2_readItem_37 (by decide) (fun _ => ?_) (fun hc => absurd (bI_0.mpr h1) hc)
        refine g_al_0 hR dX2_readItem_49 ?_
        refine g_ldcS (i := 9) hR (by decide) rfl dX2_readItem_50 ?_
        refine g_cvI hR ciX2_isWord dX2_readItem_52 ml_X2_43 (Nat.le_of_ble_eq_true rfl) (by decide) rfl rfl rfl (ev_isWord (q := 9) (s := s) (t := t) (by decide) hs ht _ R (e20 _ _ _) (e3 _ _)) rfl (Nat.le_of_ble_eq_true rfl) rfl ?_
        rw [e9]
        by_cases h3 : wdB (sBy.getD 9 []) (σ 9) t s = true
        · rw [if_pos h3] at hE
          refine g_if_eq (tgt := 67) hR dX2_readItem_55 (by decide) (fun hc => absurd hc (bI_pos h3)) (fun _ => ?_)
          refine g_al_0 hR dX2_readItem_58 ?_
          refine g_cvV hR ciX2_takeToken dX2_readItem_59 ml_X2_32 (Nat.le_of_ble_eq_true rfl) (by decide) rfl rfl rfl (ev_takeToken (p := tE (σ 9) t s) (t := t) (tE_le hs) ht _ (e3 _ _) (eB _ _) (by rw [rdT_20]; rfl)) rfl (Nat.le_of_ble_eq_true rfl) rfl ?_
          rw [rdT_R, rdT_20, e9, show tS (σ 9) t (tE (σ 9) t s) = nx (σ 9) t s from rfl]
          refine g_al_0 hR dX2_readItem_62 ?_
          refine g_cvP hR ciX2_readDrag dX2_readItem_63 ml_X2_58 (Nat.le_of_ble_eq_true rfl) (by decide) rfl rfl rfl (ev_readDrag (s := nx (σ 9) t s) (t := t) (nx_le hs) ht σ S _ hT hB) rfl (Nat.le_of_ble_eq_true rfl) rfl (fun σ2 h2 => ?_)
          exact hE dX2_readItem_66 (rfl) (h2)
        · rw [if_neg h3] at hE
          refine g_if_eq (tgt := 67) hR dX2_readItem_55 (by decide) (fun _ => ?_) (fun hc => absurd (bI_0.mpr h3) hc)
          refine g_iconst_0 hR dX2_readItem_67 ?_
          exact hE dX2_readItem_68 (bI_f (fun w => by cases w)) (⟨R, rfl⟩)
    | succ d' ih =>
      intro j hj hf
      refine g_il_1 hR dX2_readItem_2 ?_
      refine g_bipush_7 hR dX2_readItem_3 ?_
      refine g_icmp_ge (tgt := 31) hR dX2_readItem_5 (by decide) (fun hc => absurd hc (nI_ge (b := 7) (by omega) (by decide))) (fun _ => ?_)
      refine g_al_0 hR dX2_readItem_8 ?_
      refine g_il_1 hR dX2_readItem_9 ?_
      refine g_csR hR ciX2_wordOf dX2_readItem_10 ml_X2_39 (Nat.le_of_ble_eq_true rfl) (ev_wordOf (k := j) (by omega) _) rfl (Nat.le_of_ble_eq_true rfl) rfl ?_
      refine g_cvI hR ciX2_isWord dX2_readItem_13 ml_X2_43 (Nat.le_of_ble_eq_true rfl) (by decide) rfl rfl rfl (ev_isWord (q := j) (s := s) (t := t) (by omega) hs ht _ R (e20 _ _ _) (e3 _ _)) rfl (Nat.le_of_ble_eq_true rfl) rfl ?_
      rw [e9]
      by_cases h1 : wdB (sBy.getD j []) (σ 9) t s = true
      · have hfst := fstN_first hf h1 d'
        rw [show j + 1 + d' = 7 by omega] at hfst
        rw [itm_some hfst] at hE
        refine g_if_eq (tgt := 25) hR dX2_readItem_16 (by decide) (fun hc => absurd hc (bI_pos h1)) (fun _ => ?_)
        refine g_al_0 hR dX2_readItem_19 ?_
        refine g_il_1 hR dX2_readItem_20 ?_
        refine g_cvP hR ciX2_readPiece dX2_readItem_21 ml_X2_47 (Nat.le_of_ble_eq_true rfl) (by decide) rfl rfl rfl (ev_readPiece (n := n) (s := s) (t := t) hn8 hs ht (nI j) σ S R hn hT hB) rfl (Nat.le_of_ble_eq_true rfl) rfl (fun σ2 h2 => ?_)
        exact hE dX2_readItem_24 (rfl) (h2)
      · refine g_if_eq (tgt := 25) hR dX2_readItem_16 (by decide) (fun _ => ?_) (fun hc => absurd (bI_0.mpr h1) hc)
        refine g_inc_1 hR dX2_readItem_25 trivial ?_
        refine g_goto (tgt := 2) hR dX2_readItem_28 (by decide) ?_
        exact ih (j + 1) (by omega) (fstN_none hf (by simpa using h1))
  refine g_iconst_0 hR dX2_readItem_0 ?_
  refine g_is_1 hR dX2_readItem_1 trivial ?_
  exact lp 7 0 rfl rfl
set_option maxRecDepth 100000 in
set_option maxHeartbeats 4000000 in
theorem ev_readText {n t : Nat} {d : Int} (ht : t ≤ 120) (σ : Hp) (hG : Gd (σ 1) n d) (hd : 0 ≤ d) (hT : σ 3 1 = nI t) (hB : ∀ i, i < t → 0 ≤ (σ 9 i).toInt) : CtP yX2_readText wX2_readText 9 [.ref 12] (σ) (txV (σ 9) t (σ 1) n) (fun σ' => ∃ R', σ' = rdT σ (txR (σ 9) t (σ 1) n).2.1 R') := by
  refine CtP.of (by decide) (Nat.le_of_ble_eq_true rfl) rfl rfl (fun G hR hE => ?_)
  have e9 : ∀ S R, rdT σ S R 9 = σ 9 := fun S R => rdT_b (by decide) (by decide)
  have e3 : ∀ S R, rdT σ S R 3 1 = nI t := fun S R => by rw [rdT_b (by decide) (by decide)]; exact hT
  have eB : ∀ S R i, i < t → 0 ≤ (rdT σ S R 9 i).toInt := fun S R i h => by rw [e9]; exact hB i h
  have lp : ∀ f S R n' s it, Gd S n' d → s ≤ t → t < f + s → it ≤ s + 1 → txR (σ 9) t (σ 1) n = rdR (σ 9) t f S n' s it → G 11 [some (.ref 12), some (.int (nI it))] [] (rdT σ S (tkR R (σ 9) t s)) := by
    intro f
    induction f with
    | zero => intro S R n' s it _ h1 h2; omega
    | succ f ih =>
      intro S R n' s it hg h1 h2 h3 hr
      rw [rdR] at hr
      by_cases h120 : 120 < it
      · rw [itm_out (show ¬ s < t by omega), if_neg (fun w => by cases w)] at hr
        have hv : txV (σ 9) t (σ 1) n = -1 - nI s := by unfold txV txA; rw [hr]; rfl
        have hS : (txR (σ 9) t (σ 1) n).2.1 = S := by rw [hr]
        rw [hv, hS] at hE
        refine g_il_1 hR dX2_readText_11 ?_
        refine g_bipush_120 hR dX2_readText_12 ?_
        refine g_icmp_gt (tgt := 65) hR dX2_readText_14 (by decide) (fun _ => ?_) (fun hc => absurd (nI_lt (a := 120) h120 (by omega)) hc)
        refine g_iconst_m1 hR dX2_readText_65 ?_
        refine g_al_0 hR dX2_readText_66 ?_
        refine gf_X2_tokenStart hR fl_X2_15 dX2_readText_67 ?_
        refine g_top (show _ = nI s by rw [rdT_20]; rfl) ?_
        refine g_isub hR dX2_readText_70 ?_
        exact hE dX2_readText_71 (rfl) (⟨_, rfl⟩)
      · refine g_il_1 hR dX2_readText_11 ?_
        refine g_bipush_120 hR dX2_readText_12 ?_
        refine g_icmp_gt (tgt := 65) hR dX2_readText_14 (by decide) (fun hc => absurd hc (nI_nlt (a := 120) (by omega) (by omega))) (fun _ => ?_)
        refine g_al_0 hR dX2_readText_17 ?_
        refine g_cvP hR ciX2_readItem dX2_readText_18 ml_X2_35 (Nat.le_of_ble_eq_true rfl) (by decide) rfl rfl rfl (ev_readItem (n := n') (s := s) (t := t) hg.1 h1 ht σ S R hg.2.1 hT hB) rfl (Nat.le_of_ble_eq_true rfl) rfl (fun σ2 h2' => ?_)
        refine g_if_ne (tgt := 31) hR dX2_readText_21 (by decide) (fun g => ?_) (fun g => ?_)
        · obtain ⟨R2, rfl⟩ := h2'
          have g := bI_no g
          have hl := itm_le (B := σ 9) (n := n') (S := S) h1
          have hge := itm_ge (B := σ 9) (n := n') (S := S) (t := t) (s := s)
          have hg2 := itm_G (B := σ 9) (t := t) (s := s) hg hd
          rw [if_pos g] at hr
          generalize itmR (σ 9) t S n' s = r at hr hl hge hg2 g
          by_cases h5 : r.2.2 < t
          · rw [if_pos h5] at hr
            by_cases h6 : σ 9 r.2.2 = 59
            · rw [if_pos h6] at hr
              refine g_al_0 hR dX2_readText_31 ?_
              refine gf_X2_tokenSort hR fl_X2_11 dX2_readText_32 ?_
              refine g_top (show _ = srt (σ 9) t r.2.2 by rw [rdT_20]; rfl) ?_
              refine g_if_ne (tgt := 40) hR dX2_readText_35 (by decide) (fun _ => ?_) (fun hc => absurd hc ((fun q => srt_0.mp q h5)))
              refine g_al_0 hR dX2_readText_40 ?_
              refine gf_X2_tokenSort hR fl_X2_11 dX2_readText_41 ?_
              refine g_top (show _ = srt (σ 9) t r.2.2 by rw [rdT_20]; rfl) ?_
              refine g_iconst_3 hR dX2_readText_44 ?_
              refine g_icmp_eq (tgt := 55) hR dX2_readText_45 (by decide) (fun _ => ?_) (fun hc => absurd ((srt_3 h5).mpr h6) hc)
              refine g_al_0 hR dX2_readText_55 ?_
              refine g_cvV hR ciX2_takeToken dX2_readText_56 ml_X2_32 (Nat.le_of_ble_eq_true rfl) (by decide) rfl rfl rfl (ev_takeToken (p := tE (σ 9) t r.2.2) (t := t) (tE_le hl) ht _ (e3 _ _) (eB _ _) (by rw [rdT_20]; rfl)) rfl (Nat.le_of_ble_eq_true rfl) rfl ?_
              rw [rdT_R, rdT_20, e9, show tS (σ 9) t (tE (σ 9) t r.2.2) = nx (σ 9) t r.2.2 from rfl]
              refine g_inc_1 hR dX2_readText_59 trivial ?_
              refine g_goto (tgt := 11) hR dX2_readText_62 (by decide) ?_
              have hgt := nx_gt (B := σ 9) h5
              exact ih r.2.1 _ (itmN (σ 9) t n' s) (nx (σ 9) t r.2.2) (it + 1) hg2 (nx_le hl) (by omega) (by omega) hr
            · rw [if_neg h6] at hr
              have hv : txV (σ 9) t (σ 1) n = -1 - nI r.2.2 := by unfold txV txA; rw [hr]; rfl
              have hS : (txR (σ 9) t (σ 1) n).2.1 = r.2.1 := by rw [hr]
              rw [hv, hS] at hE
              refine g_al_0 hR dX2_readText_31 ?_
              refine gf_X2_tokenSort hR fl_X2_11 dX2_readText_32 ?_
              refine g_top (show _ = srt (σ 9) t r.2.2 by rw [rdT_20]; rfl) ?_
              refine g_if_ne (tgt := 40) hR dX2_readText_35 (by decide) (fun _ => ?_) (fun hc => absurd hc ((fun q => srt_0.mp q h5)))
              refine g_al_0 hR dX2_readText_40 ?_
              refine gf_X2_tokenSort hR fl_X2_11 dX2_readText_41 ?_
              refine g_top (show _ = srt (σ 9) t r.2.2 by rw [rdT_20]; rfl) ?_
              refine g_iconst_3 hR dX2_readText_44 ?_
              refine g_icmp_eq (tgt := 55) hR dX2_readText_45 (by decide) (fun hc => absurd hc ((fun q => h6 ((srt_3 h5).mp q)))) (fun _ => ?_)
              refine g_iconst_m1 hR dX2_readText_48 ?_
              refine g_al_0 hR dX2_readText_49 ?_
              refine gf_X2_tokenStart hR fl_X2_15 dX2_readText_50 ?_
              refine g_top (show _ = nI r.2.2 by rw [rdT_20]; rfl) ?_
              refine g_isub hR dX2_readText_53 ?_
              exact hE dX2_readText_54 (rfl) (⟨_, rfl⟩)
          · rw [if_neg h5] at hr
            have hv : txV (σ 9) t (σ 1) n = nI it := by unfold txV txA; rw [hr]; rfl
            have hS : (txR (σ 9) t (σ 1) n).2.1 = r.2.1 := by rw [hr]
            rw [hv, hS] at hE
            refine g_al_0 hR dX2_readText_31 ?_
            refine gf_X2_tokenSort hR fl_X2_11 dX2_readText_32 ?_
            refine g_top (show _ = srt (σ 9) t r.2.2 by rw [rdT_20]; rfl) ?_
            refine g_if_ne (tgt := 40) hR dX2_readText_35 (by decide) (fun hc => absurd (srt_0.mpr h5) hc) (fun _ => ?_)
            refine g_il_1 hR dX2_readText_38 ?_
            exact hE dX2_readText_39 (rfl) (⟨_, rfl⟩)
        · obtain ⟨R2, rfl⟩ := h2'
          have g := bI_0.mp g
          rw [if_neg g] at hr
          have hv : txV (σ 9) t (σ 1) n = -1 - nI (itmR (σ 9) t S n' s).2.2 := by unfold txV txA; rw [hr]; rfl
          have hS : (txR (σ 9) t (σ 1) n).2.1 = (itmR (σ 9) t S n' s).2.1 := by rw [hr]
          rw [hv, hS] at hE
          refine g_iconst_m1 hR dX2_readText_24 ?_
          refine g_al_0 hR dX2_readText_25 ?_
          refine gf_X2_tokenStart hR fl_X2_15 dX2_readText_26 ?_
          refine g_top (show _ = nI (itmR (σ 9) t S n' s).2.2 by rw [rdT_20]; rfl) ?_
          refine g_isub hR dX2_readText_29 ?_
          exact hE dX2_readText_30 (rfl) (⟨_, rfl⟩)
  refine g_al_0 hR dX2_readText_0 ?_
  refine g_iconst_0 hR dX2_readText_1 ?_
  refine pf_X2_tokenEnd hR fl_X2_18 dX2_readText_2 ?_
  refine g_al_0 hR dX2_readText_5 ?_
  refine g_cvV hR ciX2_takeToken dX2_readText_6 ml_X2_32 (Nat.le_of_ble_eq_true rfl) (by decide) rfl rfl rfl (ev_takeToken (p := 0) (t := t) (by omega) ht _ (by rw [hset_e, bset_n (by decide)]; exact hT) (by rw [hset_e, bset_n (by decide)]; exact hB) (by rw [hset_e, bset_s, upd_s]; rfl)) rfl (Nat.le_of_ble_eq_true rfl) rfl ?_
  refine g_iconst_1 hR dX2_readText_9 ?_
  refine g_is_1 hR dX2_readText_10 trivial ?_
  refine g_eq (τ := rdT σ (σ 1) (tkR (upd (σ 20) 2 0) (σ 9) t (tS (σ 9) t 0))) (by unfold rdT; rw [bset_id, hset_e, bset_s, bset_bset, bset_n (show 9 ≠ 20 by decide)]) ?_
  exact lp (t + 1) (σ 1) _ n _ 1 hG (tS_le (by omega)) (by omega) (by omega) rfl
set_option maxRecDepth 100000 in
set_option maxHeartbeats 4000000 in
theorem cx_text {n t : Nat} {d : Int} (ht : t ≤ 120) (σ : Hp) (hG : Gd (σ 0) n d) (hd : 0 ≤ d) (h64 : σ 0 64 = 0) (hT : σ 3 1 = nI t) (hB : ∀ i, i < t → 0 ≤ (σ 9 i).toInt) : CtP yX4_text wX4_text 10 [.ref 0] (σ) (txV (σ 9) t (σ 0) n) (fun σ' => Eb σ' (bset (bset σ 3 (upd (σ 3) 1 0)) 0 (txS (σ 9) t (σ 0) n))) := by
  refine CtP.of (by decide) (Nat.le_of_ble_eq_true rfl) rfl rfl (fun G hR hE => ?_)
  have hG1 : Gd (cpW (σ 0) (σ 1)) n d := by
    obtain ⟨g1, g2, g3, g4, g5, g6, g7, g8⟩ := hG
    have e : ∀ i, i < 54 → cpW (σ 0) (σ 1) i = σ 0 i := fun i hi => by unfold cpW; rw [if_neg (by omega), if_pos (by omega)]
    exact ⟨g1, by rw [e 1 (by decide)]; exact g2, fun p w hp hw => by unfold pf; rw [e _ (by omega)]; exact g3 p w hp hw, by rw [e 3 (by decide)]; exact g4, by rw [e 4 (by decide)]; exact g5, by rw [e 0 (by decide)]; exact g6, by rw [e 2 (by decide)]; exact g7, trivial⟩
  have e9 : bset σ 1 (cpW (σ 0) (σ 1)) 9 = σ 9 := bset_n (by decide)
  refine g_al_0 hR dX4_text_0 ?_
  refine gf_X4_trial hR fl_X4_16 dX4_text_1 ?_
  refine g_al_0 hR dX4_text_4 ?_
  refine gf_X4_current hR fl_X4_12 dX4_text_5 ?_
  refine g_cvV hR ciX3_becomeWhole dX4_text_8 ml_X4_185 (Nat.le_of_ble_eq_true rfl) (by omega) (lay_w z1) rfl rfl (ev_becomeWhole (k := 1) (j := 0) z1 z0 (by decide) σ) rfl (Nat.le_of_ble_eq_true rfl) rfl ?_
  refine g_al_0 hR dX4_text_11 ?_
  refine gf_X4_reader hR fl_X4_38 dX4_text_12 ?_
  refine g_cvP hR ciX2_readText dX4_text_15 ml_X4_188 (Nat.le_of_ble_eq_true rfl) (by decide) rfl rfl rfl (ev_readText (n := n) (t := t) (d := d) ht _ (by rw [bset_s]; exact hG1) hd (by rw [bset_n (by decide)]; exact hT) (by rw [e9]; exact hB)) rfl (Nat.le_of_ble_eq_true rfl) rfl (fun σ2 h2 => ?_)
  obtain ⟨R2, rfl⟩ := h2
  rw [e9, bset_s]
  by_cases hok : (txR (σ 9) t (cpW (σ 0) (σ 1)) n).1 = true
  · obtain ⟨k1, k2⟩ := tx_back (U := σ 1) hG hd h64 hok
    have e0 : hset (rdT (bset σ 1 (cpW (σ 0) (σ 1))) (txR (σ 9) t (cpW (σ 0) (σ 1)) n).2.1 R2) 3 1 0 0 = σ 0 := by rw [hset_e, bset_n (by decide), rdT_b (by decide) (by decide), bset_n (by decide)]
    have e1 : hset (rdT (bset σ 1 (cpW (σ 0) (σ 1))) (txR (σ 9) t (cpW (σ 0) (σ 1)) n).2.1 R2) 3 1 0 1 = (txR (σ 9) t (cpW (σ 0) (σ 1)) n).2.1 := by rw [hset_e, bset_n (by decide), rdT_1]
    have fin : Eb (bset (hset (rdT (bset σ 1 (cpW (σ 0) (σ 1))) (txR (σ 9) t (cpW (σ 0) (σ 1)) n).2.1 R2) 3 1 0) 0 (txS (σ 9) t (σ 0) n)) (bset (bset σ 3 (upd (σ 3) 1 0)) 0 (txS (σ 9) t (σ 0) n)) := by
      refine Eb_b (Q := σ 0) ?_
      intro b h1 h6 h7 h15
      by_cases hb0 : b = 0
      · rw [hb0, e0, bset_s]
      · rw [bset_n hb0]
        by_cases hb : b = 3
        · rw [hb, hset_e, bset_s, bset_s, rdT_b (by decide) (by decide), bset_n (by decide)]
        · rw [hset_e, bset_n hb, bset_n hb, rdT_b h1 (by omega), bset_n h1]
    refine g_is_1 hR dX4_text_18 trivial ?_
    refine g_al_0 hR dX4_text_19 ?_
    refine gf_X4_tape hR fl_X4_29 dX4_text_20 ?_
    refine g_iconst_0 hR dX4_text_23 ?_
    refine pf_X1_size hR fl_X4_179 dX4_text_24 ?_
    refine g_il_1 hR dX4_text_27 ?_
    refine g_if_lt (tgt := 42) hR dX4_text_28 (by decide) (fun hc => absurd hc ((fun w => (tx_neg ht).mp w hok))) (fun _ => ?_)
    refine g_al_0 hR dX4_text_31 ?_
    refine gf_X4_current hR fl_X4_12 dX4_text_32 ?_
    refine g_al_0 hR dX4_text_35 ?_
    refine gf_X4_trial hR fl_X4_16 dX4_text_36 ?_
    refine g_cvV hR ciX3_becomeWhole dX4_text_39 ml_X4_185 (Nat.le_of_ble_eq_true rfl) (by omega) (lay_w z0) rfl rfl (ev_becomeWhole (k := 0) (j := 1) z0 z1 (by decide) _) rfl (Nat.le_of_ble_eq_true rfl) rfl ?_
    refine g_il_1 hR dX4_text_42 ?_
    exact hE dX4_text_43 (k2) (by rw [e0, e1, k1]; exact fin)
  · obtain ⟨k1, k2⟩ := tx_bad hok
    have fin : Eb (hset (rdT (bset σ 1 (cpW (σ 0) (σ 1))) (txR (σ 9) t (cpW (σ 0) (σ 1)) n).2.1 R2) 3 1 0) (bset (bset σ 3 (upd (σ 3) 1 0)) 0 (σ 0)) := by
      intro b h1 h6 h7 h15
      by_cases hb0 : b = 0
      · rw [hb0, hset_e, bset_n (by decide), rdT_b (by decide) (by decide), bset_n (by decide), bset_s]
      · rw [bset_n hb0]
        by_cases hb : b = 3
        · rw [hb, hset_e, bset_s, bset_s, rdT_b (by decide) (by decide), bset_n (by decide)]
        · rw [hset_e, bset_n hb, bset_n hb, rdT_b h1 (by omega), bset_n h1]
    refine g_is_1 hR dX4_text_18 trivial ?_
    refine g_al_0 hR dX4_text_19 ?_
    refine gf_X4_tape hR fl_X4_29 dX4_text_20 ?_
    refine g_iconst_0 hR dX4_text_23 ?_
    refine pf_X1_size hR fl_X4_179 dX4_text_24 ?_
    refine g_il_1 hR dX4_text_27 ?_
    refine g_if_lt (tgt := 42) hR dX4_text_28 (by decide) (fun _ => ?_) (fun hc => absurd ((tx_neg ht).mpr hok) hc)
    refine g_il_1 hR dX4_text_42 ?_
    exact hE dX4_text_43 (k2) (by rw [k1]; exact fin)
