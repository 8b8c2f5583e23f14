set_option maxRecDepth 100000 in
set_option maxHeartbeats 4000000 in
theorem ev_isWithin (v l m : Int32) (σ : Hp) : CtI yX4_isWithin wX4_isWithin 0 [.int v, .int l, .int m] σ (bI (l ≤ v ∧ v ≤ m)) (σ) := by
  refine CtI.of (by decide) (Nat.le_of_ble_eq_true rfl) (bI_nar _) rfl (fun G hR hE => ?_)
  refine g_il_0 hR dX4_isWithin_0 ?_
  refine g_il_1 hR dX4_isWithin_1 ?_
  refine g_icmp_lt (tgt := 14) hR dX4_isWithin_2 (by decide) (fun h1 => ?_) (fun h1 => ?_)
  · refine g_iconst_0 hR dX4_isWithin_14 ?_
    exact hE dX4_isWithin_15 (bI_f (fun q => Int32.not_le.mpr h1 q.1)) (rfl)
  · refine g_il_0 hR dX4_isWithin_5 ?_
    refine g_il_2 hR dX4_isWithin_6 ?_
    refine g_icmp_gt (tgt := 14) hR dX4_isWithin_7 (by decide) (fun h2 => ?_) (fun h2 => ?_)
    · refine g_iconst_0 hR dX4_isWithin_14 ?_
      exact hE dX4_isWithin_15 (bI_f (fun q => Int32.not_le.mpr h2 q.2)) (rfl)
    · refine g_iconst_1 hR dX4_isWithin_10 ?_
      refine g_goto (tgt := 15) hR dX4_isWithin_11 (by decide) ?_
      exact hE dX4_isWithin_15 (bI_t ⟨Int32.not_lt.mp h1, Int32.not_lt.mp h2⟩) (rfl)
set_option maxRecDepth 100000 in
set_option maxHeartbeats 4000000 in
theorem ev_isPlace (v : Int32) (σ : Hp) : CtI yX4_isPlace wX4_isPlace 1 [.int v] σ (bI (0 ≤ v ∧ v ≤ 11)) (σ) := by
  refine CtI.of (by decide) (Nat.le_of_ble_eq_true rfl) (bI_nar _) rfl (fun G hR hE => ?_)
  refine g_il_0 hR dX4_isPlace_0 ?_
  refine g_iconst_0 hR dX4_isPlace_1 ?_
  refine g_bipush_11 hR dX4_isPlace_2 ?_
  refine g_csI hR ciX4_isWithin dX4_isPlace_4 ml_X4_66 (Nat.le_of_ble_eq_true rfl) (ev_isWithin v 0 11 σ) rfl (Nat.le_of_ble_eq_true rfl) rfl ?_
  exact hE dX4_isPlace_7 (rfl) (rfl)
set_option maxRecDepth 100000 in
set_option maxHeartbeats 4000000 in
theorem ev_isSpot (v : Int32) (σ : Hp) : CtI yX4_isSpot wX4_isSpot 1 [.int v] σ (bI (0 ≤ v ∧ v ≤ 9)) (σ) := by
  refine CtI.of (by decide) (Nat.le_of_ble_eq_true rfl) (bI_nar _) rfl (fun G hR hE => ?_)
  refine g_il_0 hR dX4_isSpot_0 ?_
  refine g_iconst_0 hR dX4_isSpot_1 ?_
  refine g_bipush_9 hR dX4_isSpot_2 ?_
  refine g_csI hR ciX4_isWithin dX4_isSpot_4 ml_X4_66 (Nat.le_of_ble_eq_true rfl) (ev_isWithin v 0 9 σ) rfl (Nat.le_of_ble_eq_true rfl) rfl ?_
  exact hE dX4_isSpot_7 (rfl) (rfl)
set_option maxRecDepth 100000 in
set_option maxHeartbeats 4000000 in
theorem ev_isKind (v : Int32) (σ : Hp) : CtI yX4_isKind wX4_isKind 1 [.int v] σ (bI (0 ≤ v ∧ v ≤ 6)) (σ) := by
  refine CtI.of (by decide) (Nat.le_of_ble_eq_true rfl) (bI_nar _) rfl (fun G hR hE => ?_)
  refine g_il_0 hR dX4_isKind_0 ?_
  refine g_iconst_0 hR dX4_isKind_1 ?_
  refine g_bipush_6 hR dX4_isKind_2 ?_
  refine g_csI hR ciX4_isWithin dX4_isKind_4 ml_X4_66 (Nat.le_of_ble_eq_true rfl) (ev_isWithin v 0 6 σ) rfl (Nat.le_of_ble_eq_true rfl) rfl ?_
  exact hE dX4_isKind_7 (rfl) (rfl)
set_option maxRecDepth 100000 in
set_option maxHeartbeats 4000000 in
theorem ev_isSheet (v : Int32) (σ : Hp) : CtI yX4_isSheet wX4_isSheet 1 [.int v] σ (bI (0 ≤ v ∧ v ≤ 3)) (σ) := by
  refine CtI.of (by decide) (Nat.le_of_ble_eq_true rfl) (bI_nar _) rfl (fun G hR hE => ?_)
  refine g_il_0 hR dX4_isSheet_0 ?_
  refine g_iconst_0 hR dX4_isSheet_1 ?_
  refine g_iconst_3 hR dX4_isSheet_2 ?_
  refine g_csI hR ciX4_isWithin dX4_isSheet_3 ml_X4_66 (Nat.le_of_ble_eq_true rfl) (ev_isWithin v 0 3 σ) rfl (Nat.le_of_ble_eq_true rfl) rfl ?_
  exact hE dX4_isSheet_6 (rfl) (rfl)
set_option maxRecDepth 100000 in
set_option maxHeartbeats 4000000 in
theorem ev_isFV (w : Nat) (v : Int32) (hw : w < 6) (σ : Hp) : CtI yX4_isFactValue wX4_isFactValue 1 [.int (nI w), .int v] σ (bI (flT w ≤ v ∧ v ≤ fmT w)) (σ) := by
  refine CtI.of (by decide) (Nat.le_of_ble_eq_true rfl) (bI_nar _) rfl (fun G hR hE => ?_)
  refine g_il_0 hR dX4_isFactValue_0 ?_
  refine g_iconst_0 hR dX4_isFactValue_1 ?_
  refine g_iconst_5 hR dX4_isFactValue_2 ?_
  refine g_csI hR ciX4_isWithin dX4_isFactValue_3 ml_X4_66 (Nat.le_of_ble_eq_true rfl) (ev_isWithin (nI w) 0 5 σ) rfl (Nat.le_of_ble_eq_true rfl) rfl ?_
  refine g_if_eq (tgt := 30) hR dX4_isFactValue_6 (by decide) (fun hc => absurd hc (bI_pos ⟨nI_pos' (by omega), nI_le (b := 5) (by omega) (by decide)⟩)) (fun _ => ?_)
  refine g_il_1 hR dX4_isFactValue_9 ?_
  refine g_gets (t := 41) hR z_FL fl_X4_247 dX4_isFactValue_10 ?_
  refine g_il_0 hR dX4_isFactValue_13 ?_
  refine g_roald hR w rfl (by decide) hw rfl dX4_isFactValue_14 ?_
  refine g_gets (t := 42) hR z_FM fl_X4_250 dX4_isFactValue_15 ?_
  refine g_il_0 hR dX4_isFactValue_18 ?_
  refine g_roald hR w rfl (by decide) hw rfl dX4_isFactValue_19 ?_
  refine g_csI hR ciX4_isWithin dX4_isFactValue_20 ml_X4_66 (Nat.le_of_ble_eq_true rfl) (ev_isWithin v (flT w) (fmT w) σ) rfl (Nat.le_of_ble_eq_true rfl) rfl ?_
  refine g_if_eq (tgt := 30) hR dX4_isFactValue_23 (by decide) (fun h1 => ?_) (fun h1 => ?_)
  · refine g_iconst_0 hR dX4_isFactValue_30 ?_
    exact hE dX4_isFactValue_31 (h1.symm) (rfl)
  · refine g_iconst_1 hR dX4_isFactValue_26 ?_
    refine g_goto (tgt := 31) hR dX4_isFactValue_27 (by decide) ?_
    exact hE dX4_isFactValue_31 (bI_n0 h1) (rfl)
set_option maxRecDepth 100000 in
set_option maxHeartbeats 4000000 in
theorem ev_isFV_out (w v : Int32) (hw : ¬ (0 ≤ w ∧ w ≤ 5)) (σ : Hp) : CtI yX4_isFactValue wX4_isFactValue 1 [.int w, .int v] σ (0) (σ) := by
  refine CtI.of (by decide) (Nat.le_of_ble_eq_true rfl) rfl rfl (fun G hR hE => ?_)
  refine g_il_0 hR dX4_isFactValue_0 ?_
  refine g_iconst_0 hR dX4_isFactValue_1 ?_
  refine g_iconst_5 hR dX4_isFactValue_2 ?_
  refine g_csI hR ciX4_isWithin dX4_isFactValue_3 ml_X4_66 (Nat.le_of_ble_eq_true rfl) (ev_isWithin w 0 5 σ) rfl (Nat.le_of_ble_eq_true rfl) rfl ?_
  refine g_if_eq (tgt := 30) hR dX4_isFactValue_6 (by decide) (fun _ => ?_) (fun hc => absurd (bI_0.mpr hw) hc)
  refine g_iconst_0 hR dX4_isFactValue_30 ?_
  exact hE dX4_isFactValue_31 (rfl) (rfl)
set_option maxRecDepth 100000 in
set_option maxHeartbeats 4000000 in
theorem ev_fact {k p w : Nat} (hk : k < 3) (hp : p < 8) (hw : w < 6) (σ : Hp) : CtI yX3_fact wX3_fact 0 [.ref (3 * k + 1), .int (nI p), .int (nI w)] σ (pf (σ k) p w) (σ) := by
  refine CtI.of (by decide) (Nat.le_of_ble_eq_true rfl) rfl rfl (fun G hR hE => ?_)
  refine g_il_1 hR dX3_fact_0 ?_
  refine g_if_lt (tgt := 20) hR dX3_fact_1 (by decide) (fun hc => absurd hc (nI_pos (by omega))) (fun _ => ?_)
  refine g_il_1 hR dX3_fact_4 ?_
  refine g_bipush_8 hR dX3_fact_5 ?_
  refine g_icmp_ge (tgt := 20) hR dX3_fact_7 (by decide) (fun hc => absurd hc (nI_ge (b := 8) hp (by decide))) (fun _ => ?_)
  refine g_il_2 hR dX3_fact_10 ?_
  refine g_if_lt (tgt := 20) hR dX3_fact_11 (by decide) (fun hc => absurd hc (nI_pos (by omega))) (fun _ => ?_)
  refine g_il_2 hR dX3_fact_14 ?_
  refine g_bipush_6 hR dX3_fact_15 ?_
  refine g_icmp_lt (tgt := 22) hR dX3_fact_17 (by decide) (fun _ => ?_) (fun hc => absurd (nI_lt (b := 6) hw (by decide)) hc)
  refine g_al_0 hR dX3_fact_22 ?_
  refine gf_X3_facts hR hk fl_X3_39 dX3_fact_23 ?_
  refine g_il_1 hR dX3_fact_26 ?_
  refine g_bipush_6 hR dX3_fact_27 ?_
  refine g_imul hR dX3_fact_29 ?_
  refine g_il_2 hR dX3_fact_30 ?_
  refine g_iadd hR dX3_fact_31 ?_
  refine ga_F hR hk (6 * p + w) (by omega) (ix p w) dX3_fact_32 ?_
  exact hE dX3_fact_33 (rfl) (rfl)
set_option maxRecDepth 100000 in
set_option maxHeartbeats 4000000 in
theorem ev_setFact {k p w : Nat} (hk : k < 3) (hp : p < 8) (hw : w < 6) (v : Int32) (σ : Hp) : CtV yX3_setFact wX3_setFact 0 [.ref (3 * k + 1), .int (nI p), .int (nI w), .int v] σ (bset σ k (pset (σ k) p w v)) := by
  refine CtV.of (by decide) (Nat.le_of_ble_eq_true rfl) rfl (fun G hR hE => ?_)
  refine g_il_1 hR dX3_setFact_0 ?_
  refine g_if_lt (tgt := 32) hR dX3_setFact_1 (by decide) (fun hc => absurd hc (nI_pos (by omega))) (fun _ => ?_)
  refine g_il_1 hR dX3_setFact_4 ?_
  refine g_bipush_8 hR dX3_setFact_5 ?_
  refine g_icmp_ge (tgt := 32) hR dX3_setFact_7 (by decide) (fun hc => absurd hc (nI_ge (b := 8) hp (by decide))) (fun _ => ?_)
  refine g_il_2 hR dX3_setFact_10 ?_
  refine g_if_lt (tgt := 32) hR dX3_setFact_11 (by decide) (fun hc => absurd hc (nI_pos (by omega))) (fun _ => ?_)
  refine g_il_2 hR dX3_setFact_14 ?_
  refine g_bipush_6 hR dX3_setFact_15 ?_
  refine g_icmp_ge (tgt := 32) hR dX3_setFact_17 (by decide) (fun hc => absurd hc (nI_ge (b := 6) hw (by decide))) (fun _ => ?_)
  refine g_al_0 hR dX3_setFact_20 ?_
  refine gf_X3_facts hR hk fl_X3_39 dX3_setFact_21 ?_
  refine g_il_1 hR dX3_setFact_24 ?_
  refine g_bipush_6 hR dX3_setFact_25 ?_
  refine g_imul hR dX3_setFact_27 ?_
  refine g_il_2 hR dX3_setFact_28 ?_
  refine g_iadd hR dX3_setFact_29 ?_
  refine g_il_3 hR dX3_setFact_30 ?_
  refine gs_F hR hk (6 * p + w) (by omega) (ix p w) dX3_setFact_31 ?_
  exact hE dX3_setFact_32 (rfl)
set_option maxRecDepth 100000 in
set_option maxHeartbeats 4000000 in
theorem ev_hasPiece {k : Nat} (hk : k < 3) (v : Int32) (σ : Hp) : CtI yX3_hasPiece wX3_hasPiece 0 [.ref (3 * k + 1), .int v] σ (bI (0 ≤ v ∧ v < σ k 1)) (σ) := by
  refine CtI.of (by decide) (Nat.le_of_ble_eq_true rfl) (bI_nar _) rfl (fun G hR hE => ?_)
  refine g_il_1 hR dX3_hasPiece_0 ?_
  refine g_if_lt (tgt := 16) hR dX3_hasPiece_1 (by decide) (fun h1 => ?_) (fun h1 => ?_)
  · refine g_iconst_0 hR dX3_hasPiece_16 ?_
    exact hE dX3_hasPiece_17 (bI_f (fun q => Int32.not_le.mpr h1 q.1)) (rfl)
  · refine g_il_1 hR dX3_hasPiece_4 ?_
    refine g_al_0 hR dX3_hasPiece_5 ?_
    refine gf_X3_pieceCount hR hk fl_X3_27 dX3_hasPiece_6 ?_
    refine g_icmp_ge (tgt := 16) hR dX3_hasPiece_9 (by decide) (fun h2 => ?_) (fun h2 => ?_)
    · refine g_iconst_0 hR dX3_hasPiece_16 ?_
      exact hE dX3_hasPiece_17 (bI_f (fun q => Int32.not_lt.mpr h2 q.2)) (rfl)
    · refine g_iconst_1 hR dX3_hasPiece_12 ?_
      refine g_goto (tgt := 17) hR dX3_hasPiece_13 (by decide) ?_
      exact hE dX3_hasPiece_17 (bI_t ⟨Int32.not_lt.mp h1, Int32.not_le.mp h2⟩) (rfl)
set_option maxRecDepth 100000 in
set_option maxHeartbeats 4000000 in
theorem ev_isFull {k : Nat} (hk : k < 3) (σ : Hp) : CtI yX3_isFull wX3_isFull 0 [.ref (3 * k + 1)] σ (bI (8 ≤ σ k 1)) (σ) := by
  refine CtI.of (by decide) (Nat.le_of_ble_eq_true rfl) (bI_nar _) rfl (fun G hR hE => ?_)
  refine g_al_0 hR dX3_isFull_0 ?_
  refine gf_X3_pieceCount hR hk fl_X3_27 dX3_isFull_1 ?_
  refine g_bipush_8 hR dX3_isFull_4 ?_
  refine g_icmp_lt (tgt := 13) hR dX3_isFull_6 (by decide) (fun h1 => ?_) (fun h1 => ?_)
  · refine g_iconst_0 hR dX3_isFull_13 ?_
    exact hE dX3_isFull_14 (bI_f (Int32.not_le.mpr h1)) (rfl)
  · refine g_iconst_1 hR dX3_isFull_9 ?_
    refine g_goto (tgt := 14) hR dX3_isFull_10 (by decide) ?_
    exact hE dX3_isFull_14 (bI_t (Int32.not_lt.mp h1)) (rfl)
