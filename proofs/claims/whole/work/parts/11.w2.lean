set_option maxRecDepth 100000 in
set_option maxHeartbeats 4000000 in
theorem ev_raise {k p w : Nat} (hk : k < 3) (hp : p < 8) (h3 : 3 ≤ w) (hw : w < 6) (σ : Hp) (hr : rg (pf (σ k) p w) (bnd w)) : CtV yX3_raiseFact wX3_raiseFact 2 [.ref (3 * k + 1), .int (nI p), .int (nI w)] σ (bset σ k (pset (σ k) p w (heldF (pf (σ k) p w + 1) (fmT w)))) := by
  refine CtV.of (by decide) (Nat.le_of_ble_eq_true rfl) rfl (fun G hR hE => ?_)
  have hfl : flT w = 0 := by rcases (show w = 3 ∨ w = 4 ∨ w = 5 by omega) with rfl | rfl | rfl <;> rfl
  have hb := bnd_le w hw
  refine g_il_2 hR dX3_raiseFact_0 ?_
  refine g_al_0 hR dX3_raiseFact_1 ?_
  refine g_il_1 hR dX3_raiseFact_2 ?_
  refine g_il_2 hR dX3_raiseFact_3 ?_
  refine g_cvI hR ciX3_fact dX3_raiseFact_4 ml_X3_56 (Nat.le_of_ble_eq_true rfl) (by omega) (lay_w hk) rfl rfl (ev_fact hk hp hw σ) rfl (Nat.le_of_ble_eq_true rfl) rfl ?_
  refine g_iconst_1 hR dX3_raiseFact_7 ?_
  refine g_iadd hR dX3_raiseFact_8 ?_
  refine g_cnI hR ciX4_isFactValue dX3_raiseFact_9 nw_X3_60 (Nat.le_of_ble_eq_true rfl) (ev_isFV w (pf (σ k) p w + 1) hw σ) rfl (Nat.le_of_ble_eq_true rfl) rfl ?_
  refine g_if_eq (tgt := 29) hR dX3_raiseFact_12 (by decide) (fun h1 => ?_) (fun h1 => ?_)
  · exact hE dX3_raiseFact_29 (by rw [held_stay hr (fmT_bnd hw) (by omega) (by rw [← hfl]; exact bI_0.mp h1), pset_same, bset_id])
  · refine g_al_0 hR dX3_raiseFact_15 ?_
    refine g_il_1 hR dX3_raiseFact_16 ?_
    refine g_il_2 hR dX3_raiseFact_17 ?_
    refine g_al_0 hR dX3_raiseFact_18 ?_
    refine g_il_1 hR dX3_raiseFact_19 ?_
    refine g_il_2 hR dX3_raiseFact_20 ?_
    refine g_cvI hR ciX3_fact dX3_raiseFact_21 ml_X3_56 (Nat.le_of_ble_eq_true rfl) (by omega) (lay_w hk) rfl rfl (ev_fact hk hp hw σ) rfl (Nat.le_of_ble_eq_true rfl) rfl ?_
    refine g_iconst_1 hR dX3_raiseFact_24 ?_
    refine g_iadd hR dX3_raiseFact_25 ?_
    refine g_cvV hR ciX3_setFact dX3_raiseFact_26 ml_X3_64 (Nat.le_of_ble_eq_true rfl) (by omega) (lay_w hk) rfl rfl (ev_setFact hk hp hw (pf (σ k) p w + 1) σ) rfl (Nat.le_of_ble_eq_true rfl) rfl ?_
    exact hE dX3_raiseFact_29 (by rw [held_go (bI_no h1).2])
set_option maxRecDepth 100000 in
set_option maxHeartbeats 4000000 in
theorem ev_becomeBall {k j : Nat} (hk : k < 3) (hj : j < 3) (hn : j ≠ k) (σ : Hp) : CtV yX3_becomeBall wX3_becomeBall 1 [.ref (3 * k + 1), .ref (3 * j + 1)] σ (bset σ k (cpB (σ j) (σ k))) := by
  refine CtV.of (by decide) (Nat.le_of_ble_eq_true rfl) rfl (fun G hR hE => ?_)
  have e : ∀ (τ : Hp) (i : Nat) (v : Int32) (i' : Nat), hset τ k i v j i' = τ j i' := fun τ i v i' => by rw [hset_at, if_neg (fun q => hn q.1)]
  refine g_al_0 hR dX3_becomeBall_0 ?_
  refine g_al_1 hR dX3_becomeBall_1 ?_
  refine gf_X3_at hR hj fl_X3_9 dX3_becomeBall_2 ?_
  refine pf_X3_at hR hk fl_X3_9 dX3_becomeBall_5 ?_
  refine g_al_0 hR dX3_becomeBall_8 ?_
  refine g_al_1 hR dX3_becomeBall_9 ?_
  refine gf_X3_drag hR hj fl_X3_15 dX3_becomeBall_10 ?_
  refine pf_X3_drag hR hk fl_X3_15 dX3_becomeBall_13 ?_
  refine g_al_0 hR dX3_becomeBall_16 ?_
  refine g_al_1 hR dX3_becomeBall_17 ?_
  refine gf_X3_day hR hj fl_X3_18 dX3_becomeBall_18 ?_
  refine pf_X3_day hR hk fl_X3_18 dX3_becomeBall_21 ?_
  refine g_al_0 hR dX3_becomeBall_24 ?_
  refine g_al_1 hR dX3_becomeBall_25 ?_
  refine gf_X3_wentOff hR hj fl_X3_21 dX3_becomeBall_26 ?_
  refine pf_X3_wentOff hR hk fl_X3_21 dX3_becomeBall_29 ?_
  refine g_al_0 hR dX3_becomeBall_32 ?_
  refine g_al_1 hR dX3_becomeBall_33 ?_
  refine gf_X3_pieceCount hR hj fl_X3_27 dX3_becomeBall_34 ?_
  refine pf_X3_pieceCount hR hk fl_X3_27 dX3_becomeBall_37 ?_
  refine g_al_0 hR dX3_becomeBall_40 ?_
  refine g_iconst_0 hR dX3_becomeBall_41 ?_
  refine pf_X3_loose hR hk fl_X3_30 dX3_becomeBall_42 ?_
  refine g_al_1 hR dX3_becomeBall_45 ?_
  refine gf_X3_facts hR hj fl_X3_39 dX3_becomeBall_46 ?_
  refine g_iconst_0 hR dX3_becomeBall_49 ?_
  refine g_al_0 hR dX3_becomeBall_50 ?_
  refine gf_X3_facts hR hk fl_X3_39 dX3_becomeBall_51 ?_
  refine g_iconst_0 hR dX3_becomeBall_54 ?_
  refine g_al_0 hR dX3_becomeBall_55 ?_
  refine gf_X3_facts hR hk fl_X3_39 dX3_becomeBall_56 ?_
  refine g_alen hR (by omega) (lay_f hk) dX3_becomeBall_59 ?_
  refine g_cpy hR 0 0 48 (Nat.le_of_ble_eq_true rfl) (by omega) (by omega) (lay_f hj) (lay_f hk) (by decide) (by decide) (by decide) (by decide) rfl rfl rfl ml_X3_46 dX3_becomeBall_60 (Nat.le_of_ble_eq_true rfl) ?_
  exact hE dX3_becomeBall_63 (by simp only [e]; exact cpB_end hn rfl)
set_option maxRecDepth 100000 in
set_option maxHeartbeats 4000000 in
theorem ev_becomeWhole {k j : Nat} (hk : k < 3) (hj : j < 3) (hn : j ≠ k) (σ : Hp) : CtV yX3_becomeWhole wX3_becomeWhole 2 [.ref (3 * k + 1), .ref (3 * j + 1)] σ (bset σ k (cpW (σ j) (σ k))) := by
  refine CtV.of (by decide) (Nat.le_of_ble_eq_true rfl) rfl (fun G hR hE => ?_)
  refine g_al_0 hR dX3_becomeWhole_0 ?_
  refine g_al_1 hR dX3_becomeWhole_1 ?_
  refine g_cvV hR ciX3_becomeBall dX3_becomeWhole_2 ml_X3_52 (Nat.le_of_ble_eq_true rfl) (by omega) (lay_w hk) rfl rfl (ev_becomeBall hk hj hn σ) rfl (Nat.le_of_ble_eq_true rfl) rfl ?_
  refine g_al_0 hR dX3_becomeWhole_5 ?_
  refine g_al_1 hR dX3_becomeWhole_6 ?_
  refine gf_X3_z hR hj fl_X3_24 dX3_becomeWhole_7 ?_
  refine pf_X3_z hR hk fl_X3_24 dX3_becomeWhole_10 ?_
  refine g_al_1 hR dX3_becomeWhole_13 ?_
  refine gf_X3_spots hR hj fl_X3_43 dX3_becomeWhole_14 ?_
  refine g_iconst_0 hR dX3_becomeWhole_17 ?_
  refine g_al_0 hR dX3_becomeWhole_18 ?_
  refine gf_X3_spots hR hk fl_X3_43 dX3_becomeWhole_19 ?_
  refine g_iconst_0 hR dX3_becomeWhole_22 ?_
  refine g_bipush_10 hR dX3_becomeWhole_23 ?_
  refine g_cpy hR 0 0 10 (Nat.le_of_ble_eq_true rfl) (by omega) (by omega) (lay_s hj) (lay_s hk) (by decide) (by decide) (by decide) (by decide) rfl rfl rfl ml_X3_46 dX3_becomeWhole_25 (Nat.le_of_ble_eq_true rfl) ?_
  exact hE dX3_becomeWhole_28 (cpW_end hn)
set_option maxRecDepth 100000 in
set_option maxHeartbeats 4000000 in
theorem ev_spot {k i : Nat} (hk : k < 3) (hi : i < 10) (σ : Hp) : CtI yX3_spot wX3_spot 2 [.ref (3 * k + 1), .int (nI i)] σ (σ k (54 + i)) (σ) := by
  refine CtI.of (by decide) (Nat.le_of_ble_eq_true rfl) rfl rfl (fun G hR hE => ?_)
  refine g_il_1 hR dX3_spot_0 ?_
  refine g_cnI hR ciX4_isSpot dX3_spot_1 nw_X3_68 (Nat.le_of_ble_eq_true rfl) (ev_isSpot (nI i) σ) rfl (Nat.le_of_ble_eq_true rfl) rfl ?_
  refine g_if_eq (tgt := 16) hR dX3_spot_4 (by decide) (fun hc => absurd hc (bI_pos ⟨nI_pos' (by omega), nI_le (b := 9) (by omega) (by decide)⟩)) (fun _ => ?_)
  refine g_al_0 hR dX3_spot_7 ?_
  refine gf_X3_spots hR hk fl_X3_43 dX3_spot_8 ?_
  refine g_il_1 hR dX3_spot_11 ?_
  refine ga_S hR hk i hi rfl dX3_spot_12 ?_
  refine g_goto (tgt := 17) hR dX3_spot_13 (by decide) ?_
  exact hE dX3_spot_17 (rfl) (rfl)
set_option maxRecDepth 100000 in
set_option maxHeartbeats 4000000 in
theorem ev_setSpot {k i : Nat} (hk : k < 3) (hi : i < 10) (v : Int32) (σ : Hp) : CtV yX3_setSpot wX3_setSpot 2 [.ref (3 * k + 1), .int (nI i), .int v] σ (bset σ k (upd (σ k) (54 + i) v)) := by
  refine CtV.of (by decide) (Nat.le_of_ble_eq_true rfl) rfl (fun G hR hE => ?_)
  refine g_il_1 hR dX3_setSpot_0 ?_
  refine g_cnI hR ciX4_isSpot dX3_setSpot_1 nw_X3_68 (Nat.le_of_ble_eq_true rfl) (ev_isSpot (nI i) σ) rfl (Nat.le_of_ble_eq_true rfl) rfl ?_
  refine g_if_eq (tgt := 14) hR dX3_setSpot_4 (by decide) (fun hc => absurd hc (bI_pos ⟨nI_pos' (by omega), nI_le (b := 9) (by omega) (by decide)⟩)) (fun _ => ?_)
  refine g_al_0 hR dX3_setSpot_7 ?_
  refine gf_X3_spots hR hk fl_X3_43 dX3_setSpot_8 ?_
  refine g_il_1 hR dX3_setSpot_11 ?_
  refine g_il_2 hR dX3_setSpot_12 ?_
  refine gs_S hR hk i hi rfl dX3_setSpot_13 ?_
  exact hE dX3_setSpot_14 (rfl)
set_option maxRecDepth 100000 in
set_option maxHeartbeats 4000000 in
theorem ev_spotsHolding {k : Nat} (hk : k < 3) (σ : Hp) : CtI yX3_spotsHolding wX3_spotsHolding 0 [.ref (3 * k + 1)] σ (nI (cntN (fun i => decide (¬ σ k (54 + i) = -1)) 10)) (σ) := by
  refine CtI.of (by decide) (Nat.le_of_ble_eq_true rfl) rfl rfl (fun G hR hE => ?_)
  have lp : ∀ d j, j + d = 10 → G 4 [some (.ref (3 * k + 1)), some (.int (nI (cntN (fun i => decide (¬ σ k (54 + i) = -1)) j))), some (.int (nI j))] [] σ := by
    intro d
    induction d with
    | zero =>
      intro j hj
      obtain rfl : j = 10 := by omega
      refine g_il_2 hR dX3_spotsHolding_4 ?_
      refine g_bipush_10 hR dX3_spotsHolding_5 ?_
      refine g_icmp_ge (tgt := 29) hR dX3_spotsHolding_7 (by decide) (fun _ => ?_) (fun hc => absurd (Int32.le_refl _) hc)
      refine g_il_1 hR dX3_spotsHolding_29 ?_
      exact hE dX3_spotsHolding_30 (rfl) (rfl)
    | succ d ih =>
      intro j hj
      refine g_il_2 hR dX3_spotsHolding_4 ?_
      refine g_bipush_10 hR dX3_spotsHolding_5 ?_
      refine g_icmp_ge (tgt := 29) hR dX3_spotsHolding_7 (by decide) (fun hc => absurd hc (nI_ge (b := 10) (by omega) (by decide))) (fun _ => ?_)
      refine g_al_0 hR dX3_spotsHolding_10 ?_
      refine gf_X3_spots hR hk fl_X3_43 dX3_spotsHolding_11 ?_
      refine g_il_2 hR dX3_spotsHolding_14 ?_
      refine ga_S hR hk j (by omega) rfl dX3_spotsHolding_15 ?_
      refine g_iconst_m1 hR dX3_spotsHolding_16 ?_
      refine g_icmp_eq (tgt := 23) hR dX3_spotsHolding_17 (by decide) (fun h1 => ?_) (fun h1 => ?_)
      · refine g_inc_2 hR dX3_spotsHolding_23 trivial ?_
        refine g_goto (tgt := 4) hR dX3_spotsHolding_26 (by decide) ?_
        have := ih (j + 1) (by omega)
        rw [cntN_f (by simp [h1])] at this
        exact this
      · refine g_inc_1 hR dX3_spotsHolding_20 trivial ?_
        refine g_inc_2 hR dX3_spotsHolding_23 trivial ?_
        refine g_goto (tgt := 4) hR dX3_spotsHolding_26 (by decide) ?_
        have := ih (j + 1) (by omega)
        rw [cntN_t (by simp [h1])] at this
        exact this
  refine g_iconst_0 hR dX3_spotsHolding_0 ?_
  refine g_is_1 hR dX3_spotsHolding_1 trivial ?_
  refine g_iconst_0 hR dX3_spotsHolding_2 ?_
  refine g_is_2 hR dX3_spotsHolding_3 trivial ?_
  exact lp 10 0 rfl
set_option maxRecDepth 100000 in
set_option maxHeartbeats 4000000 in
theorem ev_addPiece {k n : Nat} (hk : k < 3) (hn8 : n < 8) (kind place : Int32) (σ : Hp) (hn : σ k 1 = nI n) : CtI yX3_addPiece wX3_addPiece 1 [.ref (3 * k + 1), .int kind, .int place] σ (nI n) (bset σ k (addS (σ k) n kind place)) := by
  refine CtI.of (by decide) (Nat.le_of_ble_eq_true rfl) rfl rfl (fun G hR hE => ?_)
  refine g_al_0 hR dX3_addPiece_0 ?_
  refine gf_X3_pieceCount hR hk fl_X3_27 dX3_addPiece_1 ?_
  refine g_top hn ?_
  refine g_is_3 hR dX3_addPiece_4 trivial ?_
  refine g_al_0 hR dX3_addPiece_5 ?_
  refine g_dup hR dX3_addPiece_6 rfl ?_
  refine gf_X3_pieceCount hR hk fl_X3_27 dX3_addPiece_7 ?_
  refine g_iconst_1 hR dX3_addPiece_10 ?_
  refine g_iadd hR dX3_addPiece_11 ?_
  refine pf_X3_pieceCount hR hk fl_X3_27 dX3_addPiece_12 ?_
  refine g_al_0 hR dX3_addPiece_15 ?_
  refine g_il_3 hR dX3_addPiece_16 ?_
  refine g_iconst_0 hR dX3_addPiece_17 ?_
  refine g_il_1 hR dX3_addPiece_18 ?_
  refine g_cvV hR ciX3_setFact dX3_addPiece_19 ml_X3_64 (Nat.le_of_ble_eq_true rfl) (by omega) (lay_w hk) rfl rfl (ev_setFact hk hn8 (w := 0) (by decide) kind _) rfl (Nat.le_of_ble_eq_true rfl) rfl ?_
  refine g_al_0 hR dX3_addPiece_22 ?_
  refine g_il_3 hR dX3_addPiece_23 ?_
  refine g_iconst_1 hR dX3_addPiece_24 ?_
  refine g_il_2 hR dX3_addPiece_25 ?_
  refine g_cvV hR ciX3_setFact dX3_addPiece_26 ml_X3_64 (Nat.le_of_ble_eq_true rfl) (by omega) (lay_w hk) rfl rfl (ev_setFact hk hn8 (w := 1) (by decide) place _) rfl (Nat.le_of_ble_eq_true rfl) rfl ?_
  refine g_al_0 hR dX3_addPiece_29 ?_
  refine g_il_3 hR dX3_addPiece_30 ?_
  refine g_iconst_2 hR dX3_addPiece_31 ?_
  refine g_bipush_10 hR dX3_addPiece_32 ?_
  refine g_cvV hR ciX3_setFact dX3_addPiece_34 ml_X3_64 (Nat.le_of_ble_eq_true rfl) (by omega) (lay_w hk) rfl rfl (ev_setFact hk hn8 (w := 2) (by decide) 10 _) rfl (Nat.le_of_ble_eq_true rfl) rfl ?_
  refine g_al_0 hR dX3_addPiece_37 ?_
  refine g_il_3 hR dX3_addPiece_38 ?_
  refine g_iconst_3 hR dX3_addPiece_39 ?_
  refine g_iconst_0 hR dX3_addPiece_40 ?_
  refine g_cvV hR ciX3_setFact dX3_addPiece_41 ml_X3_64 (Nat.le_of_ble_eq_true rfl) (by omega) (lay_w hk) rfl rfl (ev_setFact hk hn8 (w := 3) (by decide) 0 _) rfl (Nat.le_of_ble_eq_true rfl) rfl ?_
  refine g_al_0 hR dX3_addPiece_44 ?_
  refine g_il_3 hR dX3_addPiece_45 ?_
  refine g_iconst_4 hR dX3_addPiece_46 ?_
  refine g_iconst_0 hR dX3_addPiece_47 ?_
  refine g_cvV hR ciX3_setFact dX3_addPiece_48 ml_X3_64 (Nat.le_of_ble_eq_true rfl) (by omega) (lay_w hk) rfl rfl (ev_setFact hk hn8 (w := 4) (by decide) 0 _) rfl (Nat.le_of_ble_eq_true rfl) rfl ?_
  refine g_al_0 hR dX3_addPiece_51 ?_
  refine g_il_3 hR dX3_addPiece_52 ?_
  refine g_iconst_5 hR dX3_addPiece_53 ?_
  refine g_iconst_0 hR dX3_addPiece_54 ?_
  refine g_cvV hR ciX3_setFact dX3_addPiece_55 ml_X3_64 (Nat.le_of_ble_eq_true rfl) (by omega) (lay_w hk) rfl rfl (ev_setFact hk hn8 (w := 5) (by decide) 0 _) rfl (Nat.le_of_ble_eq_true rfl) rfl ?_
  refine g_il_3 hR dX3_addPiece_58 ?_
  exact hE dX3_addPiece_59 (rfl) (by simp only [hset_e, bset_s, bset_bset]; rfl)
set_option maxRecDepth 100000 in
set_option maxHeartbeats 4000000 in
theorem ev_emptySpots {k : Nat} (hk : k < 3) (v : Int32) (σ : Hp) : CtV yX3_emptySpotsOf wX3_emptySpotsOf 0 [.ref (3 * k + 1), .int v] σ (bset σ k (espN (σ k) v 10)) := by
  refine CtV.of (by decide) (Nat.le_of_ble_eq_true rfl) rfl (fun G hR hE => ?_)
  have lp : ∀ d j, j + d = 10 → G 2 [some (.ref (3 * k + 1)), some (.int v), some (.int (nI j))] [] (bset σ k (espN (σ k) v j)) := by
    intro d
    induction d with
    | zero =>
      intro j hj
      obtain rfl : j = 10 := by omega
      refine g_il_2 hR dX3_emptySpotsOf_2 ?_
      refine g_bipush_10 hR dX3_emptySpotsOf_3 ?_
      refine g_icmp_ge (tgt := 31) hR dX3_emptySpotsOf_5 (by decide) (fun _ => ?_) (fun hc => absurd (Int32.le_refl _) hc)
      exact hE dX3_emptySpotsOf_31 (rfl)
    | succ d ih =>
      intro j hj
      have e0 := ih (j + 1) (by omega)
      refine g_il_2 hR dX3_emptySpotsOf_2 ?_
      refine g_bipush_10 hR dX3_emptySpotsOf_3 ?_
      refine g_icmp_ge (tgt := 31) hR dX3_emptySpotsOf_5 (by decide) (fun hc => absurd hc (nI_ge (b := 10) (by omega) (by decide))) (fun _ => ?_)
      refine g_al_0 hR dX3_emptySpotsOf_8 ?_
      refine gf_X3_spots hR hk fl_X3_43 dX3_emptySpotsOf_9 ?_
      refine g_il_2 hR dX3_emptySpotsOf_12 ?_
      refine ga_S hR hk j (by omega) rfl dX3_emptySpotsOf_13 ?_
      refine g_il_1 hR dX3_emptySpotsOf_14 ?_
      refine g_icmp_ne (tgt := 25) hR dX3_emptySpotsOf_15 (by decide) (fun h1 => ?_) (fun h1 => ?_)
      · refine g_inc_2 hR dX3_emptySpotsOf_25 trivial ?_
        refine g_goto (tgt := 2) hR dX3_emptySpotsOf_28 (by decide) ?_
        rw [bset_s] at h1
        rw [espN, esp1, if_neg h1] at e0
        exact e0
      · refine g_al_0 hR dX3_emptySpotsOf_18 ?_
        refine gf_X3_spots hR hk fl_X3_43 dX3_emptySpotsOf_19 ?_
        refine g_il_2 hR dX3_emptySpotsOf_22 ?_
        refine g_iconst_m1 hR dX3_emptySpotsOf_23 ?_
        refine gs_S hR hk j (by omega) rfl dX3_emptySpotsOf_24 ?_
        refine g_inc_2 hR dX3_emptySpotsOf_25 trivial ?_
        refine g_goto (tgt := 2) hR dX3_emptySpotsOf_28 (by decide) ?_
        rw [bset_s] at h1
        rw [espN, esp1, if_pos h1] at e0
        rw [hset_e, bset_s, bset_bset]
        exact e0
  refine g_iconst_0 hR dX3_emptySpotsOf_0 ?_
  refine g_is_2 hR dX3_emptySpotsOf_1 trivial ?_
  refine g_eq (τ := bset σ k (espN (σ k) v 0)) (bset_id σ k).symm ?_
  exact lp 10 0 rfl
set_option maxRecDepth 100000 in
set_option maxHeartbeats 4000000 in
theorem ev_cut {k n : Nat} (hk : k < 3) (hn8 : n < 8) (v : Int32) (σ : Hp) (hn : σ k 1 = nI (n + 1)) : CtI yX3_cutOutermost wX3_cutOutermost 1 [.ref (3 * k + 1), .int v] σ (pf (σ k) n 2) (bset σ k (cutS (σ k) n v)) := by
  refine CtI.of (by decide) (Nat.le_of_ble_eq_true rfl) rfl rfl (fun G hR hE => ?_)
  refine g_al_0 hR dX3_cutOutermost_0 ?_
  refine gf_X3_pieceCount hR hk fl_X3_27 dX3_cutOutermost_1 ?_
  refine g_top hn ?_
  refine g_iconst_1 hR dX3_cutOutermost_4 ?_
  refine g_isub hR dX3_cutOutermost_5 ?_
  refine g_top (nI_pred n) ?_
  refine g_is_2 hR dX3_cutOutermost_6 trivial ?_
  refine g_al_0 hR dX3_cutOutermost_7 ?_
  refine g_il_2 hR dX3_cutOutermost_8 ?_
  refine g_iconst_2 hR dX3_cutOutermost_9 ?_
  refine g_cvI hR ciX3_fact dX3_cutOutermost_10 ml_X3_56 (Nat.le_of_ble_eq_true rfl) (by omega) (lay_w hk) rfl rfl (ev_fact hk hn8 (w := 2) (by decide) σ) rfl (Nat.le_of_ble_eq_true rfl) rfl ?_
  refine g_is_3 hR dX3_cutOutermost_13 trivial ?_
  refine g_il_3 hR dX3_cutOutermost_14 ?_
  refine g_il_1 hR dX3_cutOutermost_15 ?_
  refine g_icmp_le (tgt := 31) hR dX3_cutOutermost_16 (by decide) (fun h1 => ?_) (fun h1 => ?_)
  · refine g_al_0 hR dX3_cutOutermost_31 ?_
    refine g_il_2 hR dX3_cutOutermost_32 ?_
    refine pf_X3_pieceCount hR hk fl_X3_27 dX3_cutOutermost_33 ?_
    refine g_al_0 hR dX3_cutOutermost_36 ?_
    refine g_il_2 hR dX3_cutOutermost_37 ?_
    refine g_cvV hR ciX3_emptySpotsOf dX3_cutOutermost_38 ml_X3_72 (Nat.le_of_ble_eq_true rfl) (by omega) (lay_w hk) rfl rfl (ev_emptySpots hk (nI n) _) rfl (Nat.le_of_ble_eq_true rfl) rfl ?_
    refine g_il_3 hR dX3_cutOutermost_41 ?_
    exact hE dX3_cutOutermost_42 (rfl) (by simp only [hset_e, bset_s, bset_bset]; unfold cutS; rw [if_neg (Int32.not_lt.mpr h1)])
  · refine g_al_0 hR dX3_cutOutermost_19 ?_
    refine g_il_2 hR dX3_cutOutermost_20 ?_
    refine g_iconst_2 hR dX3_cutOutermost_21 ?_
    refine g_il_3 hR dX3_cutOutermost_22 ?_
    refine g_il_1 hR dX3_cutOutermost_23 ?_
    refine g_isub hR dX3_cutOutermost_24 ?_
    refine g_cvV hR ciX3_setFact dX3_cutOutermost_25 ml_X3_64 (Nat.le_of_ble_eq_true rfl) (by omega) (lay_w hk) rfl rfl (ev_setFact hk hn8 (w := 2) (by decide) (pf (σ k) n 2 - v) σ) rfl (Nat.le_of_ble_eq_true rfl) rfl ?_
    refine g_goto (tgt := 41) hR dX3_cutOutermost_28 (by decide) ?_
    refine g_il_3 hR dX3_cutOutermost_41 ?_
    exact hE dX3_cutOutermost_42 (rfl) (by unfold cutS; rw [if_pos (Int32.not_le.mp h1)])
set_option maxRecDepth 100000 in
set_option maxHeartbeats 4000000 in
theorem ev_nextDraw {k : Nat} (hk : k < 3) (σ : Hp) : CtI yX3_nextDraw wX3_nextDraw 0 [.ref (3 * k + 1)] σ (drwV (σ k 5)) (bset σ k (upd (σ k) 5 (drwZ (σ k 5)))) := by
  refine CtI.of (by decide) (Nat.le_of_ble_eq_true rfl) rfl rfl (fun G hR hE => ?_)
  refine g_al_0 hR dX3_nextDraw_0 ?_
  refine g_al_0 hR dX3_nextDraw_1 ?_
  refine gf_X3_z hR hk fl_X3_24 dX3_nextDraw_2 ?_
  refine g_ldc hR dX3_nextDraw_5 kc_X3_76 ?_
  refine g_imul hR dX3_nextDraw_7 ?_
  refine g_sipush_12345 hR dX3_nextDraw_8 ?_
  refine g_iadd hR dX3_nextDraw_11 ?_
  refine pf_X3_z hR hk fl_X3_24 dX3_nextDraw_12 ?_
  refine g_al_0 hR dX3_nextDraw_15 ?_
  refine gf_X3_z hR hk fl_X3_24 dX3_nextDraw_16 ?_
  refine g_bipush_8 hR dX3_nextDraw_19 ?_
  refine g_iushr hR dX3_nextDraw_21 ?_
  exact hE dX3_nextDraw_22 (by simp only [hset_e, bset_s, upd_s]; rfl) (rfl)
