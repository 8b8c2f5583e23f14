set_option maxRecDepth 100000 in
set_option maxHeartbeats 4000000 in
theorem ev_bitsOf {s : Nat} (hs : s < 4) (σ : Hp) : CtI yX0_bitsOf wX0_bitsOf 2 [.ref 13, .int (nI s)] σ (σ 11 s) (σ) := by
  refine CtI.of (by decide) (Nat.le_of_ble_eq_true rfl) rfl rfl (fun G hR hE => ?_)
  refine g_il_1 hR dX0_bitsOf_0 ?_
  refine g_cnI hR ciX4_isSheet dX0_bitsOf_1 nw_X0_21 (Nat.le_of_ble_eq_true rfl) (ev_isSheet (nI s) σ) rfl (Nat.le_of_ble_eq_true rfl) rfl ?_
  refine g_if_eq (tgt := 16) hR dX0_bitsOf_4 (by decide) (fun hc => absurd hc (bI_pos ⟨nI_pos' (by omega), nI_le (b := 3) (by omega) (by decide)⟩)) (fun _ => ?_)
  refine g_al_0 hR dX0_bitsOf_7 ?_
  refine gf_X0_bits hR fl_X0_9 dX0_bitsOf_8 ?_
  refine g_il_1 hR dX0_bitsOf_11 ?_
  refine ga_14 hR s hs rfl dX0_bitsOf_12 ?_
  refine g_goto (tgt := 17) hR dX0_bitsOf_13 (by decide) ?_
  exact hE dX0_bitsOf_17 (rfl) (rfl)
set_option maxRecDepth 100000 in
set_option maxHeartbeats 4000000 in
theorem ev_sizeOf {s : Nat} (hs : s < 4) (σ : Hp) : CtI yX0_sizeOf wX0_sizeOf 2 [.ref 13, .int (nI s)] σ (σ 11 (4 + s)) (σ) := by
  refine CtI.of (by decide) (Nat.le_of_ble_eq_true rfl) rfl rfl (fun G hR hE => ?_)
  refine g_il_1 hR dX0_sizeOf_0 ?_
  refine g_cnI hR ciX4_isSheet dX0_sizeOf_1 nw_X0_21 (Nat.le_of_ble_eq_true rfl) (ev_isSheet (nI s) σ) rfl (Nat.le_of_ble_eq_true rfl) rfl ?_
  refine g_if_eq (tgt := 16) hR dX0_sizeOf_4 (by decide) (fun hc => absurd hc (bI_pos ⟨nI_pos' (by omega), nI_le (b := 3) (by omega) (by decide)⟩)) (fun _ => ?_)
  refine g_al_0 hR dX0_sizeOf_7 ?_
  refine gf_X0_sizes hR fl_X0_15 dX0_sizeOf_8 ?_
  refine g_il_1 hR dX0_sizeOf_11 ?_
  refine ga_15 hR s hs rfl dX0_sizeOf_12 ?_
  refine g_goto (tgt := 17) hR dX0_sizeOf_13 (by decide) ?_
  exact hE dX0_sizeOf_17 (rfl) (rfl)
set_option maxRecDepth 100000 in
set_option maxHeartbeats 4000000 in
theorem ev_isMissing {s : Nat} (hs : s < 4) (σ : Hp) : CtI yX0_isMissing wX0_isMissing 3 [.ref 13, .int (nI s)] σ (bI (σ 11 s = 0)) (σ) := by
  refine CtI.of (by decide) (Nat.le_of_ble_eq_true rfl) (bI_nar _) rfl (fun G hR hE => ?_)
  refine g_al_0 hR dX0_isMissing_0 ?_
  refine g_il_1 hR dX0_isMissing_1 ?_
  refine g_cvI hR ciX0_bitsOf dX0_isMissing_2 ml_X0_25 (Nat.le_of_ble_eq_true rfl) (by decide) rfl rfl rfl (ev_bitsOf hs σ) rfl (Nat.le_of_ble_eq_true rfl) rfl ?_
  refine g_if_ne (tgt := 12) hR dX0_isMissing_5 (by decide) (fun h => ?_) (fun h => ?_)
  · refine g_iconst_0 hR dX0_isMissing_12 ?_
    exact hE dX0_isMissing_13 (bI_f h) (rfl)
  · refine g_iconst_1 hR dX0_isMissing_8 ?_
    refine g_goto (tgt := 13) hR dX0_isMissing_9 (by decide) ?_
    exact hE dX0_isMissing_13 (bI_t h) (rfl)
set_option maxRecDepth 100000 in
set_option maxHeartbeats 4000000 in
theorem ev_hasRange {s z : Nat} (hs : s < 4) (hz : z ≤ 40) (f n : Int32) (σ : Hp) (hT : σ 11 (4 + s) = nI z) : CtI yX0_hasRange wX0_hasRange 3 [.ref 13, .int (nI s), .int f, .int n] σ (rgB f n z) (σ) := by
  refine CtI.of (by decide) (Nat.le_of_ble_eq_true rfl) (rgB_nar _ _ _) rfl (fun G hR hE => ?_)
  refine g_bipush_40 hR dX0_hasRange_0 ?_
  refine g_al_0 hR dX0_hasRange_2 ?_
  refine g_il_1 hR dX0_hasRange_3 ?_
  refine g_cvI hR ciX0_sizeOf dX0_hasRange_4 ml_X0_37 (Nat.le_of_ble_eq_true rfl) (by decide) rfl rfl rfl ((ev_sizeOf hs σ).weak hT) rfl (Nat.le_of_ble_eq_true rfl) rfl ?_
  refine g_min hR (Nat.le_of_ble_eq_true rfl) ml_X0_40 dX0_hasRange_7 (Nat.le_of_ble_eq_true rfl) ?_
  refine g_top (min40 hz) ?_
  have bad : ¬ (0 ≤ f ∧ 0 ≤ n ∧ n ≤ nI z ∧ f ≤ nI z - n) → G 38 [some (.ref 13), some (.int (nI s)), some (.int f), some (.int n), some (.int (nI z))] [] σ := by
    intro h
    refine g_iconst_0 hR dX0_hasRange_38 ?_
    exact hE dX0_hasRange_39 ((if_neg h).symm) (rfl)
  refine g_is_4 hR dX0_hasRange_10 trivial ?_
  refine g_il_2 hR dX0_hasRange_12 ?_
  refine g_if_lt (tgt := 38) hR dX0_hasRange_13 (by decide) (fun h1 => ?_) (fun h1 => ?_)
  · exact bad (fun q => Int32.not_le.mpr h1 q.1)
  · refine g_il_3 hR dX0_hasRange_16 ?_
    refine g_if_lt (tgt := 38) hR dX0_hasRange_17 (by decide) (fun h2 => ?_) (fun h2 => ?_)
    · exact bad (fun q => Int32.not_le.mpr h2 q.2.1)
    · refine g_il_3 hR dX0_hasRange_20 ?_
      refine g_il_4 hR dX0_hasRange_21 ?_
      refine g_icmp_gt (tgt := 38) hR dX0_hasRange_23 (by decide) (fun h3 => ?_) (fun h3 => ?_)
      · exact bad (fun q => Int32.not_le.mpr h3 q.2.2.1)
      · refine g_il_2 hR dX0_hasRange_26 ?_
        refine g_il_4 hR dX0_hasRange_27 ?_
        refine g_il_3 hR dX0_hasRange_29 ?_
        refine g_isub hR dX0_hasRange_30 ?_
        refine g_icmp_gt (tgt := 38) hR dX0_hasRange_31 (by decide) (fun h4 => ?_) (fun h4 => ?_)
        · exact bad (fun q => Int32.not_le.mpr h4 q.2.2.2)
        · refine g_iconst_1 hR dX0_hasRange_34 ?_
          refine g_goto (tgt := 39) hR dX0_hasRange_35 (by decide) ?_
          exact hE dX0_hasRange_39 ((if_pos ⟨Int32.not_lt.mp h1, Int32.not_lt.mp h2, Int32.not_lt.mp h3, Int32.not_lt.mp h4⟩).symm) (rfl)
set_option maxRecDepth 100000 in
set_option maxHeartbeats 4000000 in
theorem ev_number {s z i : Nat} (hs : s < 4) (hz : z ≤ 40) (hi : i < z) (σ : Hp) (hT : σ 11 (4 + s) = nI z) : CtI yX0_number wX0_number 4 [.ref 13, .int (nI s), .int (nI i)] σ (num (σ 11) s i) (σ) := by
  refine CtI.of (by decide) (Nat.le_of_ble_eq_true rfl) rfl rfl (fun G hR hE => ?_)
  refine g_al_0 hR dX0_number_0 ?_
  refine g_il_1 hR dX0_number_1 ?_
  refine g_il_2 hR dX0_number_2 ?_
  refine g_iconst_1 hR dX0_number_3 ?_
  refine g_cvI hR ciX0_hasRange dX0_number_4 ml_X0_29 (Nat.le_of_ble_eq_true rfl) (by decide) rfl rfl rfl (ev_hasRange hs hz (nI i) (nI 1) σ hT) rfl (Nat.le_of_ble_eq_true rfl) rfl ?_
  refine g_if_eq (tgt := 24) hR dX0_number_7 (by decide) (fun hc => absurd hc ((fun e => rgB_0.mp e (nat_rgC hz (by omega))))) (fun _ => ?_)
  refine g_al_0 hR dX0_number_10 ?_
  refine gf_X0_numbers hR fl_X0_18 dX0_number_11 ?_
  refine g_il_1 hR dX0_number_14 ?_
  refine g_bipush_40 hR dX0_number_15 ?_
  refine g_imul hR dX0_number_17 ?_
  refine g_il_2 hR dX0_number_18 ?_
  refine g_iadd hR dX0_number_19 ?_
  refine ga_16 hR (40 * s + i) (by omega) (ix40 s i) dX0_number_20 ?_
  refine g_goto (tgt := 25) hR dX0_number_21 (by decide) ?_
  exact hE dX0_number_25 (rfl) (rfl)
set_option maxRecDepth 100000 in
set_option maxHeartbeats 4000000 in
theorem ev_lowBits (v b : Int32) (σ : Hp) : CtI yX0_lowestBits wX0_lowestBits 0 [.int v, .int b] σ (narr b v) (σ) := by
  refine CtI.of (by decide) (Nat.le_of_ble_eq_true rfl) rfl rfl (fun G hR hE => ?_)
  by_cases h8 : b = 8
  · subst h8
    refine g_il_1 hR dX0_lowestBits_0 ?_
    refine g_look (off := 27) (tgt := 28) hR dX0_lowestBits_1 (by decide) (by decide) (by decide) ?_
    refine g_il_0 hR dX0_lowestBits_28 ?_
    refine g_i2b hR dX0_lowestBits_29 ?_
    exact hE dX0_lowestBits_30 (rfl) (rfl)
  · by_cases h16 : b = 16
    · subst h16
      refine g_il_1 hR dX0_lowestBits_0 ?_
      refine g_look (off := 30) (tgt := 31) hR dX0_lowestBits_1 (by decide) (by decide) (by decide) ?_
      refine g_il_0 hR dX0_lowestBits_31 ?_
      refine g_i2s hR dX0_lowestBits_32 ?_
      exact hE dX0_lowestBits_33 (rfl) (rfl)
    · have e1 : ¬ (8 : Int) = b.toInt := fun e => h8 (i_eq.mpr e.symm)
      have e6 : ¬ (16 : Int) = b.toInt := fun e => h16 (i_eq.mpr e.symm)
      refine g_il_1 hR dX0_lowestBits_0 ?_
      refine g_look (off := 33) (tgt := 34) hR dX0_lowestBits_1 (by decide) (by simp [Op.lookupswitch.offset, e1, e6]) (by decide) ?_
      refine g_il_0 hR dX0_lowestBits_34 ?_
      exact hE dX0_lowestBits_35 (by unfold narr; rw [if_neg h8, if_neg h16]) (rfl)
set_option maxRecDepth 100000 in
set_option maxHeartbeats 4000000 in
theorem ev_put {s z i : Nat} (hs : s < 4) (hz : z ≤ 40) (hi : i < z) (v : Int32) (σ : Hp) (hT : σ 11 (4 + s) = nI z) : CtV yX0_put wX0_put 4 [.ref 13, .int (nI s), .int (nI i), .int v] σ (bset σ 11 (upd (σ 11) (8 + (40 * s + i)) (narr (σ 11 s) v))) := by
  refine CtV.of (by decide) (Nat.le_of_ble_eq_true rfl) rfl (fun G hR hE => ?_)
  refine g_al_0 hR dX0_put_0 ?_
  refine g_il_1 hR dX0_put_1 ?_
  refine g_il_2 hR dX0_put_2 ?_
  refine g_iconst_1 hR dX0_put_3 ?_
  refine g_cvI hR ciX0_hasRange dX0_put_4 ml_X0_29 (Nat.le_of_ble_eq_true rfl) (by decide) rfl rfl rfl (ev_hasRange hs hz (nI i) (nI 1) σ hT) rfl (Nat.le_of_ble_eq_true rfl) rfl ?_
  refine g_if_eq (tgt := 31) hR dX0_put_7 (by decide) (fun hc => absurd hc ((fun e => rgB_0.mp e (nat_rgC hz (by omega))))) (fun _ => ?_)
  refine g_al_0 hR dX0_put_10 ?_
  refine gf_X0_numbers hR fl_X0_18 dX0_put_11 ?_
  refine g_il_1 hR dX0_put_14 ?_
  refine g_bipush_40 hR dX0_put_15 ?_
  refine g_imul hR dX0_put_17 ?_
  refine g_il_2 hR dX0_put_18 ?_
  refine g_iadd hR dX0_put_19 ?_
  refine g_il_3 hR dX0_put_20 ?_
  refine g_al_0 hR dX0_put_21 ?_
  refine gf_X0_bits hR fl_X0_9 dX0_put_22 ?_
  refine g_il_1 hR dX0_put_25 ?_
  refine ga_14 hR s hs rfl dX0_put_26 ?_
  refine g_csI hR ciX0_lowestBits dX0_put_27 ml_X0_33 (Nat.le_of_ble_eq_true rfl) (ev_lowBits v (σ 11 s) σ) rfl (Nat.le_of_ble_eq_true rfl) rfl ?_
  refine gs_16 hR (40 * s + i) (by omega) (ix40 s i) dX0_put_30 ?_
  exact hE dX0_put_31 (rfl)
set_option maxRecDepth 100000 in
set_option maxHeartbeats 4000000 in
theorem ev_lay {s : Nat} (hs : s < 4) (b z : Int32) (σ : Hp) : CtV yX0_lay wX0_lay 2 [.ref 13, .int (nI s), .int b, .int z] σ (bset σ 11 (laySh (σ 11) s b z)) := by
  refine CtV.of (by decide) (Nat.le_of_ble_eq_true rfl) rfl (fun G hR hE => ?_)
  have lp : ∀ d j, j + d = 40 → G 25 [some (.ref 13), some (.int (nI s)), some (.int b), some (.int z), some (.int (nI j))] [] (bset σ 11 (zerS (upd (upd (σ 11) s b) (4 + s) z) s j)) := by
    intro d
    induction d with
    | zero =>
      intro j hj
      obtain rfl : j = 40 := by omega
      refine g_il_4 hR dX0_lay_25 ?_
      refine g_bipush_40 hR dX0_lay_27 ?_
      refine g_icmp_ge (tgt := 51) hR dX0_lay_29 (by decide) (fun _ => ?_) (fun hc => absurd (Int32.le_refl _) hc)
      exact hE dX0_lay_51 (rfl)
    | succ d ih =>
      intro j hj
      refine g_il_4 hR dX0_lay_25 ?_
      refine g_bipush_40 hR dX0_lay_27 ?_
      refine g_icmp_ge (tgt := 51) hR dX0_lay_29 (by decide) (fun hc => absurd hc (nI_ge (b := 40) (by omega) (by decide))) (fun _ => ?_)
      refine g_al_0 hR dX0_lay_32 ?_
      refine gf_X0_numbers hR fl_X0_18 dX0_lay_33 ?_
      refine g_il_1 hR dX0_lay_36 ?_
      refine g_bipush_40 hR dX0_lay_37 ?_
      refine g_imul hR dX0_lay_39 ?_
      refine g_il_4 hR dX0_lay_40 ?_
      refine g_iadd hR dX0_lay_42 ?_
      refine g_iconst_0 hR dX0_lay_43 ?_
      refine gs_16 hR (40 * s + j) (by omega) (ix40 s j) dX0_lay_44 ?_
      refine g_inc_4 hR dX0_lay_45 trivial ?_
      refine g_goto (tgt := 25) hR dX0_lay_48 (by decide) ?_
      rw [hset_e, bset_s, bset_bset, zerS_s]
      exact ih (j + 1) (by omega)
  refine g_il_1 hR dX0_lay_0 ?_
  refine g_cnI hR ciX4_isSheet dX0_lay_1 nw_X0_21 (Nat.le_of_ble_eq_true rfl) (ev_isSheet (nI s) σ) rfl (Nat.le_of_ble_eq_true rfl) rfl ?_
  refine g_if_ne (tgt := 8) hR dX0_lay_4 (by decide) (fun _ => ?_) (fun hc => absurd hc (bI_pos ⟨nI_pos' (by omega), nI_le (b := 3) (by omega) (by decide)⟩))
  refine g_al_0 hR dX0_lay_8 ?_
  refine gf_X0_bits hR fl_X0_9 dX0_lay_9 ?_
  refine g_il_1 hR dX0_lay_12 ?_
  refine g_il_2 hR dX0_lay_13 ?_
  refine gs_14 hR s hs rfl dX0_lay_14 ?_
  refine g_al_0 hR dX0_lay_15 ?_
  refine gf_X0_sizes hR fl_X0_15 dX0_lay_16 ?_
  refine g_il_1 hR dX0_lay_19 ?_
  refine g_il_3 hR dX0_lay_20 ?_
  refine gs_15 hR s hs rfl dX0_lay_21 ?_
  refine g_iconst_0 hR dX0_lay_22 ?_
  refine g_is_4 hR dX0_lay_23 trivial ?_
  refine g_eq (τ := bset σ 11 (zerS (upd (upd (σ 11) s b) (4 + s) z) s 0)) (by rw [zerS_0, hset_e, hset_e, bset_s, bset_bset]) ?_
  exact lp 40 0 rfl
set_option maxRecDepth 100000 in
set_option maxHeartbeats 4000000 in
theorem ev_move {s t z y f o n : Nat} (hs : s < 4) (ht : t < 4) (hz : z ≤ 40) (hy : y ≤ 40) (hf : f + n ≤ z) (ho : o + n ≤ y) (σ : Hp) (hT : σ 11 (4 + s) = nI z) (hU : σ 11 (4 + t) = nI y) : CtV yX0_move wX0_move 4 [.ref 13, .int (nI s), .int (nI f), .int (nI t), .int (nI o), .int (nI n)] σ (bset σ 11 (movS (σ 11) s f t o n)) := by
  refine CtV.of (by decide) (Nat.le_of_ble_eq_true rfl) rfl (fun G hR hE => ?_)
  refine g_al_0 hR dX0_move_0 ?_
  refine g_il_1 hR dX0_move_1 ?_
  refine g_il_2 hR dX0_move_2 ?_
  refine g_il_5 hR dX0_move_3 ?_
  refine g_cvI hR ciX0_hasRange dX0_move_5 ml_X0_29 (Nat.le_of_ble_eq_true rfl) (by decide) rfl rfl rfl (ev_hasRange hs hz (nI f) (nI n) σ hT) rfl (Nat.le_of_ble_eq_true rfl) rfl ?_
  refine g_if_eq (tgt := 49) hR dX0_move_8 (by decide) (fun hc => absurd hc ((fun e => rgB_0.mp e (nat_rgC hz hf)))) (fun _ => ?_)
  refine g_al_0 hR dX0_move_11 ?_
  refine g_il_3 hR dX0_move_12 ?_
  refine g_il_4 hR dX0_move_13 ?_
  refine g_il_5 hR dX0_move_15 ?_
  refine g_cvI hR ciX0_hasRange dX0_move_17 ml_X0_29 (Nat.le_of_ble_eq_true rfl) (by decide) rfl rfl rfl (ev_hasRange ht hy (nI o) (nI n) σ hU) rfl (Nat.le_of_ble_eq_true rfl) rfl ?_
  refine g_if_eq (tgt := 49) hR dX0_move_20 (by decide) (fun hc => absurd hc ((fun e => rgB_0.mp e (nat_rgC hy ho)))) (fun _ => ?_)
  refine g_al_0 hR dX0_move_23 ?_
  refine gf_X0_numbers hR fl_X0_18 dX0_move_24 ?_
  refine g_il_1 hR dX0_move_27 ?_
  refine g_bipush_40 hR dX0_move_28 ?_
  refine g_imul hR dX0_move_30 ?_
  refine g_il_2 hR dX0_move_31 ?_
  refine g_iadd hR dX0_move_32 ?_
  refine g_al_0 hR dX0_move_33 ?_
  refine gf_X0_numbers hR fl_X0_18 dX0_move_34 ?_
  refine g_il_3 hR dX0_move_37 ?_
  refine g_bipush_40 hR dX0_move_38 ?_
  refine g_imul hR dX0_move_40 ?_
  refine g_il_4 hR dX0_move_41 ?_
  refine g_iadd hR dX0_move_43 ?_
  refine g_il_5 hR dX0_move_44 ?_
  refine g_cpy hR (40 * s + f) (40 * t + o) n (Nat.le_of_ble_eq_true rfl) (by decide) (by decide) rfl rfl (by omega) (by omega) (by decide) (by decide) (ix40 s f) (ix40 t o) rfl ml_X0_45 dX0_move_46 (Nat.le_of_ble_eq_true rfl) ?_
  exact hE dX0_move_49 (rfl)
set_option maxRecDepth 100000 in
set_option maxHeartbeats 4000000 in
theorem cx_shF {s : Nat} (hs : s < 4) (σ : Hp) : CtI yX4_sheetFinding wX4_sheetFinding 4 [.ref 0, .int (nI s)] σ (if σ 11 s = 0 then -1000006 else 0) (σ) := by
  refine CtI.of (by decide) (Nat.le_of_ble_eq_true rfl) rfl rfl (fun G hR hE => ?_)
  refine g_il_1 hR dX4_sheetFinding_0 ?_
  refine g_csI hR ciX4_isSheet dX4_sheetFinding_1 ml_X4_206 (Nat.le_of_ble_eq_true rfl) (ev_isSheet (nI s) σ) rfl (Nat.le_of_ble_eq_true rfl) rfl ?_
  refine g_if_ne (tgt := 10) hR dX4_sheetFinding_4 (by decide) (fun _ => ?_) (fun hc => absurd hc (bI_pos ⟨nI_pos' (by omega), nI_le (b := 3) (by omega) (by decide)⟩))
  refine g_al_0 hR dX4_sheetFinding_10 ?_
  refine gf_X4_sheets hR fl_X4_45 dX4_sheetFinding_11 ?_
  refine g_il_1 hR dX4_sheetFinding_14 ?_
  refine g_cvI hR ciX0_isMissing dX4_sheetFinding_15 ml_X4_222 (Nat.le_of_ble_eq_true rfl) (by decide) rfl rfl rfl (ev_isMissing hs σ) rfl (Nat.le_of_ble_eq_true rfl) rfl ?_
  refine g_if_eq (tgt := 26) hR dX4_sheetFinding_18 (by decide) (fun h => ?_) (fun h => ?_)
  · refine g_iconst_0 hR dX4_sheetFinding_26 ?_
    exact hE dX4_sheetFinding_27 ((if_neg (bI_0.mp h)).symm) (rfl)
  · refine g_ldc hR dX4_sheetFinding_21 kc_X4_201 ?_
    refine g_goto (tgt := 27) hR dX4_sheetFinding_23 (by decide) ?_
    exact hE dX4_sheetFinding_27 ((if_pos (bI_no h)).symm) (rfl)
set_option maxRecDepth 100000 in
set_option maxHeartbeats 4000000 in
theorem cx_shF_out {a : Int32} (ha : ¬ (0 ≤ a ∧ a ≤ 3)) (σ : Hp) : CtI yX4_sheetFinding wX4_sheetFinding 4 [.ref 0, .int a] σ (-1000001) (σ) := by
  refine CtI.of (by decide) (Nat.le_of_ble_eq_true rfl) rfl rfl (fun G hR hE => ?_)
  refine g_il_1 hR dX4_sheetFinding_0 ?_
  refine g_csI hR ciX4_isSheet dX4_sheetFinding_1 ml_X4_206 (Nat.le_of_ble_eq_true rfl) (ev_isSheet a σ) rfl (Nat.le_of_ble_eq_true rfl) rfl ?_
  refine g_if_ne (tgt := 10) hR dX4_sheetFinding_4 (by decide) (fun hc => absurd (bI_0.mpr ha) hc) (fun _ => ?_)
  refine g_ldc hR dX4_sheetFinding_7 kc_X4_57 ?_
  exact hE dX4_sheetFinding_9 (rfl) (rfl)
set_option maxRecDepth 100000 in
set_option maxHeartbeats 4000000 in
theorem cx_sheet (a b v : Int32) (σ : Hp) : CtI yX4_sheet wX4_sheet 3 [.ref 0, .int a, .int b, .int v] σ (if (0 ≤ a ∧ a ≤ 3) ∧ (b = 0 ∨ b = 8 ∨ b = 16 ∨ b = 32) then (if v < 0 then -1000007 else if 40 < v then -1000001 else if b = 0 then 0 else v) else -1000001) (if (0 ≤ a ∧ a ≤ 3) ∧ (b = 0 ∨ b = 8 ∨ b = 16 ∨ b = 32) then (if v < 0 then fnd σ 13 6 else if 40 < v then fnd σ 13 0 else bset σ 11 (laySh (σ 11) a.toNatClampNeg b (if b = 0 then 0 else v))) else fnd σ 13 0) := by
  refine CtI.of (by decide) (Nat.le_of_ble_eq_true rfl) rfl rfl (fun G hR hE => ?_)
  have bad : ¬ ((0 ≤ a ∧ a ≤ 3) ∧ (b = 0 ∨ b = 8 ∨ b = 16 ∨ b = 32)) → G 29 [some (.ref 0), some (.int a), some (.int b), some (.int v), none] [] σ := by
    intro h
    refine g_al_0 hR dX4_sheet_29 ?_
    refine g_ldc hR dX4_sheet_30 kc_X4_57 ?_
    refine g_cvI hR ciX4_finding dX4_sheet_32 ml_X4_58 (Nat.le_of_ble_eq_true rfl) (by decide) rfl rfl rfl (cx_f0 σ) rfl (Nat.le_of_ble_eq_true rfl) rfl ?_
    exact hE dX4_sheet_35 ((if_neg h).symm) ((if_neg h).symm)
  have good : (0 ≤ a ∧ a ≤ 3) ∧ (b = 0 ∨ b = 8 ∨ b = 16 ∨ b = 32) → G 36 [some (.ref 0), some (.int a), some (.int b), some (.int v), none] [] σ := by
    intro hc
    rw [if_pos hc, if_pos hc] at hE
    obtain ⟨s, hs, rfl⟩ := nle 3 hc.1 (by decide)
    rw [show (nI s).toNatClampNeg = s from nI_clamp (by omega)] at hE
    refine g_il_3 hR dX4_sheet_36 ?_
    refine g_if_ge (tgt := 47) hR dX4_sheet_37 (by decide) (fun h1 => ?_) (fun h1 => ?_)
    · rw [if_neg (Int32.not_lt.mpr h1), if_neg (Int32.not_lt.mpr h1)] at hE
      refine g_il_3 hR dX4_sheet_47 ?_
      refine g_bipush_40 hR dX4_sheet_48 ?_
      refine g_icmp_le (tgt := 60) hR dX4_sheet_50 (by decide) (fun h2 => ?_) (fun h2 => ?_)
      · rw [if_neg (Int32.not_lt.mpr h2), if_neg (Int32.not_lt.mpr h2)] at hE
        have key : G 69 [some (.ref 0), some (.int (nI s)), some (.int b), some (.int v), none] [.int (if b = 0 then 0 else v)] σ := by
          refine g_is_4 hR dX4_sheet_69 trivial ?_
          refine g_al_0 hR dX4_sheet_71 ?_
          refine gf_X4_sheets hR fl_X4_45 dX4_sheet_72 ?_
          refine g_il_1 hR dX4_sheet_75 ?_
          refine g_il_2 hR dX4_sheet_76 ?_
          refine g_il_4 hR dX4_sheet_77 ?_
          refine g_cvV hR ciX0_lay dX4_sheet_79 ml_X4_210 (Nat.le_of_ble_eq_true rfl) (by decide) rfl rfl rfl (ev_lay (s := s) (by omega) b _ σ) rfl (Nat.le_of_ble_eq_true rfl) rfl ?_
          refine g_il_4 hR dX4_sheet_82 ?_
          exact hE dX4_sheet_84 (rfl) (rfl)
        refine g_il_2 hR dX4_sheet_60 ?_
        refine g_if_ne (tgt := 68) hR dX4_sheet_61 (by decide) (fun h3 => ?_) (fun h3 => ?_)
        · refine g_il_3 hR dX4_sheet_68 ?_
          exact g_top (if_neg h3).symm key
        · refine g_iconst_0 hR dX4_sheet_64 ?_
          refine g_goto (tgt := 69) hR dX4_sheet_65 (by decide) ?_
          exact g_top (if_pos h3).symm key
      · refine g_al_0 hR dX4_sheet_53 ?_
        refine g_ldc hR dX4_sheet_54 kc_X4_57 ?_
        refine g_cvI hR ciX4_finding dX4_sheet_56 ml_X4_58 (Nat.le_of_ble_eq_true rfl) (by decide) rfl rfl rfl (cx_f0 σ) rfl (Nat.le_of_ble_eq_true rfl) rfl ?_
        exact hE dX4_sheet_59 ((if_pos (Int32.not_le.mp h2)).symm) ((if_pos (Int32.not_le.mp h2)).symm)
    · refine g_al_0 hR dX4_sheet_40 ?_
      refine g_ldc hR dX4_sheet_41 kc_X4_209 ?_
      refine g_cvI hR ciX4_finding dX4_sheet_43 ml_X4_58 (Nat.le_of_ble_eq_true rfl) (by decide) rfl rfl rfl (cx_f6 σ) rfl (Nat.le_of_ble_eq_true rfl) rfl ?_
      exact hE dX4_sheet_46 ((if_pos (Int32.not_le.mp h1)).symm) ((if_pos (Int32.not_le.mp h1)).symm)
  refine g_il_1 hR dX4_sheet_0 ?_
  refine g_csI hR ciX4_isSheet dX4_sheet_1 ml_X4_206 (Nat.le_of_ble_eq_true rfl) (ev_isSheet a σ) rfl (Nat.le_of_ble_eq_true rfl) rfl ?_
  refine g_if_eq (tgt := 29) hR dX4_sheet_4 (by decide) (fun h => ?_) (fun h => ?_)
  · exact bad (fun q => bI_0.mp h q.1)
  · have ha := bI_no h
    refine g_il_2 hR dX4_sheet_7 ?_
    refine g_if_eq (tgt := 36) hR dX4_sheet_8 (by decide) (fun h1 => ?_) (fun h1 => ?_)
    · exact good ⟨ha, Or.inl h1⟩
    · refine g_il_2 hR dX4_sheet_11 ?_
      refine g_bipush_8 hR dX4_sheet_12 ?_
      refine g_icmp_eq (tgt := 36) hR dX4_sheet_14 (by decide) (fun h2 => ?_) (fun h2 => ?_)
      · exact good ⟨ha, Or.inr (Or.inl h2)⟩
      · refine g_il_2 hR dX4_sheet_17 ?_
        refine g_bipush_16 hR dX4_sheet_18 ?_
        refine g_icmp_eq (tgt := 36) hR dX4_sheet_20 (by decide) (fun h3 => ?_) (fun h3 => ?_)
        · exact good ⟨ha, Or.inr (Or.inr (Or.inl h3))⟩
        · refine g_il_2 hR dX4_sheet_23 ?_
          refine g_bipush_32 hR dX4_sheet_24 ?_
          refine g_icmp_eq (tgt := 36) hR dX4_sheet_26 (by decide) (fun h4 => ?_) (fun h4 => ?_)
          · exact good ⟨ha, Or.inr (Or.inr (Or.inr h4))⟩
          · exact bad (fun q => q.2.elim h1 (fun q => q.elim h2 (fun q => q.elim h3 h4)))
set_option maxRecDepth 100000 in
set_option maxHeartbeats 4000000 in
theorem cx_write (a b v : Int32) (σ : Hp) (hSh : Sh (σ 11)) : CtI yX4_write wX4_write 5 [.ref 0, .int a, .int b, .int v] σ (if 0 ≤ a ∧ a ≤ 3 then (if σ 11 a.toNatClampNeg = 0 then -1000006 else if 0 ≤ b ∧ b ≤ σ 11 (4 + a.toNatClampNeg) - 1 then 1 else -1000001) else -1000001) (if 0 ≤ a ∧ a ≤ 3 then (if σ 11 a.toNatClampNeg = 0 then fnd σ 13 5 else if 0 ≤ b ∧ b ≤ σ 11 (4 + a.toNatClampNeg) - 1 then bset σ 11 (upd (σ 11) (8 + (40 * a.toNatClampNeg + b.toNatClampNeg)) (narr (σ 11 a.toNatClampNeg) v)) else fnd σ 13 0) else fnd σ 13 0) := by
  refine CtI.of (by decide) (Nat.le_of_ble_eq_true rfl) rfl rfl (fun G hR hE => ?_)
  by_cases ha : 0 ≤ a ∧ a ≤ 3
  · rw [if_pos ha, if_pos ha] at hE
    obtain ⟨s, hs, rfl⟩ := nle 3 ha (by decide)
    rw [show (nI s).toNatClampNeg = s from nI_clamp (by omega)] at hE
    obtain ⟨⟨z, hz, hT⟩, -⟩ := hSh s (by omega)
    by_cases h0 : σ 11 s = 0
    · rw [if_pos h0, if_pos h0] at hE
      refine g_al_0 hR dX4_write_0 ?_
      refine g_il_1 hR dX4_write_1 ?_
      refine g_cvI hR ciX4_sheetFinding dX4_write_2 ml_X4_213 (Nat.le_of_ble_eq_true rfl) (by decide) rfl rfl rfl ((cx_shF (s := s) (by omega) σ).weak (if_pos h0)) rfl (Nat.le_of_ble_eq_true rfl) rfl ?_
      refine g_is_4 hR dX4_write_5 trivial ?_
      refine g_il_4 hR dX4_write_7 ?_
      refine g_if_eq (tgt := 19) hR dX4_write_9 (by decide) (fun hc => absurd hc ((by decide))) (fun _ => ?_)
      refine g_al_0 hR dX4_write_12 ?_
      refine g_il_4 hR dX4_write_13 ?_
      refine g_cvI hR ciX4_finding dX4_write_15 ml_X4_58 (Nat.le_of_ble_eq_true rfl) (by decide) rfl rfl rfl (cx_f5 σ) rfl (Nat.le_of_ble_eq_true rfl) rfl ?_
      exact hE dX4_write_18 (rfl) (rfl)
    · rw [if_neg h0, if_neg h0] at hE
      refine g_al_0 hR dX4_write_0 ?_
      refine g_il_1 hR dX4_write_1 ?_
      refine g_cvI hR ciX4_sheetFinding dX4_write_2 ml_X4_213 (Nat.le_of_ble_eq_true rfl) (by decide) rfl rfl rfl ((cx_shF (s := s) (by omega) σ).weak (if_neg h0)) rfl (Nat.le_of_ble_eq_true rfl) rfl ?_
      refine g_is_4 hR dX4_write_5 trivial ?_
      refine g_il_4 hR dX4_write_7 ?_
      refine g_if_eq (tgt := 19) hR dX4_write_9 (by decide) (fun _ => ?_) (fun hc => absurd (rfl) hc)
      refine g_il_2 hR dX4_write_19 ?_
      refine g_iconst_0 hR dX4_write_20 ?_
      refine g_al_0 hR dX4_write_21 ?_
      refine gf_X4_sheets hR fl_X4_45 dX4_write_22 ?_
      refine g_il_1 hR dX4_write_25 ?_
      refine g_cvI hR ciX0_sizeOf dX4_write_26 ml_X4_216 (Nat.le_of_ble_eq_true rfl) (by decide) rfl rfl rfl (ev_sizeOf (s := s) (by omega) σ) rfl (Nat.le_of_ble_eq_true rfl) rfl ?_
      refine g_iconst_1 hR dX4_write_29 ?_
      refine g_isub hR dX4_write_30 ?_
      refine g_csI hR ciX4_isWithin dX4_write_31 ml_X4_66 (Nat.le_of_ble_eq_true rfl) (ev_isWithin b 0 (σ 11 (4 + s) - 1) σ) rfl (Nat.le_of_ble_eq_true rfl) rfl ?_
      refine g_if_ne (tgt := 44) hR dX4_write_34 (by decide) (fun h => ?_) (fun h => ?_)
      · have hb := bI_no h
        rw [if_pos hb, if_pos hb] at hE
        have hb2 : 0 ≤ b ∧ b < nI z := (piece_cz hz).mp (by rw [← hT]; exact hb)
        obtain ⟨i, hi, rfl⟩ := nlt hb2 (by omega)
        rw [show (nI i).toNatClampNeg = i from nI_clamp (by omega)] at hE
        refine g_al_0 hR dX4_write_44 ?_
        refine gf_X4_sheets hR fl_X4_45 dX4_write_45 ?_
        refine g_il_1 hR dX4_write_48 ?_
        refine g_il_2 hR dX4_write_49 ?_
        refine g_il_3 hR dX4_write_50 ?_
        refine g_cvV hR ciX0_put dX4_write_51 ml_X4_219 (Nat.le_of_ble_eq_true rfl) (by decide) rfl rfl rfl (ev_put (s := s) (z := z) (i := i) (by omega) hz hi v σ hT) rfl (Nat.le_of_ble_eq_true rfl) rfl ?_
        refine g_iconst_1 hR dX4_write_54 ?_
        exact hE dX4_write_55 (rfl) (rfl)
      · refine g_al_0 hR dX4_write_37 ?_
        refine g_ldc hR dX4_write_38 kc_X4_57 ?_
        refine g_cvI hR ciX4_finding dX4_write_40 ml_X4_58 (Nat.le_of_ble_eq_true rfl) (by decide) rfl rfl rfl (cx_f0 σ) rfl (Nat.le_of_ble_eq_true rfl) rfl ?_
        exact hE dX4_write_43 ((if_neg (bI_0.mp h)).symm) ((if_neg (bI_0.mp h)).symm)
  · rw [if_neg ha, if_neg ha] at hE
    refine g_al_0 hR dX4_write_0 ?_
    refine g_il_1 hR dX4_write_1 ?_
    refine g_cvI hR ciX4_sheetFinding dX4_write_2 ml_X4_213 (Nat.le_of_ble_eq_true rfl) (by decide) rfl rfl rfl (cx_shF_out ha σ) rfl (Nat.le_of_ble_eq_true rfl) rfl ?_
    refine g_is_4 hR dX4_write_5 trivial ?_
    refine g_il_4 hR dX4_write_7 ?_
    refine g_if_eq (tgt := 19) hR dX4_write_9 (by decide) (fun hc => absurd hc ((by decide))) (fun _ => ?_)
    refine g_al_0 hR dX4_write_12 ?_
    refine g_il_4 hR dX4_write_13 ?_
    refine g_cvI hR ciX4_finding dX4_write_15 ml_X4_58 (Nat.le_of_ble_eq_true rfl) (by decide) rfl rfl rfl (cx_f0 σ) rfl (Nat.le_of_ble_eq_true rfl) rfl ?_
    exact hE dX4_write_18 (rfl) (rfl)
set_option maxRecDepth 100000 in
set_option maxHeartbeats 4000000 in
theorem cx_load {n : Nat} {d : Int} (a : Int32) (σ : Hp) (hG : Gd (σ 0) n d) (hSh : Sh (σ 11)) : CtI yX4_load wX4_load 5 [.ref 0, .int a] σ (if 0 ≤ a ∧ a ≤ 3 then (if σ 11 a.toNatClampNeg = 0 then -1000006 else nI (lodN (σ 11) a.toNatClampNeg (lodM (σ 11) a.toNatClampNeg n))) else -1000001) (if 0 ≤ a ∧ a ≤ 3 then (if σ 11 a.toNatClampNeg = 0 then fnd σ 13 5 else bset σ 0 (lodS (σ 0) (σ 11) a.toNatClampNeg (lodN (σ 11) a.toNatClampNeg (lodM (σ 11) a.toNatClampNeg n)))) else fnd σ 13 0) := by
  refine CtI.of (by decide) (Nat.le_of_ble_eq_true rfl) rfl rfl (fun G hR hE => ?_)
  have hn8 := hG.1
  by_cases ha : 0 ≤ a ∧ a ≤ 3
  · rw [if_pos ha, if_pos ha] at hE
    obtain ⟨s, hs, rfl⟩ := nle 3 ha (by decide)
    rw [show (nI s).toNatClampNeg = s from nI_clamp (by omega)] at hE
    obtain ⟨⟨z, hz, hT⟩, -⟩ := hSh s (by omega)
    by_cases h0 : σ 11 s = 0
    · rw [if_pos h0, if_pos h0] at hE
      refine g_al_0 hR dX4_load_0 ?_
      refine g_il_1 hR dX4_load_1 ?_
      refine g_cvI hR ciX4_sheetFinding dX4_load_2 ml_X4_213 (Nat.le_of_ble_eq_true rfl) (by decide) rfl rfl rfl ((cx_shF (s := s) (by omega) σ).weak (if_pos h0)) rfl (Nat.le_of_ble_eq_true rfl) rfl ?_
      refine g_is_2 hR dX4_load_5 trivial ?_
      refine g_il_2 hR dX4_load_6 ?_
      refine g_if_eq (tgt := 16) hR dX4_load_7 (by decide) (fun hc => absurd hc ((by decide))) (fun _ => ?_)
      refine g_al_0 hR dX4_load_10 ?_
      refine g_il_2 hR dX4_load_11 ?_
      refine g_cvI hR ciX4_finding dX4_load_12 ml_X4_58 (Nat.le_of_ble_eq_true rfl) (by decide) rfl rfl rfl (cx_f5 σ) rfl (Nat.le_of_ble_eq_true rfl) rfl ?_
      exact hE dX4_load_15 (rfl) (rfl)
    · rw [if_neg h0, if_neg h0] at hE
      have hM : lodM (σ 11) s n = if n < z then n else z := by unfold lodM; rw [hT, nI_clamp (by omega)]
      generalize hm : lodM (σ 11) s n = M at *
      have hMz : M ≤ z ∧ M ≤ n := by rw [hM]; split <;> omega
      have lp : ∀ d' j x5, j + d' = M → lodN (σ 11) s j = j → G 38 [some (.ref 0), some (.int (nI s)), some (.int 0), some (.int (nI M)), some (.int (nI j)), x5] [] (bset σ 0 (lodS (σ 0) (σ 11) s j)) := by
        intro d'
        induction d' with
        | zero =>
          intro j x5 hj hl
          obtain rfl : j = M := by omega
          rw [hl] at hE
          refine g_il_4 hR dX4_load_38 ?_
          refine g_il_3 hR dX4_load_40 ?_
          refine g_icmp_ge (tgt := 86) hR dX4_load_41 (by decide) (fun _ => ?_) (fun hc => absurd (Int32.le_refl _) hc)
          refine g_il_3 hR dX4_load_86 ?_
          exact hE dX4_load_87 (rfl) (rfl)
        | succ d' ih =>
          intro j x5 hj hl
          have e11 : bset σ 0 (lodS (σ 0) (σ 11) s j) 11 = σ 11 := bset_n (by decide)
          refine g_il_4 hR dX4_load_38 ?_
          refine g_il_3 hR dX4_load_40 ?_
          refine g_icmp_ge (tgt := 86) hR dX4_load_41 (by decide) (fun hc => absurd hc (nI_ge (by omega) (by omega))) (fun _ => ?_)
          refine g_al_0 hR dX4_load_44 ?_
          refine gf_X4_sheets hR fl_X4_45 dX4_load_45 ?_
          refine g_il_1 hR dX4_load_48 ?_
          refine g_il_4 hR dX4_load_49 ?_
          refine g_cvI hR ciX0_number dX4_load_51 ml_X4_238 (Nat.le_of_ble_eq_true rfl) (by decide) rfl rfl rfl ((ev_number (s := s) (z := z) (i := j) (by omega) hz (by omega) _ (by rw [e11]; exact hT)).weak (congrArg (fun T => num T s j) e11)) rfl (Nat.le_of_ble_eq_true rfl) rfl ?_
          refine g_is_5 hR dX4_load_54 trivial ?_
          refine g_iconst_2 hR dX4_load_56 ?_
          refine g_il_5 hR dX4_load_57 ?_
          refine g_csI hR ciX4_isFactValue dX4_load_59 ml_X4_91 (Nat.le_of_ble_eq_true rfl) (ev_isFV 2 (num (σ 11) s j) (by decide) _) rfl (Nat.le_of_ble_eq_true rfl) rfl ?_
          refine g_if_ne (tgt := 68) hR dX4_load_62 (by decide) (fun h1 => ?_) (fun h1 => ?_)
          · have hok : lodB (σ 11) s j = true := decide_eq_true (bI_no h1)
            refine g_al_0 hR dX4_load_68 ?_
            refine gf_X4_current hR fl_X4_12 dX4_load_69 ?_
            refine g_il_4 hR dX4_load_72 ?_
            refine g_iconst_2 hR dX4_load_74 ?_
            refine g_il_5 hR dX4_load_75 ?_
            refine g_cvV hR ciX3_setFact dX4_load_77 ml_X4_98 (Nat.le_of_ble_eq_true rfl) (by omega) (lay_w z0) rfl rfl (ev_setFact (k := 0) (p := j) (w := 2) z0 (by omega) (by decide) (num (σ 11) s j) _) rfl (Nat.le_of_ble_eq_true rfl) rfl ?_
            refine g_inc_4 hR dX4_load_80 trivial ?_
            refine g_goto (tgt := 38) hR dX4_load_83 (by decide) ?_
            rw [bset_s, bset_bset]
            exact ih (j + 1) _ (by omega) (lodN_t hl hok)
          · have hno : lodB (σ 11) s j = false := decide_eq_false (bI_0.mp h1)
            rw [lodN_f hl hno M (by omega)] at hE
            refine g_il_4 hR dX4_load_65 ?_
            exact hE dX4_load_67 (rfl) (rfl)
      refine g_al_0 hR dX4_load_0 ?_
      refine g_il_1 hR dX4_load_1 ?_
      refine g_cvI hR ciX4_sheetFinding dX4_load_2 ml_X4_213 (Nat.le_of_ble_eq_true rfl) (by decide) rfl rfl rfl ((cx_shF (s := s) (by omega) σ).weak (if_neg h0)) rfl (Nat.le_of_ble_eq_true rfl) rfl ?_
      refine g_is_2 hR dX4_load_5 trivial ?_
      refine g_il_2 hR dX4_load_6 ?_
      refine g_if_eq (tgt := 16) hR dX4_load_7 (by decide) (fun _ => ?_) (fun hc => absurd (rfl) hc)
      refine g_al_0 hR dX4_load_16 ?_
      refine gf_X4_sheets hR fl_X4_45 dX4_load_17 ?_
      refine g_il_1 hR dX4_load_20 ?_
      refine g_cvI hR ciX0_sizeOf dX4_load_21 ml_X4_216 (Nat.le_of_ble_eq_true rfl) (by decide) rfl rfl rfl ((ev_sizeOf (s := s) (by omega) σ).weak hT) rfl (Nat.le_of_ble_eq_true rfl) rfl ?_
      refine g_al_0 hR dX4_load_24 ?_
      refine gf_X4_current hR fl_X4_12 dX4_load_25 ?_
      refine gf_X3_pieceCount hR z0 fl_X4_102 dX4_load_28 ?_
      refine g_min hR (Nat.le_of_ble_eq_true rfl) ml_X4_235 dX4_load_31 (Nat.le_of_ble_eq_true rfl) ?_
      refine g_top (show (if σ 0 1 < nI z then σ 0 1 else nI z) = nI M by rw [hG.2.1, hM]; exact min_nz hn8 hz) ?_
      refine g_is_3 hR dX4_load_34 trivial ?_
      refine g_iconst_0 hR dX4_load_35 ?_
      refine g_is_4 hR dX4_load_36 trivial ?_
      refine g_eq (τ := bset σ 0 (lodS (σ 0) (σ 11) s 0)) (bset_id σ 0).symm ?_
      exact lp M 0 none (by omega) rfl
  · rw [if_neg ha, if_neg ha] at hE
    refine g_al_0 hR dX4_load_0 ?_
    refine g_il_1 hR dX4_load_1 ?_
    refine g_cvI hR ciX4_sheetFinding dX4_load_2 ml_X4_213 (Nat.le_of_ble_eq_true rfl) (by decide) rfl rfl rfl (cx_shF_out ha σ) rfl (Nat.le_of_ble_eq_true rfl) rfl ?_
    refine g_is_2 hR dX4_load_5 trivial ?_
    refine g_il_2 hR dX4_load_6 ?_
    refine g_if_eq (tgt := 16) hR dX4_load_7 (by decide) (fun hc => absurd hc ((by decide))) (fun _ => ?_)
    refine g_al_0 hR dX4_load_10 ?_
    refine g_il_2 hR dX4_load_11 ?_
    refine g_cvI hR ciX4_finding dX4_load_12 ml_X4_58 (Nat.le_of_ble_eq_true rfl) (by decide) rfl rfl rfl (cx_f0 σ) rfl (Nat.le_of_ble_eq_true rfl) rfl ?_
    exact hE dX4_load_15 (rfl) (rfl)
set_option maxRecDepth 100000 in
set_option maxHeartbeats 4000000 in
theorem cx_judge {n : Nat} {d : Int} (a : Int32) (σ : Hp) (hG : Gd (σ 0) n d) (hSh : Sh (σ 11)) : CtI yX4_judge wX4_judge 5 [.ref 0, .int a] σ (if 0 ≤ a ∧ a ≤ 3 then (if σ 11 a.toNatClampNeg = 0 then -1000006 else jdV (fstN (fun j => decide (¬ (j < n ∧ num (σ 11) a.toNatClampNeg j = pf (σ 0) j 1))) (σ 11 (4 + a.toNatClampNeg)).toNatClampNeg)) else -1000001) (if 0 ≤ a ∧ a ≤ 3 then (if σ 11 a.toNatClampNeg = 0 then fnd σ 13 5 else σ) else fnd σ 13 0) := by
  refine CtI.of (by decide) (Nat.le_of_ble_eq_true rfl) rfl rfl (fun G hR hE => ?_)
  have hn8 := hG.1
  by_cases ha : 0 ≤ a ∧ a ≤ 3
  · rw [if_pos ha, if_pos ha] at hE
    obtain ⟨s, hs, rfl⟩ := nle 3 ha (by decide)
    rw [show (nI s).toNatClampNeg = s from nI_clamp (by omega)] at hE
    obtain ⟨⟨z, hz, hT⟩, -⟩ := hSh s (by omega)
    by_cases h0 : σ 11 s = 0
    · rw [if_pos h0, if_pos h0] at hE
      refine g_al_0 hR dX4_judge_0 ?_
      refine g_il_1 hR dX4_judge_1 ?_
      refine g_cvI hR ciX4_sheetFinding dX4_judge_2 ml_X4_213 (Nat.le_of_ble_eq_true rfl) (by decide) rfl rfl rfl ((cx_shF (s := s) (by omega) σ).weak (if_pos h0)) rfl (Nat.le_of_ble_eq_true rfl) rfl ?_
      refine g_is_2 hR dX4_judge_5 trivial ?_
      refine g_il_2 hR dX4_judge_6 ?_
      refine g_if_eq (tgt := 16) hR dX4_judge_7 (by decide) (fun hc => absurd hc ((by decide))) (fun _ => ?_)
      refine g_al_0 hR dX4_judge_10 ?_
      refine g_il_2 hR dX4_judge_11 ?_
      refine g_cvI hR ciX4_finding dX4_judge_12 ml_X4_58 (Nat.le_of_ble_eq_true rfl) (by decide) rfl rfl rfl (cx_f5 σ) rfl (Nat.le_of_ble_eq_true rfl) rfl ?_
      exact hE dX4_judge_15 (rfl) (rfl)
    · rw [if_neg h0, if_neg h0, hT, nI_clamp (by omega)] at hE
      have lp : ∀ d' j, j + d' = z → fstN (fun j => decide (¬ (j < n ∧ num (σ 11) s j = pf (σ 0) j 1))) j = none → G 18 [some (.ref 0), some (.int (nI s)), some (.int 0), some (.int (nI j))] [] σ := by
        intro d'
        induction d' with
        | zero =>
          intro j hj hf
          obtain rfl : j = z := by omega
          rw [hf] at hE
          refine g_il_3 hR dX4_judge_18 ?_
          refine g_al_0 hR dX4_judge_19 ?_
          refine gf_X4_sheets hR fl_X4_45 dX4_judge_20 ?_
          refine g_il_1 hR dX4_judge_23 ?_
          refine g_cvI hR ciX0_sizeOf dX4_judge_24 ml_X4_216 (Nat.le_of_ble_eq_true rfl) (by decide) rfl rfl rfl ((ev_sizeOf (s := s) (by omega) σ).weak hT) rfl (Nat.le_of_ble_eq_true rfl) rfl ?_
          refine g_icmp_ge (tgt := 72) hR dX4_judge_27 (by decide) (fun _ => ?_) (fun hc => absurd (Int32.le_refl _) hc)
          refine g_iconst_0 hR dX4_judge_72 ?_
          exact hE dX4_judge_73 (rfl) (rfl)
        | succ d' ih =>
          intro j hj hf
          have hit : decide (¬ (j < n ∧ num (σ 11) s j = pf (σ 0) j 1)) = true → G 62 [some (.ref 0), some (.int (nI s)), some (.int 0), some (.int (nI j))] [] σ := by
            intro hd
            have hfst := fstN_first hf hd d'
            rw [show j + 1 + d' = z by omega] at hfst
            rw [hfst] at hE
            refine g_iconst_1 hR dX4_judge_62 ?_
            refine g_il_3 hR dX4_judge_63 ?_
            refine g_iadd hR dX4_judge_64 ?_
            exact hE dX4_judge_65 (by show _ = nI (1 + j); exact nI_add 1 j) (rfl)
          refine g_il_3 hR dX4_judge_18 ?_
          refine g_al_0 hR dX4_judge_19 ?_
          refine gf_X4_sheets hR fl_X4_45 dX4_judge_20 ?_
          refine g_il_1 hR dX4_judge_23 ?_
          refine g_cvI hR ciX0_sizeOf dX4_judge_24 ml_X4_216 (Nat.le_of_ble_eq_true rfl) (by decide) rfl rfl rfl ((ev_sizeOf (s := s) (by omega) σ).weak hT) rfl (Nat.le_of_ble_eq_true rfl) rfl ?_
          refine g_icmp_ge (tgt := 72) hR dX4_judge_27 (by decide) (fun hc => absurd hc (nI_ge (by omega) (by omega))) (fun _ => ?_)
          refine g_al_0 hR dX4_judge_30 ?_
          refine gf_X4_current hR fl_X4_12 dX4_judge_31 ?_
          refine g_il_3 hR dX4_judge_34 ?_
          refine g_cvI hR ciX3_hasPiece dX4_judge_35 ml_X4_85 (Nat.le_of_ble_eq_true rfl) (by omega) (lay_w z0) rfl rfl (ev_hasPiece (k := 0) z0 (nI j) σ) rfl (Nat.le_of_ble_eq_true rfl) rfl ?_
          refine g_if_eq (tgt := 62) hR dX4_judge_38 (by decide) (fun h1 => ?_) (fun h1 => ?_)
          · exact hit (decide_eq_true (fun q => bI_0.mp h1 ⟨nI_pos' (by omega), by rw [hG.2.1]; exact nI_lt q.1 (by omega)⟩))
          · have hjn : j < n := by have := (bI_no h1).2; rw [hG.2.1, nI_ltI (by omega) (by omega)] at this; exact this
            refine g_al_0 hR dX4_judge_41 ?_
            refine gf_X4_current hR fl_X4_12 dX4_judge_42 ?_
            refine g_il_3 hR dX4_judge_45 ?_
            refine g_iconst_1 hR dX4_judge_46 ?_
            refine g_cvI hR ciX3_fact dX4_judge_47 ml_X4_95 (Nat.le_of_ble_eq_true rfl) (by omega) (lay_w z0) rfl rfl (ev_fact (k := 0) (p := j) (w := 1) z0 (by omega) (by decide) σ) rfl (Nat.le_of_ble_eq_true rfl) rfl ?_
            refine g_al_0 hR dX4_judge_50 ?_
            refine gf_X4_sheets hR fl_X4_45 dX4_judge_51 ?_
            refine g_il_1 hR dX4_judge_54 ?_
            refine g_il_3 hR dX4_judge_55 ?_
            refine g_cvI hR ciX0_number dX4_judge_56 ml_X4_238 (Nat.le_of_ble_eq_true rfl) (by decide) rfl rfl rfl (ev_number (s := s) (z := z) (i := j) (by omega) hz (by omega) σ hT) rfl (Nat.le_of_ble_eq_true rfl) rfl ?_
            refine g_icmp_eq (tgt := 66) hR dX4_judge_59 (by decide) (fun h2 => ?_) (fun h2 => ?_)
            · refine g_inc_3 hR dX4_judge_66 trivial ?_
              refine g_goto (tgt := 18) hR dX4_judge_69 (by decide) ?_
              exact ih (j + 1) (by omega) (fstN_none hf (decide_eq_false (fun q => q ⟨hjn, h2.symm⟩)))
            · exact hit (decide_eq_true (fun q => h2 q.2.symm))
      refine g_al_0 hR dX4_judge_0 ?_
      refine g_il_1 hR dX4_judge_1 ?_
      refine g_cvI hR ciX4_sheetFinding dX4_judge_2 ml_X4_213 (Nat.le_of_ble_eq_true rfl) (by decide) rfl rfl rfl ((cx_shF (s := s) (by omega) σ).weak (if_neg h0)) rfl (Nat.le_of_ble_eq_true rfl) rfl ?_
      refine g_is_2 hR dX4_judge_5 trivial ?_
      refine g_il_2 hR dX4_judge_6 ?_
      refine g_if_eq (tgt := 16) hR dX4_judge_7 (by decide) (fun _ => ?_) (fun hc => absurd (rfl) hc)
      refine g_iconst_0 hR dX4_judge_16 ?_
      refine g_is_3 hR dX4_judge_17 trivial ?_
      exact lp z 0 (by omega) rfl
  · rw [if_neg ha, if_neg ha] at hE
    refine g_al_0 hR dX4_judge_0 ?_
    refine g_il_1 hR dX4_judge_1 ?_
    refine g_cvI hR ciX4_sheetFinding dX4_judge_2 ml_X4_213 (Nat.le_of_ble_eq_true rfl) (by decide) rfl rfl rfl (cx_shF_out ha σ) rfl (Nat.le_of_ble_eq_true rfl) rfl ?_
    refine g_is_2 hR dX4_judge_5 trivial ?_
    refine g_il_2 hR dX4_judge_6 ?_
    refine g_if_eq (tgt := 16) hR dX4_judge_7 (by decide) (fun hc => absurd hc ((by decide))) (fun _ => ?_)
    refine g_al_0 hR dX4_judge_10 ?_
    refine g_il_2 hR dX4_judge_11 ?_
    refine g_cvI hR ciX4_finding dX4_judge_12 ml_X4_58 (Nat.le_of_ble_eq_true rfl) (by decide) rfl rfl rfl (cx_f0 σ) rfl (Nat.le_of_ble_eq_true rfl) rfl ?_
    exact hE dX4_judge_15 (rfl) (rfl)
set_option maxRecDepth 100000 in
set_option maxHeartbeats 4000000 in
theorem cx_copy (a f b o n : Int32) (σ : Hp) (hSh : Sh (σ 11)) : CtI yX4_copy wX4_copy 5 [.ref 0, .int a, .int f, .int b, .int o, .int n] σ (if (0 ≤ a ∧ a ≤ 3) ∧ 0 ≤ b ∧ b ≤ 3 then (if σ 11 a.toNatClampNeg = 0 ∨ σ 11 b.toNatClampNeg = 0 then -1000006 else if σ 11 a.toNatClampNeg = σ 11 b.toNatClampNeg then (if rgB f n (σ 11 (4 + a.toNatClampNeg)).toNatClampNeg = 0 ∨ rgB o n (σ 11 (4 + b.toNatClampNeg)).toNatClampNeg = 0 then -1000001 else n) else -1000003) else -1000001) (if (0 ≤ a ∧ a ≤ 3) ∧ 0 ≤ b ∧ b ≤ 3 then (if σ 11 a.toNatClampNeg = 0 ∨ σ 11 b.toNatClampNeg = 0 then fnd σ 13 5 else if σ 11 a.toNatClampNeg = σ 11 b.toNatClampNeg then (if rgB f n (σ 11 (4 + a.toNatClampNeg)).toNatClampNeg = 0 ∨ rgB o n (σ 11 (4 + b.toNatClampNeg)).toNatClampNeg = 0 then fnd σ 13 0 else bset σ 11 (movS (σ 11) a.toNatClampNeg f.toNatClampNeg b.toNatClampNeg o.toNatClampNeg n.toNatClampNeg)) else fnd σ 13 2) else fnd σ 13 0) := by
  refine CtI.of (by decide) (Nat.le_of_ble_eq_true rfl) rfl rfl (fun G hR hE => ?_)
  have bad : ¬ ((0 ≤ a ∧ a ≤ 3) ∧ 0 ≤ b ∧ b ≤ 3) → G 14 [some (.ref 0), some (.int a), some (.int f), some (.int b), some (.int o), some (.int n)] [] σ := by
    intro h
    refine g_al_0 hR dX4_copy_14 ?_
    refine g_ldc hR dX4_copy_15 kc_X4_57 ?_
    refine g_cvI hR ciX4_finding dX4_copy_17 ml_X4_58 (Nat.le_of_ble_eq_true rfl) (by decide) rfl rfl rfl (cx_f0 σ) rfl (Nat.le_of_ble_eq_true rfl) rfl ?_
    exact hE dX4_copy_20 ((if_neg h).symm) ((if_neg h).symm)
  refine g_il_1 hR dX4_copy_0 ?_
  refine g_csI hR ciX4_isSheet dX4_copy_1 ml_X4_206 (Nat.le_of_ble_eq_true rfl) (ev_isSheet a σ) rfl (Nat.le_of_ble_eq_true rfl) rfl ?_
  refine g_if_eq (tgt := 14) hR dX4_copy_4 (by decide) (fun h => ?_) (fun h => ?_)
  · exact bad (fun q => bI_0.mp h q.1)
  · refine g_il_3 hR dX4_copy_7 ?_
    refine g_csI hR ciX4_isSheet dX4_copy_8 ml_X4_206 (Nat.le_of_ble_eq_true rfl) (ev_isSheet b σ) rfl (Nat.le_of_ble_eq_true rfl) rfl ?_
    refine g_if_ne (tgt := 21) hR dX4_copy_11 (by decide) (fun h2 => ?_) (fun h2 => ?_)
    · have hc := And.intro (bI_no h) (bI_no h2)
      rw [if_pos hc, if_pos hc] at hE
      obtain ⟨s, hs, rfl⟩ := nle 3 hc.1 (by decide)
      obtain ⟨t, ht, rfl⟩ := nle 3 hc.2 (by decide)
      rw [show (nI s).toNatClampNeg = s from nI_clamp (by omega), show (nI t).toNatClampNeg = t from nI_clamp (by omega)] at hE
      obtain ⟨⟨z, hz, hT⟩, -⟩ := hSh s (by omega)
      obtain ⟨⟨y, hy, hU⟩, -⟩ := hSh t (by omega)
      rw [hT, hU, show (nI z).toNatClampNeg = z from nI_clamp (by omega), show (nI y).toNatClampNeg = y from nI_clamp (by omega)] at hE
      have miss : (σ 11 s = 0 ∨ σ 11 t = 0) → G 43 [some (.ref 0), some (.int (nI s)), some (.int f), some (.int (nI t)), some (.int o), some (.int n)] [] σ := by
        intro h
        refine g_al_0 hR dX4_copy_43 ?_
        refine g_ldc hR dX4_copy_44 kc_X4_201 ?_
        refine g_cvI hR ciX4_finding dX4_copy_46 ml_X4_58 (Nat.le_of_ble_eq_true rfl) (by decide) rfl rfl rfl (cx_f5 σ) rfl (Nat.le_of_ble_eq_true rfl) rfl ?_
        exact hE dX4_copy_49 ((if_pos h).symm) ((if_pos h).symm)
      refine g_al_0 hR dX4_copy_21 ?_
      refine gf_X4_sheets hR fl_X4_45 dX4_copy_22 ?_
      refine g_il_1 hR dX4_copy_25 ?_
      refine g_cvI hR ciX0_isMissing dX4_copy_26 ml_X4_222 (Nat.le_of_ble_eq_true rfl) (by decide) rfl rfl rfl (ev_isMissing (s := s) (by omega) σ) rfl (Nat.le_of_ble_eq_true rfl) rfl ?_
      refine g_if_ne (tgt := 43) hR dX4_copy_29 (by decide) (fun h3 => ?_) (fun h3 => ?_)
      · exact miss (Or.inl (bI_no h3))
      · refine g_al_0 hR dX4_copy_32 ?_
        refine gf_X4_sheets hR fl_X4_45 dX4_copy_33 ?_
        refine g_il_3 hR dX4_copy_36 ?_
        refine g_cvI hR ciX0_isMissing dX4_copy_37 ml_X4_222 (Nat.le_of_ble_eq_true rfl) (by decide) rfl rfl rfl (ev_isMissing (s := t) (by omega) σ) rfl (Nat.le_of_ble_eq_true rfl) rfl ?_
        refine g_if_eq (tgt := 50) hR dX4_copy_40 (by decide) (fun h4 => ?_) (fun h4 => ?_)
        · have hm : ¬ (σ 11 s = 0 ∨ σ 11 t = 0) := fun q => q.elim (bI_0.mp h3) (bI_0.mp h4)
          rw [if_neg hm, if_neg hm] at hE
          refine g_al_0 hR dX4_copy_50 ?_
          refine gf_X4_sheets hR fl_X4_45 dX4_copy_51 ?_
          refine g_il_1 hR dX4_copy_54 ?_
          refine g_cvI hR ciX0_bitsOf dX4_copy_55 ml_X4_225 (Nat.le_of_ble_eq_true rfl) (by decide) rfl rfl rfl (ev_bitsOf (s := s) (by omega) σ) rfl (Nat.le_of_ble_eq_true rfl) rfl ?_
          refine g_al_0 hR dX4_copy_58 ?_
          refine gf_X4_sheets hR fl_X4_45 dX4_copy_59 ?_
          refine g_il_3 hR dX4_copy_62 ?_
          refine g_cvI hR ciX0_bitsOf dX4_copy_63 ml_X4_225 (Nat.le_of_ble_eq_true rfl) (by decide) rfl rfl rfl (ev_bitsOf (s := t) (by omega) σ) rfl (Nat.le_of_ble_eq_true rfl) rfl ?_
          refine g_icmp_eq (tgt := 76) hR dX4_copy_66 (by decide) (fun h5 => ?_) (fun h5 => ?_)
          · rw [if_pos h5, if_pos h5] at hE
            have far : (rgB f n z = 0 ∨ rgB o n y = 0) → G 105 [some (.ref 0), some (.int (nI s)), some (.int f), some (.int (nI t)), some (.int o), some (.int n)] [] σ := by
              intro h
              refine g_al_0 hR dX4_copy_105 ?_
              refine g_ldc hR dX4_copy_106 kc_X4_57 ?_
              refine g_cvI hR ciX4_finding dX4_copy_108 ml_X4_58 (Nat.le_of_ble_eq_true rfl) (by decide) rfl rfl rfl (cx_f0 σ) rfl (Nat.le_of_ble_eq_true rfl) rfl ?_
              exact hE dX4_copy_111 ((if_pos h).symm) ((if_pos h).symm)
            refine g_al_0 hR dX4_copy_76 ?_
            refine gf_X4_sheets hR fl_X4_45 dX4_copy_77 ?_
            refine g_il_1 hR dX4_copy_80 ?_
            refine g_il_2 hR dX4_copy_81 ?_
            refine g_il_5 hR dX4_copy_82 ?_
            refine g_cvI hR ciX0_hasRange dX4_copy_84 ml_X4_228 (Nat.le_of_ble_eq_true rfl) (by decide) rfl rfl rfl (ev_hasRange (s := s) (by omega) hz f n σ hT) rfl (Nat.le_of_ble_eq_true rfl) rfl ?_
            refine g_if_eq (tgt := 105) hR dX4_copy_87 (by decide) (fun h6 => ?_) (fun h6 => ?_)
            · exact far (Or.inl h6)
            · refine g_al_0 hR dX4_copy_90 ?_
              refine gf_X4_sheets hR fl_X4_45 dX4_copy_91 ?_
              refine g_il_3 hR dX4_copy_94 ?_
              refine g_il_4 hR dX4_copy_95 ?_
              refine g_il_5 hR dX4_copy_97 ?_
              refine g_cvI hR ciX0_hasRange dX4_copy_99 ml_X4_228 (Nat.le_of_ble_eq_true rfl) (by decide) rfl rfl rfl (ev_hasRange (s := t) (by omega) hy o n σ hU) rfl (Nat.le_of_ble_eq_true rfl) rfl ?_
              refine g_if_ne (tgt := 112) hR dX4_copy_102 (by decide) (fun h7 => ?_) (fun h7 => ?_)
              · have hr : ¬ (rgB f n z = 0 ∨ rgB o n y = 0) := fun q => q.elim h6 h7
                rw [if_neg hr, if_neg hr] at hE
                obtain ⟨f', n', rfl, rfl, hfn⟩ := rgC_nat hz (rgB_no h6)
                obtain ⟨o', n2, rfl, en, hon⟩ := rgC_nat hy (rgB_no h7)
                have en : n' = n2 := (nI_eq (by omega) (by omega)).mp en
                subst en
                rw [show (nI f').toNatClampNeg = f' from nI_clamp (by omega), show (nI o').toNatClampNeg = o' from nI_clamp (by omega), show (nI n').toNatClampNeg = n' from nI_clamp (by omega)] at hE
                refine g_al_0 hR dX4_copy_112 ?_
                refine gf_X4_sheets hR fl_X4_45 dX4_copy_113 ?_
                refine g_il_1 hR dX4_copy_116 ?_
                refine g_il_2 hR dX4_copy_117 ?_
                refine g_il_3 hR dX4_copy_118 ?_
                refine g_il_4 hR dX4_copy_119 ?_
                refine g_il_5 hR dX4_copy_121 ?_
                refine g_cvV hR ciX0_move dX4_copy_123 ml_X4_231 (Nat.le_of_ble_eq_true rfl) (by decide) rfl rfl rfl (ev_move (s := s) (t := t) (by omega) (by omega) hz hy hfn hon σ hT hU) rfl (Nat.le_of_ble_eq_true rfl) rfl ?_
                refine g_il_5 hR dX4_copy_126 ?_
                exact hE dX4_copy_128 (rfl) (rfl)
              · exact far (Or.inr h7)
          · rw [if_neg h5, if_neg h5] at hE
            refine g_al_0 hR dX4_copy_69 ?_
            refine g_ldc hR dX4_copy_70 kc_X4_205 ?_
            refine g_cvI hR ciX4_finding dX4_copy_72 ml_X4_58 (Nat.le_of_ble_eq_true rfl) (by decide) rfl rfl rfl (cx_f2 σ) rfl (Nat.le_of_ble_eq_true rfl) rfl ?_
            exact hE dX4_copy_75 (rfl) (rfl)
        · exact miss (Or.inr (bI_no h4))
    · exact bad (fun q => bI_0.mp h2 q.2)
