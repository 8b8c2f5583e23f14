set_option maxRecDepth 100000 in
set_option maxHeartbeats 4000000 in
theorem ev_in (v l m : Int32) {l' m' : Int64} (hl : l' = l.toInt64) (hm : m' = m.toInt64) (σ : Hp) : CtI yX5_in wX5_in 0 [.long v.toInt64, .long l', .long m'] σ (bI (l ≤ v ∧ v ≤ m)) (σ) := by
  refine CtI.of (by decide) (Nat.le_of_ble_eq_true rfl) (bI_nar _) rfl (fun G hR hE => ?_)
  subst hl; subst hm
  refine g_ll_0 hR dX5_in_0 ?_
  refine g_ll_2 hR dX5_in_1 ?_
  refine g_lcmp hR dX5_in_2 ?_
  refine g_if_lt (tgt := 17) hR dX5_in_3 (by decide) (fun h1 => ?_) (fun h1 => ?_)
  · rw [lg_cmp_lt, ← Int64.not_le, l_le] at h1
    refine g_iconst_0 hR dX5_in_17 ?_
    exact hE dX5_in_18 (bI_f (fun q => h1 q.1)) (rfl)
  · rw [lg_cmp_lt, Int64.not_lt, l_le] at h1
    refine g_ll_0 hR dX5_in_6 ?_
    refine g_ll_4 hR dX5_in_7 ?_
    refine g_lcmp hR dX5_in_9 ?_
    refine g_if_gt (tgt := 17) hR dX5_in_10 (by decide) (fun h2 => ?_) (fun h2 => ?_)
    · rw [lg_cmp_gt, ← Int64.not_le, l_le] at h2
      refine g_iconst_0 hR dX5_in_17 ?_
      exact hE dX5_in_18 (bI_f (fun q => h2 q.2)) (rfl)
    · rw [lg_cmp_gt, Int64.not_lt, l_le] at h2
      refine g_iconst_1 hR dX5_in_13 ?_
      refine g_goto (tgt := 18) hR dX5_in_14 (by decide) ?_
      exact hE dX5_in_18 (bI_t ⟨h1, h2⟩) (rfl)
set_option maxRecDepth 100000 in
set_option maxHeartbeats 4000000 in
theorem em_isPlace (v : Int32) (σ : Hp) : CtI yX5_isPlace wX5_isPlace 1 [.int v] σ (bI (0 ≤ v ∧ v ≤ 11)) (σ) := by
  refine CtI.of (by decide) (Nat.le_of_ble_eq_true rfl) (bI_nar _) rfl (fun G hR hE => ?_)
  refine g_il_0 hR dX5_isPlace_0 ?_
  refine g_i2l hR dX5_isPlace_1 ?_
  refine g_lconst (v := 0) hR dX5_isPlace_2 (by decide) ?_
  refine g_ldc2 hR dX5_isPlace_3 kl_X5_41 ?_
  refine g_csI hR ciX5_in dX5_isPlace_6 ml_X5_43 (Nat.le_of_ble_eq_true rfl) (ev_in v 0 11 rfl rfl σ) rfl (Nat.le_of_ble_eq_true rfl) rfl ?_
  exact hE dX5_isPlace_9 (rfl) (rfl)
set_option maxRecDepth 100000 in
set_option maxHeartbeats 4000000 in
theorem em_isKind (v : Int32) (σ : Hp) : CtI yX5_isKind wX5_isKind 1 [.int v] σ (bI (0 ≤ v ∧ v ≤ 6)) (σ) := by
  refine CtI.of (by decide) (Nat.le_of_ble_eq_true rfl) (bI_nar _) rfl (fun G hR hE => ?_)
  refine g_il_0 hR dX5_isKind_0 ?_
  refine g_i2l hR dX5_isKind_1 ?_
  refine g_lconst (v := 0) hR dX5_isKind_2 (by decide) ?_
  refine g_ldc2 hR dX5_isKind_3 kl_X5_47 ?_
  refine g_csI hR ciX5_in dX5_isKind_6 ml_X5_43 (Nat.le_of_ble_eq_true rfl) (ev_in v 0 6 rfl rfl σ) rfl (Nat.le_of_ble_eq_true rfl) rfl ?_
  exact hE dX5_isKind_9 (rfl) (rfl)
set_option maxRecDepth 100000 in
set_option maxHeartbeats 4000000 in
theorem em_isPiece {n : Nat} (v : Int32) (hn8 : n ≤ 8) (σ : Hp) (hn : σ 4 1 = nI n) : CtI yX5_isPiece wX5_isPiece 1 [.ref 18, .int v] σ (bI (0 ≤ v ∧ v < σ 4 1)) (σ) := by
  refine CtI.of (by decide) (Nat.le_of_ble_eq_true rfl) (bI_nar _) rfl (fun G hR hE => ?_)
  refine g_il_1 hR dX5_isPiece_0 ?_
  refine g_i2l hR dX5_isPiece_1 ?_
  refine g_lconst (v := 0) hR dX5_isPiece_2 (by decide) ?_
  refine g_al_0 hR dX5_isPiece_3 ?_
  refine gf_X5_s hR fl_X5_7 dX5_isPiece_4 ?_
  refine g_iconst_1 hR dX5_isPiece_7 ?_
  refine ga_19 hR 1 (by decide) rfl dX5_isPiece_8 ?_
  refine g_top hn ?_
  refine g_iconst_1 hR dX5_isPiece_9 ?_
  refine g_isub hR dX5_isPiece_10 ?_
  refine g_i2l hR dX5_isPiece_11 ?_
  refine g_csI hR ciX5_in dX5_isPiece_12 ml_X5_43 (Nat.le_of_ble_eq_true rfl) ((ev_in v 0 (nI n - 1) rfl rfl σ)) rfl (Nat.le_of_ble_eq_true rfl) rfl ?_
  exact hE dX5_isPiece_15 (by rw [hn]; exact bI_c (piece_c hn8)) (rfl)
set_option maxRecDepth 100000 in
set_option maxHeartbeats 4000000 in
theorem em_place (p w : Nat) (σ : Hp) : CtI yX5_place wX5_place 0 [.int (nI p), .int (nI w)] σ (nI (6 + (6 * p + w))) (σ) := by
  refine CtI.of (by decide) (Nat.le_of_ble_eq_true rfl) rfl rfl (fun G hR hE => ?_)
  refine g_bipush_6 hR dX5_place_0 ?_
  refine g_bipush_6 hR dX5_place_2 ?_
  refine g_il_0 hR dX5_place_4 ?_
  refine g_imul hR dX5_place_5 ?_
  refine g_iadd hR dX5_place_6 ?_
  refine g_il_1 hR dX5_place_7 ?_
  refine g_iadd hR dX5_place_8 ?_
  exact hE dX5_place_9 (pl_ix p w) (rfl)
set_option maxRecDepth 100000 in
set_option maxHeartbeats 4000000 in
theorem em_its {p w : Nat} (hp : p < 8) (hw : w < 6) (σ : Hp) : CtI yX5_its wX5_its 1 [.ref 18, .int (nI p), .int (nI w)] σ (pf (σ 4) p w) (σ) := by
  refine CtI.of (by decide) (Nat.le_of_ble_eq_true rfl) rfl rfl (fun G hR hE => ?_)
  refine g_al_0 hR dX5_its_0 ?_
  refine gf_X5_s hR fl_X5_7 dX5_its_1 ?_
  refine g_il_1 hR dX5_its_4 ?_
  refine g_il_2 hR dX5_its_5 ?_
  refine g_csI hR ciX5_place dX5_its_6 ml_X5_49 (Nat.le_of_ble_eq_true rfl) (em_place p w σ) rfl (Nat.le_of_ble_eq_true rfl) rfl ?_
  refine ga_19 hR (6 + (6 * p + w)) (by omega) rfl dX5_its_9 ?_
  exact hE dX5_its_10 (rfl) (rfl)
set_option maxRecDepth 100000 in
set_option maxHeartbeats 4000000 in
theorem em_becomes {j : Nat} (hj : j < 64) (v : Int32) (σ : Hp) : CtI yX5_becomes wX5_becomes 0 [.ref 18, .int (nI j), .int v] σ (σ 4 j) (bset σ 4 (upd (σ 4) j v)) := by
  refine CtI.of (by decide) (Nat.le_of_ble_eq_true rfl) rfl rfl (fun G hR hE => ?_)
  refine g_al_0 hR dX5_becomes_0 ?_
  refine gf_X5_s hR fl_X5_7 dX5_becomes_1 ?_
  refine g_il_1 hR dX5_becomes_4 ?_
  refine ga_19 hR j hj rfl dX5_becomes_5 ?_
  refine g_is_3 hR dX5_becomes_6 trivial ?_
  refine g_al_0 hR dX5_becomes_7 ?_
  refine gf_X5_s hR fl_X5_7 dX5_becomes_8 ?_
  refine g_il_1 hR dX5_becomes_11 ?_
  refine g_il_2 hR dX5_becomes_12 ?_
  refine gs_19 hR j hj rfl dX5_becomes_13 ?_
  refine g_il_3 hR dX5_becomes_14 ?_
  exact hE dX5_becomes_15 (rfl) (rfl)
set_option maxRecDepth 100000 in
set_option maxHeartbeats 4000000 in
theorem em_finds {j : Nat} (hj : j < 7) (f : Int32) (hf : -1000001 - f = nI j) (σ : Hp) : CtI yX5_finds wX5_finds 0 [.ref 18, .int f] σ (f) (bset σ 14 (upd (σ 14) j (σ 14 j + 1))) := by
  refine CtI.of (by decide) (Nat.le_of_ble_eq_true rfl) rfl rfl (fun G hR hE => ?_)
  refine g_al_0 hR dX5_finds_0 ?_
  refine gf_X5_statuses hR fl_X5_22 dX5_finds_1 ?_
  refine g_ldc hR dX5_finds_4 kc_X5_40 ?_
  refine g_il_1 hR dX5_finds_6 ?_
  refine g_isub hR dX5_finds_7 ?_
  refine g_dup2 hR dX5_finds_8 rfl rfl ?_
  refine ga_23 hR j hj hf dX5_finds_9 ?_
  refine g_iconst_1 hR dX5_finds_10 ?_
  refine g_iadd hR dX5_finds_11 ?_
  refine gs_23 hR j hj hf dX5_finds_12 ?_
  refine g_il_1 hR dX5_finds_13 ?_
  exact hE dX5_finds_14 (rfl) (rfl)
set_option maxRecDepth 100000 in
set_option maxHeartbeats 4000000 in
theorem em_heldTo (v m : Int32) (σ : Hp) : CtI yX5_heldTo wX5_heldTo 0 [.int v, .int m] σ (heldF v m) (σ) := by
  refine CtI.of (by decide) (Nat.le_of_ble_eq_true rfl) rfl rfl (fun G hR hE => ?_)
  refine g_il_0 hR dX5_heldTo_0 ?_
  refine g_il_1 hR dX5_heldTo_1 ?_
  refine g_icmp_le (tgt := 9) hR dX5_heldTo_2 (by decide) (fun h1 => ?_) (fun h1 => ?_)
  · refine g_il_0 hR dX5_heldTo_9 ?_
    exact hE dX5_heldTo_10 ((if_neg (Int32.not_lt.mpr h1)).symm) (rfl)
  · refine g_il_1 hR dX5_heldTo_5 ?_
    refine g_goto (tgt := 10) hR dX5_heldTo_6 (by decide) ?_
    exact hE dX5_heldTo_10 ((if_pos (Int32.not_le.mp h1)).symm) (rfl)
set_option maxRecDepth 100000 in
set_option maxHeartbeats 4000000 in
theorem em_least0 (v : Int32) (σ : Hp) : CtI yX5_least0 wX5_least0 0 [.int v] σ (mx0 v) (σ) := by
  refine CtI.of (by decide) (Nat.le_of_ble_eq_true rfl) rfl rfl (fun G hR hE => ?_)
  refine g_il_0 hR dX5_least0_0 ?_
  refine g_if_ge (tgt := 8) hR dX5_least0_1 (by decide) (fun h1 => ?_) (fun h1 => ?_)
  · refine g_il_0 hR dX5_least0_8 ?_
    exact hE dX5_least0_9 ((if_neg (Int32.not_lt.mpr h1)).symm) (rfl)
  · refine g_iconst_0 hR dX5_least0_4 ?_
    refine g_goto (tgt := 9) hR dX5_least0_5 (by decide) ?_
    exact hE dX5_least0_9 ((if_pos (Int32.not_le.mp h1)).symm) (rfl)
set_option maxRecDepth 100000 in
set_option maxHeartbeats 4000000 in
theorem em_distance (a b : Int32) (σ : Hp) : CtI yX5_distance wX5_distance 0 [.int a, .int b] σ (dst a b) (σ) := by
  refine CtI.of (by decide) (Nat.le_of_ble_eq_true rfl) rfl rfl (fun G hR hE => ?_)
  refine g_il_0 hR dX5_distance_0 ?_
  refine g_il_1 hR dX5_distance_1 ?_
  refine g_icmp_ge (tgt := 11) hR dX5_distance_2 (by decide) (fun h1 => ?_) (fun h1 => ?_)
  · refine g_il_0 hR dX5_distance_11 ?_
    refine g_il_1 hR dX5_distance_12 ?_
    refine g_isub hR dX5_distance_13 ?_
    exact hE dX5_distance_14 ((if_neg (Int32.not_lt.mpr h1)).symm) (rfl)
  · refine g_il_1 hR dX5_distance_5 ?_
    refine g_il_0 hR dX5_distance_6 ?_
    refine g_isub hR dX5_distance_7 ?_
    refine g_goto (tgt := 14) hR dX5_distance_8 (by decide) ?_
    exact hE dX5_distance_14 ((if_pos (Int32.not_le.mp h1)).symm) (rfl)
set_option maxRecDepth 100000 in
set_option maxHeartbeats 4000000 in
theorem em_saves (σ : Hp) : CtV yX5_saves wX5_saves 0 [.ref 18] σ (bset σ 6 (cpN (σ 4) (σ 6) 64)) := by
  refine CtV.of (by decide) (Nat.le_of_ble_eq_true rfl) rfl (fun G hR hE => ?_)
  have lp : ∀ d j, j + d = 64 → G 2 [some (.ref 18), some (.int (nI j))] [] (bset σ 6 (cpN (σ 4) (σ 6) j)) := by
    intro d
    induction d with
    | zero =>
      intro j hj
      obtain rfl : j = 64 := by omega
      refine g_il_1 hR dX5_saves_2 ?_
      refine g_bipush_64 hR dX5_saves_3 ?_
      refine g_icmp_ge (tgt := 26) hR dX5_saves_5 (by decide) (fun _ => ?_) (fun hc => absurd (Int32.le_refl _) hc)
      exact hE dX5_saves_26 (rfl)
    | succ d ih =>
      intro j hj
      refine g_il_1 hR dX5_saves_2 ?_
      refine g_bipush_64 hR dX5_saves_3 ?_
      refine g_icmp_ge (tgt := 26) hR dX5_saves_5 (by decide) (fun hc => absurd hc (nI_ge (b := 64) (by omega) (by decide))) (fun _ => ?_)
      refine g_al_0 hR dX5_saves_8 ?_
      refine gf_X5_other hR fl_X5_16 dX5_saves_9 ?_
      refine g_il_1 hR dX5_saves_12 ?_
      refine g_al_0 hR dX5_saves_13 ?_
      refine gf_X5_s hR fl_X5_7 dX5_saves_14 ?_
      refine g_il_1 hR dX5_saves_17 ?_
      refine ga_19 hR j (by omega) rfl dX5_saves_18 ?_
      refine gs_21 hR j (by omega) rfl dX5_saves_19 ?_
      refine g_inc_1 hR dX5_saves_20 trivial ?_
      refine g_goto (tgt := 2) hR dX5_saves_23 (by decide) ?_
      rw [bset_n (show 4 ≠ 6 by decide), hset_e, bset_s, bset_bset, cpN_s]
      exact ih (j + 1) (by omega)
  refine g_iconst_0 hR dX5_saves_0 ?_
  refine g_is_1 hR dX5_saves_1 trivial ?_
  refine g_eq (τ := bset σ 6 (cpN (σ 4) (σ 6) 0)) (by rw [cpN_0, bset_id]) ?_
  exact lp 64 0 rfl
set_option maxRecDepth 100000 in
set_option maxHeartbeats 4000000 in
theorem em_putsBack (σ : Hp) : CtV yX5_putsBack wX5_putsBack 0 [.ref 18] σ (bset σ 4 (cpN (σ 6) (σ 4) 64)) := by
  refine CtV.of (by decide) (Nat.le_of_ble_eq_true rfl) rfl (fun G hR hE => ?_)
  have lp : ∀ d j, j + d = 64 → G 2 [some (.ref 18), some (.int (nI j))] [] (bset σ 4 (cpN (σ 6) (σ 4) j)) := by
    intro d
    induction d with
    | zero =>
      intro j hj
      obtain rfl : j = 64 := by omega
      refine g_il_1 hR dX5_putsBack_2 ?_
      refine g_bipush_64 hR dX5_putsBack_3 ?_
      refine g_icmp_ge (tgt := 26) hR dX5_putsBack_5 (by decide) (fun _ => ?_) (fun hc => absurd (Int32.le_refl _) hc)
      exact hE dX5_putsBack_26 (rfl)
    | succ d ih =>
      intro j hj
      refine g_il_1 hR dX5_putsBack_2 ?_
      refine g_bipush_64 hR dX5_putsBack_3 ?_
      refine g_icmp_ge (tgt := 26) hR dX5_putsBack_5 (by decide) (fun hc => absurd hc (nI_ge (b := 64) (by omega) (by decide))) (fun _ => ?_)
      refine g_al_0 hR dX5_putsBack_8 ?_
      refine gf_X5_s hR fl_X5_7 dX5_putsBack_9 ?_
      refine g_il_1 hR dX5_putsBack_12 ?_
      refine g_al_0 hR dX5_putsBack_13 ?_
      refine gf_X5_other hR fl_X5_16 dX5_putsBack_14 ?_
      refine g_il_1 hR dX5_putsBack_17 ?_
      refine ga_21 hR j (by omega) rfl dX5_putsBack_18 ?_
      refine gs_19 hR j (by omega) rfl dX5_putsBack_19 ?_
      refine g_inc_1 hR dX5_putsBack_20 trivial ?_
      refine g_goto (tgt := 2) hR dX5_putsBack_23 (by decide) ?_
      rw [bset_n (show 6 ≠ 4 by decide), hset_e, bset_s, bset_bset, cpN_s]
      exact ih (j + 1) (by omega)
  refine g_iconst_0 hR dX5_putsBack_0 ?_
  refine g_is_1 hR dX5_putsBack_1 trivial ?_
  refine g_eq (τ := bset σ 4 (cpN (σ 6) (σ 4) 0)) (by rw [cpN_0, bset_id]) ?_
  exact lp 64 0 rfl
set_option maxRecDepth 100000 in
set_option maxHeartbeats 4000000 in
theorem em_laysAside (σ : Hp) : CtV yX5_laysAside wX5_laysAside 0 [.ref 18] σ (bset σ 7 (cpN (σ 4) (σ 7) 64)) := by
  refine CtV.of (by decide) (Nat.le_of_ble_eq_true rfl) rfl (fun G hR hE => ?_)
  have lp : ∀ d j, j + d = 64 → G 2 [some (.ref 18), some (.int (nI j))] [] (bset σ 7 (cpN (σ 4) (σ 7) j)) := by
    intro d
    induction d with
    | zero =>
      intro j hj
      obtain rfl : j = 64 := by omega
      refine g_il_1 hR dX5_laysAside_2 ?_
      refine g_bipush_64 hR dX5_laysAside_3 ?_
      refine g_icmp_ge (tgt := 26) hR dX5_laysAside_5 (by decide) (fun _ => ?_) (fun hc => absurd (Int32.le_refl _) hc)
      exact hE dX5_laysAside_26 (rfl)
    | succ d ih =>
      intro j hj
      refine g_il_1 hR dX5_laysAside_2 ?_
      refine g_bipush_64 hR dX5_laysAside_3 ?_
      refine g_icmp_ge (tgt := 26) hR dX5_laysAside_5 (by decide) (fun hc => absurd hc (nI_ge (b := 64) (by omega) (by decide))) (fun _ => ?_)
      refine g_al_0 hR dX5_laysAside_8 ?_
      refine gf_X5_aside hR fl_X5_19 dX5_laysAside_9 ?_
      refine g_il_1 hR dX5_laysAside_12 ?_
      refine g_al_0 hR dX5_laysAside_13 ?_
      refine gf_X5_s hR fl_X5_7 dX5_laysAside_14 ?_
      refine g_il_1 hR dX5_laysAside_17 ?_
      refine ga_19 hR j (by omega) rfl dX5_laysAside_18 ?_
      refine gs_22 hR j (by omega) rfl dX5_laysAside_19 ?_
      refine g_inc_1 hR dX5_laysAside_20 trivial ?_
      refine g_goto (tgt := 2) hR dX5_laysAside_23 (by decide) ?_
      rw [bset_n (show 4 ≠ 7 by decide), hset_e, bset_s, bset_bset, cpN_s]
      exact ih (j + 1) (by omega)
  refine g_iconst_0 hR dX5_laysAside_0 ?_
  refine g_is_1 hR dX5_laysAside_1 trivial ?_
  refine g_eq (τ := bset σ 7 (cpN (σ 4) (σ 7) 0)) (by rw [cpN_0, bset_id]) ?_
  exact lp 64 0 rfl
set_option maxRecDepth 100000 in
set_option maxHeartbeats 4000000 in
theorem em_takesBack (v : Int32) (σ : Hp) : CtI yX5_takesBack wX5_takesBack 0 [.ref 18, .int v] σ (v) (bset σ 4 (cpN (σ 7) (σ 4) 64)) := by
  refine CtI.of (by decide) (Nat.le_of_ble_eq_true rfl) rfl rfl (fun G hR hE => ?_)
  have lp : ∀ d j, j + d = 64 → G 2 [some (.ref 18), some (.int v), some (.int (nI j))] [] (bset σ 4 (cpN (σ 7) (σ 4) j)) := by
    intro d
    induction d with
    | zero =>
      intro j hj
      obtain rfl : j = 64 := by omega
      refine g_il_2 hR dX5_takesBack_2 ?_
      refine g_bipush_64 hR dX5_takesBack_3 ?_
      refine g_icmp_ge (tgt := 26) hR dX5_takesBack_5 (by decide) (fun _ => ?_) (fun hc => absurd (Int32.le_refl _) hc)
      refine g_il_1 hR dX5_takesBack_26 ?_
      exact hE dX5_takesBack_27 (rfl) (rfl)
    | succ d ih =>
      intro j hj
      refine g_il_2 hR dX5_takesBack_2 ?_
      refine g_bipush_64 hR dX5_takesBack_3 ?_
      refine g_icmp_ge (tgt := 26) hR dX5_takesBack_5 (by decide) (fun hc => absurd hc (nI_ge (b := 64) (by omega) (by decide))) (fun _ => ?_)
      refine g_al_0 hR dX5_takesBack_8 ?_
      refine gf_X5_s hR fl_X5_7 dX5_takesBack_9 ?_
      refine g_il_2 hR dX5_takesBack_12 ?_
      refine g_al_0 hR dX5_takesBack_13 ?_
      refine gf_X5_aside hR fl_X5_19 dX5_takesBack_14 ?_
      refine g_il_2 hR dX5_takesBack_17 ?_
      refine ga_22 hR j (by omega) rfl dX5_takesBack_18 ?_
      refine gs_19 hR j (by omega) rfl dX5_takesBack_19 ?_
      refine g_inc_2 hR dX5_takesBack_20 trivial ?_
      refine g_goto (tgt := 2) hR dX5_takesBack_23 (by decide) ?_
      rw [bset_n (show 7 ≠ 4 by decide), hset_e, bset_s, bset_bset, cpN_s]
      exact ih (j + 1) (by omega)
  refine g_iconst_0 hR dX5_takesBack_0 ?_
  refine g_is_2 hR dX5_takesBack_1 trivial ?_
  refine g_eq (τ := bset σ 4 (cpN (σ 7) (σ 4) 0)) (by rw [cpN_0, bset_id]) ?_
  exact lp 64 0 rfl
set_option maxRecDepth 100000 in
set_option maxHeartbeats 4000000 in
theorem em_adds {n : Nat} (hn8 : n < 8) (kind place : Int32) (σ : Hp) (hn : σ 4 1 = nI n) : CtI yX5_adds wX5_adds 1 [.ref 18, .int kind, .int place] σ (nI n) (bset σ 4 (addS (σ 4) n kind place)) := by
  refine CtI.of (by decide) (Nat.le_of_ble_eq_true rfl) rfl rfl (fun G hR hE => ?_)
  have lp : ∀ d j, j + d = 6 → G 10 [some (.ref 18), some (.int kind), some (.int place), some (.int (nI n)), some (.int (nI j))] [] (bset σ 4 (zerN (σ 4) n j)) := by
    intro d
    induction d with
    | zero =>
      intro j hj
      obtain rfl : j = 6 := by omega
      refine g_il_4 hR dX5_adds_10 ?_
      refine g_bipush_6 hR dX5_adds_12 ?_
      refine g_icmp_ge (tgt := 35) hR dX5_adds_14 (by decide) (fun _ => ?_) (fun hc => absurd (Int32.le_refl _) hc)
      refine g_al_0 hR dX5_adds_35 ?_
      refine gf_X5_s hR fl_X5_7 dX5_adds_36 ?_
      refine g_il_3 hR dX5_adds_39 ?_
      refine g_iconst_0 hR dX5_adds_40 ?_
      refine g_csI hR ciX5_place dX5_adds_41 ml_X5_49 (Nat.le_of_ble_eq_true rfl) (em_place n 0 _) rfl (Nat.le_of_ble_eq_true rfl) rfl ?_
      refine g_il_1 hR dX5_adds_44 ?_
      refine gs_19 hR (6 + (6 * n + 0)) (by omega) rfl dX5_adds_45 ?_
      refine g_al_0 hR dX5_adds_46 ?_
      refine gf_X5_s hR fl_X5_7 dX5_adds_47 ?_
      refine g_il_3 hR dX5_adds_50 ?_
      refine g_iconst_1 hR dX5_adds_51 ?_
      refine g_csI hR ciX5_place dX5_adds_52 ml_X5_49 (Nat.le_of_ble_eq_true rfl) (em_place n 1 _) rfl (Nat.le_of_ble_eq_true rfl) rfl ?_
      refine g_il_2 hR dX5_adds_55 ?_
      refine gs_19 hR (6 + (6 * n + 1)) (by omega) rfl dX5_adds_56 ?_
      refine g_al_0 hR dX5_adds_57 ?_
      refine gf_X5_s hR fl_X5_7 dX5_adds_58 ?_
      refine g_il_3 hR dX5_adds_61 ?_
      refine g_iconst_2 hR dX5_adds_62 ?_
      refine g_csI hR ciX5_place dX5_adds_63 ml_X5_49 (Nat.le_of_ble_eq_true rfl) (em_place n 2 _) rfl (Nat.le_of_ble_eq_true rfl) rfl ?_
      refine g_bipush_10 hR dX5_adds_66 ?_
      refine gs_19 hR (6 + (6 * n + 2)) (by omega) rfl dX5_adds_68 ?_
      refine g_al_0 hR dX5_adds_69 ?_
      refine gf_X5_s hR fl_X5_7 dX5_adds_70 ?_
      refine g_iconst_1 hR dX5_adds_73 ?_
      refine g_dup2 hR dX5_adds_74 rfl rfl ?_
      refine ga_19 hR 1 (by decide) rfl dX5_adds_75 ?_
      refine g_iconst_1 hR dX5_adds_76 ?_
      refine g_iadd hR dX5_adds_77 ?_
      refine gs_19 hR 1 (by decide) rfl dX5_adds_78 ?_
      refine g_il_3 hR dX5_adds_79 ?_
      exact hE dX5_adds_80 (rfl) (by rw [← add_eq]; simp only [hset_e, bset_s, bset_bset]; rw [show upd (upd (upd (zerN (σ 4) n 6) (6 + (6 * n + 0)) kind) (6 + (6 * n + 1)) place) (6 + (6 * n + 2)) 10 1 = σ 4 1 by rw [upd_n (by omega), upd_n (by omega), upd_n (by omega)]; unfold zerN; rw [if_neg (by omega)]]; rfl)
    | succ d ih =>
      intro j hj
      refine g_il_4 hR dX5_adds_10 ?_
      refine g_bipush_6 hR dX5_adds_12 ?_
      refine g_icmp_ge (tgt := 35) hR dX5_adds_14 (by decide) (fun hc => absurd hc (nI_ge (b := 6) (by omega) (by decide))) (fun _ => ?_)
      refine g_al_0 hR dX5_adds_17 ?_
      refine gf_X5_s hR fl_X5_7 dX5_adds_18 ?_
      refine g_il_3 hR dX5_adds_21 ?_
      refine g_il_4 hR dX5_adds_22 ?_
      refine g_csI hR ciX5_place dX5_adds_24 ml_X5_49 (Nat.le_of_ble_eq_true rfl) (em_place n j _) rfl (Nat.le_of_ble_eq_true rfl) rfl ?_
      refine g_iconst_0 hR dX5_adds_27 ?_
      refine gs_19 hR (6 + (6 * n + j)) (by omega) rfl dX5_adds_28 ?_
      refine g_inc_4 hR dX5_adds_29 trivial ?_
      refine g_goto (tgt := 10) hR dX5_adds_32 (by decide) ?_
      rw [hset_e, bset_s, bset_bset, zerN_s]
      exact ih (j + 1) (by omega)
  refine g_al_0 hR dX5_adds_0 ?_
  refine gf_X5_s hR fl_X5_7 dX5_adds_1 ?_
  refine g_iconst_1 hR dX5_adds_4 ?_
  refine ga_19 hR 1 (by decide) rfl dX5_adds_5 ?_
  refine g_top hn ?_
  refine g_is_3 hR dX5_adds_6 trivial ?_
  refine g_iconst_0 hR dX5_adds_7 ?_
  refine g_is_4 hR dX5_adds_8 trivial ?_
  refine g_eq (τ := bset σ 4 (zerN (σ 4) n 0)) (by rw [zerN_0, bset_id]) ?_
  exact lp 6 0 rfl
set_option maxRecDepth 100000 in
set_option maxHeartbeats 4000000 in
theorem em_pullsOf {n p : Nat} {d : Int} (hp : p < 8) (σ : Hp) (hG : Gd (σ 4) n d) : CtI yX5_pullsOf wX5_pullsOf 2 [.ref 18, .int (nI p)] σ (pulF (σ 4) p) (σ) := by
  refine CtI.of (by decide) (Nat.le_of_ble_eq_true rfl) rfl rfl (fun G hR hE => ?_)
  have key : ∀ x4 x5, G 35 [some (.ref 18), some (.int (nI p)), some (.int (pf (σ 4) p 2)), some (.int (pf (σ 4) p 2 + pf (σ 4) p 4)), x4, x5] [.int (bdF (σ 4) p)] σ := by
    intro x4 x5
    refine g_is_4 hR dX5_pullsOf_35 trivial ?_
    refine g_il_4 hR dX5_pullsOf_37 ?_
    refine g_al_0 hR dX5_pullsOf_39 ?_
    refine g_il_1 hR dX5_pullsOf_40 ?_
    refine g_iconst_3 hR dX5_pullsOf_41 ?_
    refine g_cvI hR ciX5_its dX5_pullsOf_42 ml_X5_73 (Nat.le_of_ble_eq_true rfl) (by decide) rfl rfl rfl (em_its hp (w := 3) (by decide) σ) rfl (Nat.le_of_ble_eq_true rfl) rfl ?_
    refine g_isub hR dX5_pullsOf_45 ?_
    refine g_csI hR ciX5_least0 dX5_pullsOf_46 ml_X5_76 (Nat.le_of_ble_eq_true rfl) (em_least0 _ σ) rfl (Nat.le_of_ble_eq_true rfl) rfl ?_
    refine g_is_5 hR dX5_pullsOf_49 trivial ?_
    refine g_al_0 hR dX5_pullsOf_51 ?_
    refine g_il_1 hR dX5_pullsOf_52 ?_
    refine g_iconst_0 hR dX5_pullsOf_53 ?_
    refine g_cvI hR ciX5_its dX5_pullsOf_54 ml_X5_73 (Nat.le_of_ble_eq_true rfl) (by decide) rfl rfl rfl (em_its hp (w := 0) (by decide) σ) rfl (Nat.le_of_ble_eq_true rfl) rfl ?_
    rcases kind_c hG hp with h | h | h | h | h | h | h
    · refine g_top h ?_
      refine g_tout (tgt := 133) hR dX5_pullsOf_57 (by decide) (by decide) ?_
      refine g_il_2 hR dX5_pullsOf_133 ?_
      exact hE dX5_pullsOf_134 ((pul_0 h).symm) (rfl)
    · refine g_top h ?_
      refine g_tin (off := 39) (tgt := 96) hR dX5_pullsOf_57 (by decide) (by decide) (by decide) (by decide) ?_
      refine g_il_3 hR dX5_pullsOf_96 ?_
      exact hE dX5_pullsOf_97 ((pul_1 h).symm) (rfl)
    · refine g_top h ?_
      refine g_tin (off := 41) (tgt := 98) hR dX5_pullsOf_57 (by decide) (by decide) (by decide) (by decide) ?_
      refine g_il_4 hR dX5_pullsOf_98 ?_
      exact hE dX5_pullsOf_100 ((pul_2 h).symm) (rfl)
    · refine g_top h ?_
      refine g_tin (off := 44) (tgt := 101) hR dX5_pullsOf_57 (by decide) (by decide) (by decide) (by decide) ?_
      refine g_il_5 hR dX5_pullsOf_101 ?_
      exact hE dX5_pullsOf_103 ((pul_3 h).symm) (rfl)
    · refine g_top h ?_
      refine g_tin (off := 47) (tgt := 104) hR dX5_pullsOf_57 (by decide) (by decide) (by decide) (by decide) ?_
      refine g_il_5 hR dX5_pullsOf_104 ?_
      refine g_iconst_5 hR dX5_pullsOf_106 ?_
      refine g_al_0 hR dX5_pullsOf_107 ?_
      refine g_il_1 hR dX5_pullsOf_108 ?_
      refine g_iconst_1 hR dX5_pullsOf_109 ?_
      refine g_cvI hR ciX5_its dX5_pullsOf_110 ml_X5_73 (Nat.le_of_ble_eq_true rfl) (by decide) rfl rfl rfl (em_its hp (w := 1) (by decide) σ) rfl (Nat.le_of_ble_eq_true rfl) rfl ?_
      refine g_al_0 hR dX5_pullsOf_113 ?_
      refine gf_X5_s hR fl_X5_7 dX5_pullsOf_114 ?_
      refine g_iconst_2 hR dX5_pullsOf_117 ?_
      refine ga_19 hR 2 (by decide) rfl dX5_pullsOf_118 ?_
      refine g_csI hR ciX5_distance dX5_pullsOf_119 ml_X5_79 (Nat.le_of_ble_eq_true rfl) (em_distance _ _ σ) rfl (Nat.le_of_ble_eq_true rfl) rfl ?_
      refine g_imul hR dX5_pullsOf_122 ?_
      refine g_iadd hR dX5_pullsOf_123 ?_
      exact hE dX5_pullsOf_124 ((pul_4 h).symm) (rfl)
    · refine g_top h ?_
      refine g_tin (off := 68) (tgt := 125) hR dX5_pullsOf_57 (by decide) (by decide) (by decide) (by decide) ?_
      refine g_il_2 hR dX5_pullsOf_125 ?_
      refine g_iconst_2 hR dX5_pullsOf_126 ?_
      refine g_idiv hR dX5_pullsOf_127 (by decide) ?_
      exact hE dX5_pullsOf_128 ((pul_5 h).symm) (rfl)
    · refine g_top h ?_
      refine g_tin (off := 72) (tgt := 129) hR dX5_pullsOf_57 (by decide) (by decide) (by decide) (by decide) ?_
      refine g_iconst_2 hR dX5_pullsOf_129 ?_
      refine g_il_3 hR dX5_pullsOf_130 ?_
      refine g_imul hR dX5_pullsOf_131 ?_
      exact hE dX5_pullsOf_132 ((pul_6 h).symm) (rfl)
  refine g_al_0 hR dX5_pullsOf_0 ?_
  refine g_il_1 hR dX5_pullsOf_1 ?_
  refine g_iconst_2 hR dX5_pullsOf_2 ?_
  refine g_cvI hR ciX5_its dX5_pullsOf_3 ml_X5_73 (Nat.le_of_ble_eq_true rfl) (by decide) rfl rfl rfl (em_its hp (w := 2) (by decide) σ) rfl (Nat.le_of_ble_eq_true rfl) rfl ?_
  refine g_is_2 hR dX5_pullsOf_6 trivial ?_
  refine g_il_2 hR dX5_pullsOf_7 ?_
  refine g_al_0 hR dX5_pullsOf_8 ?_
  refine g_il_1 hR dX5_pullsOf_9 ?_
  refine g_iconst_4 hR dX5_pullsOf_10 ?_
  refine g_cvI hR ciX5_its dX5_pullsOf_11 ml_X5_73 (Nat.le_of_ble_eq_true rfl) (by decide) rfl rfl rfl (em_its hp (w := 4) (by decide) σ) rfl (Nat.le_of_ble_eq_true rfl) rfl ?_
  refine g_iadd hR dX5_pullsOf_14 ?_
  refine g_is_3 hR dX5_pullsOf_15 trivial ?_
  refine g_al_0 hR dX5_pullsOf_16 ?_
  refine gf_X5_s hR fl_X5_7 dX5_pullsOf_17 ?_
  refine g_iconst_0 hR dX5_pullsOf_20 ?_
  refine ga_19 hR 0 (by decide) rfl dX5_pullsOf_21 ?_
  refine g_bipush_7 hR dX5_pullsOf_22 ?_
  refine g_irem hR dX5_pullsOf_24 (by decide) ?_
  refine g_if_ne (tgt := 34) hR dX5_pullsOf_25 (by decide) (fun h1 => ?_) (fun h1 => ?_)
  · refine g_il_2 hR dX5_pullsOf_34 ?_
    exact g_top (if_neg h1).symm (key _ _)
  · refine g_iconst_3 hR dX5_pullsOf_28 ?_
    refine g_il_2 hR dX5_pullsOf_29 ?_
    refine g_imul hR dX5_pullsOf_30 ?_
    refine g_goto (tgt := 35) hR dX5_pullsOf_31 (by decide) ?_
    exact g_top (if_pos h1).symm (key _ _)
set_option maxRecDepth 100000 in
set_option maxHeartbeats 4000000 in
theorem em_lastsOf {p : Nat} (hp : p < 8) (σ : Hp) : CtI yX5_lastsOf wX5_lastsOf 2 [.ref 18, .int (nI p)] σ (lasF (pf (σ 4) p 0)) (σ) := by
  refine CtI.of (by decide) (Nat.le_of_ble_eq_true rfl) rfl rfl (fun G hR hE => ?_)
  refine g_al_0 hR dX5_lastsOf_0 ?_
  refine g_il_1 hR dX5_lastsOf_1 ?_
  refine g_iconst_0 hR dX5_lastsOf_2 ?_
  refine g_cvI hR ciX5_its dX5_lastsOf_3 ml_X5_73 (Nat.le_of_ble_eq_true rfl) (by decide) rfl rfl rfl (em_its hp (w := 0) (by decide) σ) rfl (Nat.le_of_ble_eq_true rfl) rfl ?_
  refine g_iconst_1 hR dX5_lastsOf_6 ?_
  refine g_icmp_ne (tgt := 15) hR dX5_lastsOf_7 (by decide) (fun h1 => ?_) (fun h1 => ?_)
  · refine g_al_0 hR dX5_lastsOf_15 ?_
    refine g_il_1 hR dX5_lastsOf_16 ?_
    refine g_iconst_0 hR dX5_lastsOf_17 ?_
    refine g_cvI hR ciX5_its dX5_lastsOf_18 ml_X5_73 (Nat.le_of_ble_eq_true rfl) (by decide) rfl rfl rfl (em_its hp (w := 0) (by decide) σ) rfl (Nat.le_of_ble_eq_true rfl) rfl ?_
    refine g_bipush_6 hR dX5_lastsOf_21 ?_
    refine g_icmp_ne (tgt := 31) hR dX5_lastsOf_23 (by decide) (fun h2 => ?_) (fun h2 => ?_)
    · refine g_iconst_0 hR dX5_lastsOf_31 ?_
      exact hE dX5_lastsOf_32 (by unfold lasF; rw [if_neg h1, if_neg h2]) (rfl)
    · refine g_bipush_10 hR dX5_lastsOf_26 ?_
      refine g_goto (tgt := 32) hR dX5_lastsOf_28 (by decide) ?_
      exact hE dX5_lastsOf_32 (by unfold lasF; rw [if_neg h1, if_pos h2]) (rfl)
  · refine g_bipush_30 hR dX5_lastsOf_10 ?_
    refine g_goto (tgt := 32) hR dX5_lastsOf_12 (by decide) ?_
    exact hE dX5_lastsOf_32 (by unfold lasF; rw [if_pos h1]) (rfl)
set_option maxRecDepth 100000 in
set_option maxHeartbeats 4000000 in
theorem em_givesOf {p : Nat} (hp : p < 8) (σ : Hp) : CtI yX5_givesOf wX5_givesOf 2 [.ref 18, .int (nI p)] σ (givF (pf (σ 4) p 0)) (σ) := by
  refine CtI.of (by decide) (Nat.le_of_ble_eq_true rfl) rfl rfl (fun G hR hE => ?_)
  refine g_al_0 hR dX5_givesOf_0 ?_
  refine g_il_1 hR dX5_givesOf_1 ?_
  refine g_iconst_0 hR dX5_givesOf_2 ?_
  refine g_cvI hR ciX5_its dX5_givesOf_3 ml_X5_73 (Nat.le_of_ble_eq_true rfl) (by decide) rfl rfl rfl (em_its hp (w := 0) (by decide) σ) rfl (Nat.le_of_ble_eq_true rfl) rfl ?_
  refine g_is_2 hR dX5_givesOf_6 trivial ?_
  refine g_il_2 hR dX5_givesOf_7 ?_
  refine g_iconst_5 hR dX5_givesOf_8 ?_
  refine g_icmp_ne (tgt := 16) hR dX5_givesOf_9 (by decide) (fun h1 => ?_) (fun h1 => ?_)
  · refine g_il_2 hR dX5_givesOf_16 ?_
    refine g_iconst_3 hR dX5_givesOf_17 ?_
    refine g_icmp_ne (tgt := 25) hR dX5_givesOf_18 (by decide) (fun h2 => ?_) (fun h2 => ?_)
    · refine g_il_2 hR dX5_givesOf_25 ?_
      refine g_iconst_4 hR dX5_givesOf_26 ?_
      refine g_icmp_ne (tgt := 34) hR dX5_givesOf_27 (by decide) (fun h3 => ?_) (fun h3 => ?_)
      · refine g_iconst_0 hR dX5_givesOf_34 ?_
        exact hE dX5_givesOf_35 (by unfold givF; rw [if_neg h1, if_neg h2, if_neg h3]) (rfl)
      · refine g_iconst_3 hR dX5_givesOf_30 ?_
        refine g_goto (tgt := 35) hR dX5_givesOf_31 (by decide) ?_
        exact hE dX5_givesOf_35 (by unfold givF; rw [if_neg h1, if_neg h2, if_pos h3]) (rfl)
    · refine g_iconst_2 hR dX5_givesOf_21 ?_
      refine g_goto (tgt := 35) hR dX5_givesOf_22 (by decide) ?_
      exact hE dX5_givesOf_35 (by unfold givF; rw [if_neg h1, if_pos h2]) (rfl)
  · refine g_iconst_5 hR dX5_givesOf_12 ?_
    refine g_goto (tgt := 35) hR dX5_givesOf_13 (by decide) ?_
    exact hE dX5_givesOf_35 (by unfold givF; rw [if_pos h1]) (rfl)
set_option maxRecDepth 100000 in
set_option maxHeartbeats 4000000 in
theorem em_longFrom {n q : Nat} (hq : q ≤ n) (hn8 : n ≤ 8) (σ : Hp) (hn : σ 4 1 = nI n) : CtI yX5_longFrom wX5_longFrom 2 [.ref 18, .int (nI q)] σ (lngF (σ 4) n q) (σ) := by
  refine CtI.of (by decide) (Nat.le_of_ble_eq_true rfl) rfl rfl (fun G hR hE => ?_)
  have lp : ∀ d j, j + d = n → q ≤ j → G 4 [some (.ref 18), some (.int (nI q)), some (.int (sumD (fun i => pf (σ 4) i 2) j q)), some (.int (nI j))] [] σ := by
    intro d
    induction d with
    | zero =>
      intro j hj hqj
      obtain rfl : j = n := by omega
      refine g_il_3 hR dX5_longFrom_4 ?_
      refine g_al_0 hR dX5_longFrom_5 ?_
      refine gf_X5_s hR fl_X5_7 dX5_longFrom_6 ?_
      refine g_iconst_1 hR dX5_longFrom_9 ?_
      refine ga_19 hR 1 (by decide) rfl dX5_longFrom_10 ?_
      refine g_top hn ?_
      refine g_icmp_ge (tgt := 29) hR dX5_longFrom_11 (by decide) (fun _ => ?_) (fun hc => absurd (Int32.le_refl _) hc)
      refine g_il_2 hR dX5_longFrom_29 ?_
      exact hE dX5_longFrom_30 (rfl) (rfl)
    | succ d ih =>
      intro j hj hqj
      refine g_il_3 hR dX5_longFrom_4 ?_
      refine g_al_0 hR dX5_longFrom_5 ?_
      refine gf_X5_s hR fl_X5_7 dX5_longFrom_6 ?_
      refine g_iconst_1 hR dX5_longFrom_9 ?_
      refine ga_19 hR 1 (by decide) rfl dX5_longFrom_10 ?_
      refine g_top hn ?_
      refine g_icmp_ge (tgt := 29) hR dX5_longFrom_11 (by decide) (fun hc => absurd hc (nI_ge (by omega) (by omega))) (fun _ => ?_)
      refine g_il_2 hR dX5_longFrom_14 ?_
      refine g_al_0 hR dX5_longFrom_15 ?_
      refine g_il_3 hR dX5_longFrom_16 ?_
      refine g_iconst_2 hR dX5_longFrom_17 ?_
      refine g_cvI hR ciX5_its dX5_longFrom_18 ml_X5_73 (Nat.le_of_ble_eq_true rfl) (by decide) rfl rfl rfl (em_its (p := j) (w := 2) (by omega) (by decide) σ) rfl (Nat.le_of_ble_eq_true rfl) rfl ?_
      refine g_iadd hR dX5_longFrom_21 ?_
      refine g_top (sumD_succ (fun i => pf (σ 4) i 2) hqj).symm ?_
      refine g_is_2 hR dX5_longFrom_22 trivial ?_
      refine g_inc_3 hR dX5_longFrom_23 trivial ?_
      refine g_goto (tgt := 4) hR dX5_longFrom_26 (by decide) ?_
      exact ih (j + 1) (by omega) (by omega)
  refine g_iconst_0 hR dX5_longFrom_0 ?_
  refine g_is_2 hR dX5_longFrom_1 trivial ?_
  refine g_il_1 hR dX5_longFrom_2 ?_
  refine g_is_3 hR dX5_longFrom_3 trivial ?_
  have := lp (n - q) q (by omega) (Nat.le_refl q)
  rw [sumD_n] at this
  exact this
set_option maxRecDepth 100000 in
set_option maxHeartbeats 4000000 in
theorem em_feltOf {n p : Nat} {d : Int} (hp : p < n) (σ : Hp) (hG : Gd (σ 4) n d) : CtI yX5_feltOf wX5_feltOf 3 [.ref 18, .int (nI p)] σ (fltF (σ 4) n p) (σ) := by
  refine CtI.of (by decide) (Nat.le_of_ble_eq_true rfl) rfl rfl (fun G hR hE => ?_)
  have hn8 := hG.1
  refine g_al_0 hR dX5_feltOf_0 ?_
  refine g_il_1 hR dX5_feltOf_1 ?_
  refine g_iconst_3 hR dX5_feltOf_2 ?_
  refine g_cvI hR ciX5_its dX5_feltOf_3 ml_X5_73 (Nat.le_of_ble_eq_true rfl) (by decide) rfl rfl rfl (em_its (p := p) (w := 3) (by omega) (by decide) σ) rfl (Nat.le_of_ble_eq_true rfl) rfl ?_
  refine g_al_0 hR dX5_feltOf_6 ?_
  refine g_il_1 hR dX5_feltOf_7 ?_
  refine g_cvI hR ciX5_givesOf dX5_feltOf_8 ml_X5_82 (Nat.le_of_ble_eq_true rfl) (by decide) rfl rfl rfl (em_givesOf (p := p) (by omega) σ) rfl (Nat.le_of_ble_eq_true rfl) rfl ?_
  refine g_isub hR dX5_feltOf_11 ?_
  refine g_csI hR ciX5_least0 dX5_feltOf_12 ml_X5_76 (Nat.le_of_ble_eq_true rfl) (em_least0 _ σ) rfl (Nat.le_of_ble_eq_true rfl) rfl ?_
  refine g_is_2 hR dX5_feltOf_15 trivial ?_
  refine g_al_0 hR dX5_feltOf_16 ?_
  refine gf_X5_loose hR fl_X5_85 dX5_feltOf_17 ?_
  refine g_il_1 hR dX5_feltOf_20 ?_
  refine g_ishr hR dX5_feltOf_21 ?_
  refine g_iconst_1 hR dX5_feltOf_22 ?_
  refine g_iand hR dX5_feltOf_23 ?_
  refine g_iconst_1 hR dX5_feltOf_24 ?_
  refine g_icmp_ne (tgt := 32) hR dX5_feltOf_25 (by decide) (fun h1 => ?_) (fun h1 => ?_)
  · refine g_al_0 hR dX5_feltOf_32 ?_
    refine g_il_1 hR dX5_feltOf_33 ?_
    refine g_cvI hR ciX5_pullsOf dX5_feltOf_34 ml_X5_89 (Nat.le_of_ble_eq_true rfl) (by decide) rfl rfl rfl (em_pullsOf (by omega) σ hG) rfl (Nat.le_of_ble_eq_true rfl) rfl ?_
    refine g_al_0 hR dX5_feltOf_37 ?_
    refine g_il_1 hR dX5_feltOf_38 ?_
    refine g_iconst_1 hR dX5_feltOf_39 ?_
    refine g_iadd hR dX5_feltOf_40 ?_
    refine g_top (nI_1 p) ?_
    refine g_cvI hR ciX5_longFrom dX5_feltOf_41 ml_X5_92 (Nat.le_of_ble_eq_true rfl) (by decide) rfl rfl rfl (em_longFrom (q := p + 1) (by omega) hn8 σ hG.2.1) rfl (Nat.le_of_ble_eq_true rfl) rfl ?_
    refine g_bipush_10 hR dX5_feltOf_44 ?_
    refine g_idiv hR dX5_feltOf_46 (by decide) ?_
    refine g_isub hR dX5_feltOf_47 ?_
    refine g_il_2 hR dX5_feltOf_48 ?_
    refine g_isub hR dX5_feltOf_49 ?_
    refine g_csI hR ciX5_least0 dX5_feltOf_50 ml_X5_76 (Nat.le_of_ble_eq_true rfl) (em_least0 _ σ) rfl (Nat.le_of_ble_eq_true rfl) rfl ?_
    exact hE dX5_feltOf_53 ((if_neg h1).symm) (rfl)
  · refine g_iconst_0 hR dX5_feltOf_28 ?_
    refine g_goto (tgt := 53) hR dX5_feltOf_29 (by decide) ?_
    exact hE dX5_feltOf_53 ((if_pos h1).symm) (rfl)
