set_option maxRecDepth 100000 in
set_option maxHeartbeats 4000000 in
theorem es_chk3n {i n : Nat} (h : i < n) (hn : n < 1000000) (σ : Hp) : CtI yJ3_checkIndex_8e157 wJ3_checkIndex_8e157 0 [.int (nI i), .int (nI n), .null] σ (nI i) (σ) := by
  refine CtI.of (by decide) (Nat.le_of_ble_eq_true rfl) rfl rfl (fun G hR hE => ?_)
  refine g_il_0 hR dJ3_checkIndex_8e157_0 ?_
  refine g_if_lt (tgt := 9) hR dJ3_checkIndex_8e157_1 (by decide) (fun hc => absurd hc (nI_pos (by omega))) (fun _ => ?_)
  refine g_il_0 hR dJ3_checkIndex_8e157_4 ?_
  refine g_il_1 hR dJ3_checkIndex_8e157_5 ?_
  refine g_icmp_lt (tgt := 16) hR dJ3_checkIndex_8e157_6 (by decide) (fun _ => ?_) (fun hc => absurd (nI_lt h (by omega)) hc)
  refine g_il_0 hR dJ3_checkIndex_8e157_16 ?_
  exact hE dJ3_checkIndex_8e157_17 (rfl) (rfl)
set_option maxRecDepth 100000 in
set_option maxHeartbeats 4000000 in
theorem es_chk3r {i n : Nat} (h : i < n) (hn : n < 1000000) (σ : Hp) : CtI yJ3_checkIndex_8e157 wJ3_checkIndex_8e157 0 [.int (nI i), .int (nI n), .ref 90] σ (nI i) (σ) := by
  refine CtI.of (by decide) (Nat.le_of_ble_eq_true rfl) rfl rfl (fun G hR hE => ?_)
  refine g_il_0 hR dJ3_checkIndex_8e157_0 ?_
  refine g_if_lt (tgt := 9) hR dJ3_checkIndex_8e157_1 (by decide) (fun hc => absurd hc (nI_pos (by omega))) (fun _ => ?_)
  refine g_il_0 hR dJ3_checkIndex_8e157_4 ?_
  refine g_il_1 hR dJ3_checkIndex_8e157_5 ?_
  refine g_icmp_lt (tgt := 16) hR dJ3_checkIndex_8e157_6 (by decide) (fun _ => ?_) (fun hc => absurd (nI_lt h (by omega)) hc)
  refine g_il_0 hR dJ3_checkIndex_8e157_16 ?_
  exact hE dJ3_checkIndex_8e157_17 (rfl) (rfl)
set_option maxRecDepth 100000 in
set_option maxHeartbeats 4000000 in
theorem es_chk {i n : Nat} (h : i < n) (hn : n < 1000000) (σ : Hp) : CtV yJ0_checkIndex_df160 wJ0_checkIndex_df160 1 [.int (nI i), .int (nI n)] σ (σ) := by
  refine CtV.of (by decide) (Nat.le_of_ble_eq_true rfl) rfl (fun G hR hE => ?_)
  refine g_il_0 hR dJ0_checkIndex_df160_0 ?_
  refine g_il_1 hR dJ0_checkIndex_df160_1 ?_
  refine g_getF hR fl_J0_1053 dJ0_checkIndex_df160_2 (fun v hv => ?_)
  rcases hv with rfl | rfl
  · refine g_csI hR ciJ3_checkIndex_8e157 dJ0_checkIndex_df160_5 ml_J0_1059 (Nat.le_of_ble_eq_true rfl) (es_chk3n h hn σ) rfl (Nat.le_of_ble_eq_true rfl) rfl ?_
    refine g_pop hR dJ0_checkIndex_df160_8 ?_
    exact hE dJ0_checkIndex_df160_9 (rfl)
  · refine g_csI hR ciJ3_checkIndex_8e157 dJ0_checkIndex_df160_5 ml_J0_1059 (Nat.le_of_ble_eq_true rfl) (es_chk3r h hn σ) rfl (Nat.le_of_ble_eq_true rfl) rfl ?_
    refine g_pop hR dJ0_checkIndex_df160_8 ?_
    exact hE dJ0_checkIndex_df160_9 (rfl)
set_option maxRecDepth 100000 in
set_option maxHeartbeats 4000000 in
theorem es_coder {i : Nat} (hi : i < 13) (σ : Hp) : CtI yJ0_coder_7d493 wJ0_coder_7d493 0 [.ref (50 + i)] σ (0) (σ) := by
  refine CtI.of (by decide) (Nat.le_of_ble_eq_true rfl) rfl rfl (fun G hR hE => ?_)
  refine g_getz hR fl_J0_38 dJ0_coder_7d493_0 ?_
  refine g_if_eq (tgt := 13) hR dJ0_coder_7d493_3 (by decide) (fun hc => absurd hc ((by decide))) (fun _ => ?_)
  refine g_al_0 hR dJ0_coder_7d493_6 ?_
  refine g_scod hR hi fl_J0_15 dJ0_coder_7d493_7 ?_
  refine g_goto (tgt := 14) hR dJ0_coder_7d493_10 (by decide) ?_
  exact hE dJ0_coder_7d493_14 (rfl) (rfl)
set_option maxRecDepth 100000 in
set_option maxHeartbeats 4000000 in
theorem es_latin {i : Nat} (hi : i < 13) (σ : Hp) : CtI yJ0_isLatin1_aae02 wJ0_isLatin1_aae02 0 [.ref (50 + i)] σ (1) (σ) := by
  refine CtI.of (by decide) (Nat.le_of_ble_eq_true rfl) rfl rfl (fun G hR hE => ?_)
  refine g_getz hR fl_J0_38 dJ0_isLatin1_aae02_0 ?_
  refine g_if_eq (tgt := 17) hR dJ0_isLatin1_aae02_3 (by decide) (fun hc => absurd hc ((by decide))) (fun _ => ?_)
  refine g_al_0 hR dJ0_isLatin1_aae02_6 ?_
  refine g_scod hR hi fl_J0_15 dJ0_isLatin1_aae02_7 ?_
  refine g_if_ne (tgt := 17) hR dJ0_isLatin1_aae02_10 (by decide) (fun hc => absurd (rfl) hc) (fun _ => ?_)
  refine g_iconst_1 hR dJ0_isLatin1_aae02_13 ?_
  refine g_goto (tgt := 18) hR dJ0_isLatin1_aae02_14 (by decide) ?_
  exact hE dJ0_isLatin1_aae02_18 (rfl) (rfl)
set_option maxRecDepth 100000 in
set_option maxHeartbeats 4000000 in
theorem es_length {i : Nat} (hi : i < 13) (σ : Hp) : CtI yJ0_length_8abf5 wJ0_length_8abf5 1 [.ref (50 + i)] σ (nI (sLn.getD i 0)) (σ) := by
  refine CtI.of (by decide) (Nat.le_of_ble_eq_true rfl) rfl rfl (fun G hR hE => ?_)
  have hb := str_by i hi
  refine g_al_0 hR dJ0_length_8abf5_0 ?_
  refine g_sval hR hi fl_J0_9 dJ0_length_8abf5_1 ?_
  refine g_salen hR hi dJ0_length_8abf5_4 ?_
  refine g_al_0 hR dJ0_length_8abf5_5 ?_
  refine g_cvS hR ciJ0_coder_7d493 dJ0_length_8abf5_6 ml_J0_335 (Nat.le_of_ble_eq_true rfl) hi rfl (es_coder hi σ) rfl (Nat.le_of_ble_eq_true rfl) rfl ?_
  refine g_ishr hR dJ0_length_8abf5_9 ?_
  exact hE dJ0_length_8abf5_10 (shr0 (by omega)) (rfl)
set_option maxRecDepth 100000 in
set_option maxHeartbeats 4000000 in
theorem es_char1 {i k : Nat} (hi : i < 13) (hk : k < sLn.getD i 0) (σ : Hp) : CtI yJ1_charAt_3b067 wJ1_charAt_3b067 2 [.ref (70 + i), .int (nI k)] σ ((sBy.getD i []).getD k 0) (σ) := by
  refine CtI.of (by decide) (Nat.le_of_ble_eq_true rfl) (str_nar i hi k hk) rfl (fun G hR hE => ?_)
  have hb := str_by i hi
  refine g_il_1 hR dJ1_charAt_3b067_0 ?_
  refine g_al_0 hR dJ1_charAt_3b067_1 ?_
  refine g_salen hR hi dJ1_charAt_3b067_2 ?_
  refine g_csV hR ciJ0_checkIndex_df160 dJ1_charAt_3b067_3 ml_J1_9 (Nat.le_of_ble_eq_true rfl) (es_chk hk (by omega) σ) rfl (Nat.le_of_ble_eq_true rfl) rfl ?_
  refine g_al_0 hR dJ1_charAt_3b067_6 ?_
  refine g_il_1 hR dJ1_charAt_3b067_7 ?_
  refine g_sbald hR k hi hk (by omega) rfl dJ1_charAt_3b067_8 ?_
  refine g_sipush_255 hR dJ1_charAt_3b067_9 ?_
  refine g_iand hR dJ1_charAt_3b067_12 ?_
  refine g_i2c hR dJ1_charAt_3b067_13 ?_
  exact hE dJ1_charAt_3b067_14 (hb.2.2 k hk) (rfl)
set_option maxRecDepth 100000 in
set_option maxHeartbeats 4000000 in
theorem es_charAt {i k : Nat} (hi : i < 13) (hk : k < sLn.getD i 0) (σ : Hp) : CtI yJ0_charAt_5068e wJ0_charAt_5068e 4 [.ref (50 + i), .int (nI k)] σ ((sBy.getD i []).getD k 0) (σ) := by
  refine CtI.of (by decide) (Nat.le_of_ble_eq_true rfl) (str_nar i hi k hk) rfl (fun G hR hE => ?_)
  refine g_al_0 hR dJ0_charAt_5068e_0 ?_
  refine g_cvS hR ciJ0_isLatin1_aae02 dJ0_charAt_5068e_1 ml_J0_492 (Nat.le_of_ble_eq_true rfl) hi rfl (es_latin hi σ) rfl (Nat.le_of_ble_eq_true rfl) rfl ?_
  refine g_if_eq (tgt := 16) hR dJ0_charAt_5068e_4 (by decide) (fun hc => absurd hc ((by decide))) (fun _ => ?_)
  refine g_al_0 hR dJ0_charAt_5068e_7 ?_
  refine g_sval hR hi fl_J0_9 dJ0_charAt_5068e_8 ?_
  refine g_il_1 hR dJ0_charAt_5068e_11 ?_
  refine g_csI hR ciJ1_charAt_3b067 dJ0_charAt_5068e_12 ml_J0_495 (Nat.le_of_ble_eq_true rfl) (es_char1 hi hk σ) rfl (Nat.le_of_ble_eq_true rfl) rfl ?_
  exact hE dJ0_charAt_5068e_15 (rfl) (rfl)
