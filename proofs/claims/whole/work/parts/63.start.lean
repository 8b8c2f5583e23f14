set_option maxRecDepth 100000 in
set_option maxHeartbeats 8000000 in
theorem law_ctor {cA : ClassId} {J : Kty} {b : Nat} (hJ : RulesK code "ParcelBallLaw" 12 4 cA 29 1129 False J) (kk : ∀ r1 b_r1 b_wa1 b_wb1 b_r2 b_wa2 b_wb2 b_r3 b_wa3 b_wb3 b_r4 b_ta b_r5 b_r6 b_sa b_sb b_sd b_r7 r2 a0 a1 a2 a3 a4 a5 a6 a7 a8 a9 : Nat, J 16 [some (.ref b), some (.ref r1), some (.ref r2), none] [] [(r1, .inr (4, [.ref b_r1, .ref b_r2, .ref b_r3, .int 0, .ref b_r4, .ref b_r5, .ref b_r6, .ref b_r7])), (b_r1, .inr (3, [.int 5, .int 10, .int 0, .int 0, .int 1, .int 0, .int 0, .int 0, .int 0, .ref b_wa1, .ref b_wb1])), (b_wa1, .inl (cA, 48, .inl (fun _ => 0))), (b_wb1, .inl (cA, 10, .inl (fun j => if j < 10 then -1 else 0))), (b_r2, .inr (3, [.int 5, .int 10, .int 0, .int 0, .int 1, .int 0, .int 0, .int 0, .int 0, .ref b_wa2, .ref b_wb2])), (b_wa2, .inl (cA, 48, .inl (fun _ => 0))), (b_wb2, .inl (cA, 10, .inl (fun j => if j < 10 then -1 else 0))), (b_r3, .inr (3, [.int 5, .int 10, .int 0, .int 0, .int 1, .int 0, .int 0, .int 0, .int 0, .ref b_wa3, .ref b_wb3])), (b_wa3, .inl (cA, 48, .inl (fun _ => 0))), (b_wb3, .inl (cA, 10, .inl (fun j => if j < 10 then -1 else 0))), (b_r4, .inr (1, [.int 0, .ref b_ta])), (b_ta, .inl (cA, 120, .inl (fun _ => 0))), (b_r5, .inr (2, [.ref b_r4, .ref b_r2, .int 0, .int 0, .int 0, .int 0])), (b_r6, .inr (0, [.ref b_sa, .ref b_sb, .ref b_sd])), (b_sa, .inl (cA, 4, .inl (fun _ => 0))), (b_sb, .inl (cA, 4, .inl (fun _ => 0))), (b_sd, .inl (cA, 160, .inl (fun _ => 0))), (b_r7, .inl (cA, 7, .inl (fun _ => 0))), (r2, .inr (5, [.ref a0, .ref a1, .ref a2, .ref a3, .ref a4, .int 0, .int 0, .ref a5, .int 0, .int 0, .int 0, .int 0, .int 0, .ref a6, .ref a7, .ref a8, .ref a9])), (a0, .inl (cA, 64, .inl (fun j => if j < 64 then iniS j else 0))), (a1, .inl (cA, 64, .inl (fun _ => 0))), (a2, .inl (cA, 64, .inl (fun _ => 0))), (a3, .inl (cA, 64, .inl (fun _ => 0))), (a4, .inl (cA, 7, .inl (fun _ => 0))), (a5, .inl (cA, 120, .inl (fun _ => 0))), (a6, .inl (cA, 4, .inl (fun _ => 0))), (a7, .inl (cA, 4, .inl (fun _ => 0))), (a8, .inl (cA, 160, .inl (fun _ => 0))), (a9, .inl (cA, 40, .inl (fun _ => 0)))] 29 1129) : J 0 [some (.ref b), none, none, none] [] [] 0 0 := by
  refine k_new hJ Kl4 (fs := [.null, .null, .null, .int 0, .null, .null, .null, .null]) tyX4 tyX4_ok cl_L_7 is_X4 in_X4 (by decide +kernel) (Nat.le_of_ble_eq_true rfl) (Nat.le_of_ble_eq_true rfl) dL_law_0 (fun r1 => ?_)
  refine k_eqw (ws' := [(r1, .inr (4, [.null, .null, .null, .int 0, .null, .null, .null, .null]))]) (cs' := 1) (ss' := 8) rfl rfl rfl ?_
  refine k_dup hJ dL_law_3 ?_
  refine k_init hJ (wr := []) (as := []) kci_X4 rfl im_yX4_init dL_law_4 ml_L_9 (Nat.le_of_ble_eq_true rfl) (k_Ball cA r1) [0] [] rfl rfl (by decide) (by decide) (by decide) rfl (Nat.le_of_ble_eq_true rfl) rfl (Nat.le_of_ble_eq_true rfl) (Nat.le_of_ble_eq_true rfl) (fun w1 hw => ?_)
  obtain ⟨b_r1, b_wa1, b_wb1, b_r2, b_wa2, b_wb2, b_r3, b_wa3, b_wb3, b_r4, b_ta, b_r5, b_r6, b_sa, b_sb, b_sd, b_r7, rfl⟩ := hw
  refine k_eqw (ws' := [(r1, .inr (4, [.ref b_r1, .ref b_r2, .ref b_r3, .int 0, .ref b_r4, .ref b_r5, .ref b_r6, .ref b_r7])), (b_r1, .inr (3, [.int 5, .int 10, .int 0, .int 0, .int 1, .int 0, .int 0, .int 0, .int 0, .ref b_wa1, .ref b_wb1])), (b_wa1, .inl (cA, 48, .inl (fun _ => 0))), (b_wb1, .inl (cA, 10, .inl (fun j => if j < 10 then -1 else 0))), (b_r2, .inr (3, [.int 5, .int 10, .int 0, .int 0, .int 1, .int 0, .int 0, .int 0, .int 0, .ref b_wa2, .ref b_wb2])), (b_wa2, .inl (cA, 48, .inl (fun _ => 0))), (b_wb2, .inl (cA, 10, .inl (fun j => if j < 10 then -1 else 0))), (b_r3, .inr (3, [.int 5, .int 10, .int 0, .int 0, .int 1, .int 0, .int 0, .int 0, .int 0, .ref b_wa3, .ref b_wb3])), (b_wa3, .inl (cA, 48, .inl (fun _ => 0))), (b_wb3, .inl (cA, 10, .inl (fun j => if j < 10 then -1 else 0))), (b_r4, .inr (1, [.int 0, .ref b_ta])), (b_ta, .inl (cA, 120, .inl (fun _ => 0))), (b_r5, .inr (2, [.ref b_r4, .ref b_r2, .int 0, .int 0, .int 0, .int 0])), (b_r6, .inr (0, [.ref b_sa, .ref b_sb, .ref b_sd])), (b_sa, .inl (cA, 4, .inl (fun _ => 0))), (b_sb, .inl (cA, 4, .inl (fun _ => 0))), (b_sd, .inl (cA, 160, .inl (fun _ => 0))), (b_r7, .inl (cA, 7, .inl (fun _ => 0)))]) (cs' := 18) (ss' := 521) rfl rfl rfl ?_
  refine k_astore_n hJ dL_law_7 trivial (Nat.le_of_ble_eq_true rfl) rfl ?_
  refine k_new hJ Kl5 (fs := [.null, .null, .null, .null, .null, .int 0, .int 0, .null, .int 0, .int 0, .int 0, .int 0, .int 0, .null, .null, .null, .null]) tyX5 tyX5_ok cl_L_10 is_X5 in_X5 (by decide +kernel) (Nat.le_of_ble_eq_true rfl) (Nat.le_of_ble_eq_true rfl) dL_law_8 (fun r2 => ?_)
  refine k_eqw (ws' := [(r1, .inr (4, [.ref b_r1, .ref b_r2, .ref b_r3, .int 0, .ref b_r4, .ref b_r5, .ref b_r6, .ref b_r7])), (b_r1, .inr (3, [.int 5, .int 10, .int 0, .int 0, .int 1, .int 0, .int 0, .int 0, .int 0, .ref b_wa1, .ref b_wb1])), (b_wa1, .inl (cA, 48, .inl (fun _ => 0))), (b_wb1, .inl (cA, 10, .inl (fun j => if j < 10 then -1 else 0))), (b_r2, .inr (3, [.int 5, .int 10, .int 0, .int 0, .int 1, .int 0, .int 0, .int 0, .int 0, .ref b_wa2, .ref b_wb2])), (b_wa2, .inl (cA, 48, .inl (fun _ => 0))), (b_wb2, .inl (cA, 10, .inl (fun j => if j < 10 then -1 else 0))), (b_r3, .inr (3, [.int 5, .int 10, .int 0, .int 0, .int 1, .int 0, .int 0, .int 0, .int 0, .ref b_wa3, .ref b_wb3])), (b_wa3, .inl (cA, 48, .inl (fun _ => 0))), (b_wb3, .inl (cA, 10, .inl (fun j => if j < 10 then -1 else 0))), (b_r4, .inr (1, [.int 0, .ref b_ta])), (b_ta, .inl (cA, 120, .inl (fun _ => 0))), (b_r5, .inr (2, [.ref b_r4, .ref b_r2, .int 0, .int 0, .int 0, .int 0])), (b_r6, .inr (0, [.ref b_sa, .ref b_sb, .ref b_sd])), (b_sa, .inl (cA, 4, .inl (fun _ => 0))), (b_sb, .inl (cA, 4, .inl (fun _ => 0))), (b_sd, .inl (cA, 160, .inl (fun _ => 0))), (b_r7, .inl (cA, 7, .inl (fun _ => 0))), (r2, .inr (5, [.null, .null, .null, .null, .null, .int 0, .int 0, .null, .int 0, .int 0, .int 0, .int 0, .int 0, .null, .null, .null, .null]))]) (cs' := 19) (ss' := 538) rfl rfl rfl ?_
  refine k_dup hJ dL_law_11 ?_
  refine k_init hJ (wr := [(r1, .inr (4, [.ref b_r1, .ref b_r2, .ref b_r3, .int 0, .ref b_r4, .ref b_r5, .ref b_r6, .ref b_r7])), (b_r1, .inr (3, [.int 5, .int 10, .int 0, .int 0, .int 1, .int 0, .int 0, .int 0, .int 0, .ref b_wa1, .ref b_wb1])), (b_wa1, .inl (cA, 48, .inl (fun _ => 0))), (b_wb1, .inl (cA, 10, .inl (fun j => if j < 10 then -1 else 0))), (b_r2, .inr (3, [.int 5, .int 10, .int 0, .int 0, .int 1, .int 0, .int 0, .int 0, .int 0, .ref b_wa2, .ref b_wb2])), (b_wa2, .inl (cA, 48, .inl (fun _ => 0))), (b_wb2, .inl (cA, 10, .inl (fun j => if j < 10 then -1 else 0))), (b_r3, .inr (3, [.int 5, .int 10, .int 0, .int 0, .int 1, .int 0, .int 0, .int 0, .int 0, .ref b_wa3, .ref b_wb3])), (b_wa3, .inl (cA, 48, .inl (fun _ => 0))), (b_wb3, .inl (cA, 10, .inl (fun j => if j < 10 then -1 else 0))), (b_r4, .inr (1, [.int 0, .ref b_ta])), (b_ta, .inl (cA, 120, .inl (fun _ => 0))), (b_r5, .inr (2, [.ref b_r4, .ref b_r2, .int 0, .int 0, .int 0, .int 0])), (b_r6, .inr (0, [.ref b_sa, .ref b_sb, .ref b_sd])), (b_sa, .inl (cA, 4, .inl (fun _ => 0))), (b_sb, .inl (cA, 4, .inl (fun _ => 0))), (b_sd, .inl (cA, 160, .inl (fun _ => 0))), (b_r7, .inl (cA, 7, .inl (fun _ => 0)))]) (as := []) kci_X5 rfl im_yX5_init dL_law_12 ml_L_12 (Nat.le_of_ble_eq_true rfl) (k_Model cA r2) [18] [0, 1, 2, 3, 4, 5, 6, 7, 8, 9, 10, 11, 12, 13, 14, 15, 16, 17] rfl rfl (by decide) (by decide) (by decide) rfl (Nat.le_of_ble_eq_true rfl) rfl (Nat.le_of_ble_eq_true rfl) (Nat.le_of_ble_eq_true rfl) (fun w2 hw => ?_)
  obtain ⟨a0, a1, a2, a3, a4, a5, a6, a7, a8, a9, rfl⟩ := hw
  refine k_eqw (ws' := [(r1, .inr (4, [.ref b_r1, .ref b_r2, .ref b_r3, .int 0, .ref b_r4, .ref b_r5, .ref b_r6, .ref b_r7])), (b_r1, .inr (3, [.int 5, .int 10, .int 0, .int 0, .int 1, .int 0, .int 0, .int 0, .int 0, .ref b_wa1, .ref b_wb1])), (b_wa1, .inl (cA, 48, .inl (fun _ => 0))), (b_wb1, .inl (cA, 10, .inl (fun j => if j < 10 then -1 else 0))), (b_r2, .inr (3, [.int 5, .int 10, .int 0, .int 0, .int 1, .int 0, .int 0, .int 0, .int 0, .ref b_wa2, .ref b_wb2])), (b_wa2, .inl (cA, 48, .inl (fun _ => 0))), (b_wb2, .inl (cA, 10, .inl (fun j => if j < 10 then -1 else 0))), (b_r3, .inr (3, [.int 5, .int 10, .int 0, .int 0, .int 1, .int 0, .int 0, .int 0, .int 0, .ref b_wa3, .ref b_wb3])), (b_wa3, .inl (cA, 48, .inl (fun _ => 0))), (b_wb3, .inl (cA, 10, .inl (fun j => if j < 10 then -1 else 0))), (b_r4, .inr (1, [.int 0, .ref b_ta])), (b_ta, .inl (cA, 120, .inl (fun _ => 0))), (b_r5, .inr (2, [.ref b_r4, .ref b_r2, .int 0, .int 0, .int 0, .int 0])), (b_r6, .inr (0, [.ref b_sa, .ref b_sb, .ref b_sd])), (b_sa, .inl (cA, 4, .inl (fun _ => 0))), (b_sb, .inl (cA, 4, .inl (fun _ => 0))), (b_sd, .inl (cA, 160, .inl (fun _ => 0))), (b_r7, .inl (cA, 7, .inl (fun _ => 0))), (r2, .inr (5, [.ref a0, .ref a1, .ref a2, .ref a3, .ref a4, .int 0, .int 0, .ref a5, .int 0, .int 0, .int 0, .int 0, .int 0, .ref a6, .ref a7, .ref a8, .ref a9])), (a0, .inl (cA, 64, .inl (fun j => if j < 64 then iniS j else 0))), (a1, .inl (cA, 64, .inl (fun _ => 0))), (a2, .inl (cA, 64, .inl (fun _ => 0))), (a3, .inl (cA, 64, .inl (fun _ => 0))), (a4, .inl (cA, 7, .inl (fun _ => 0))), (a5, .inl (cA, 120, .inl (fun _ => 0))), (a6, .inl (cA, 4, .inl (fun _ => 0))), (a7, .inl (cA, 4, .inl (fun _ => 0))), (a8, .inl (cA, 160, .inl (fun _ => 0))), (a9, .inl (cA, 40, .inl (fun _ => 0)))]) (cs' := 29) (ss' := 1129) rfl rfl rfl ?_
  refine k_astore_n hJ dL_law_15 trivial (Nat.le_of_ble_eq_true rfl) rfl ?_
  exact kk _ _ _ _ _ _ _ _ _ _ _ _ _ _ _ _ _ _ _ _ _ _ _ _ _ _ _ _ _
def sg0 : Hp := fun b => match b with
  | 0 => iniS
  | 1 => iniS
  | 2 => iniS
  | 4 => iniS
  | _ => fun _ => 0
theorem ar_z {b o n : Nat} (h : sg0 b = fun _ => 0) : arF sg0 b o n = fun _ => 0 := by
  funext j; unfold arF; rw [h]; split <;> rfl
theorem ar_f {b : Nat} (h : sg0 b = iniS) : arF sg0 b 6 48 = fun _ => 0 := by
  funext j; unfold arF; rw [h]
  by_cases hj : j < 48
  · rw [if_pos hj]; unfold iniS; rw [if_neg (by omega), if_neg (by omega), if_neg (by omega), if_neg (by omega)]
  · rw [if_neg hj]
theorem ar_s {b : Nat} (h : sg0 b = iniS) : arF sg0 b 54 10 = fun j => if j < 10 then -1 else 0 := by
  funext j; unfold arF; rw [h]
  by_cases hj : j < 10
  · rw [if_pos hj, if_pos hj]; unfold iniS; rw [if_neg (by omega), if_neg (by omega), if_neg (by omega), if_pos (by omega)]
  · rw [if_neg hj, if_neg hj]
theorem ar_m : arF sg0 4 0 64 = fun j => if j < 64 then iniS j else 0 := by
  funext j; unfold arF; rw [Nat.zero_add]; rfl
theorem J0 : Jx sg0 0 := by
  have hpf : ∀ p w, p < 8 → w < 6 → pf iniS p w = 0 := fun p w hp hw => by
    unfold pf iniS; rw [if_neg (by omega), if_neg (by omega), if_neg (by omega), if_neg (by omega)]
  have hG : Gd iniS 0 0 := ⟨by decide, rfl, fun p w hp hw => by rw [hpf p w hp hw]; exact ⟨by decide, (bnd_le w hw).1⟩, ⟨by decide, by decide⟩, ⟨by decide, by decide⟩, ⟨by decide, by decide⟩, ⟨by decide, by decide⟩, trivial⟩
  have hSp : Sp iniS := fun i hi => by
    have e : iniS (54 + i) = -1 := by unfold iniS; rw [if_neg (by omega), if_neg (by omega), if_neg (by omega), if_pos (by omega)]
    rw [e]; exact ⟨by decide, by decide⟩
  exact ⟨0, 0, 0, ⟨hG, hSp, rfl⟩, rfl, ⟨hG, hSp, Or.inl rfl⟩, ⟨rfl, rfl, rfl, by decide⟩, ⟨rfl, fun i => show (0 : Int) ≤ (0 : Int32).toInt by decide⟩, ⟨rfl, fun s hs => ⟨⟨0, by decide, rfl⟩, Or.inl rfl⟩⟩, rfl⟩
set_option maxRecDepth 100000 in
set_option maxHeartbeats 8000000 in
theorem ws_0 {cA : ClassId} {ad : Nat → Nat} (r1 b_r1 b_wa1 b_wb1 b_r2 b_wa2 b_wb2 b_r3 b_wa3 b_wb3 b_r4 b_ta b_r5 b_r6 b_sa b_sb b_sd b_r7 r2 a0 a1 a2 a3 a4 a5 a6 a7 a8 a9 : Nat) (had : ∀ k, k < 29 → ad k = ([r1, b_r1, b_wa1, b_wb1, b_r2, b_wa2, b_wb2, b_r3, b_wa3, b_wb3, b_r4, b_ta, b_r5, b_r6, b_sa, b_sb, b_sd, b_r7, r2, a0, a1, a2, a3, a4, a5, a6, a7, a8, a9] : List Nat).getD k 0) : wsOf ad cA sg0 = [(r1, .inr (4, [.ref b_r1, .ref b_r2, .ref b_r3, .int 0, .ref b_r4, .ref b_r5, .ref b_r6, .ref b_r7])), (b_r1, .inr (3, [.int 5, .int 10, .int 0, .int 0, .int 1, .int 0, .int 0, .int 0, .int 0, .ref b_wa1, .ref b_wb1])), (b_wa1, .inl (cA, 48, .inl (fun _ => 0))), (b_wb1, .inl (cA, 10, .inl (fun j => if j < 10 then -1 else 0))), (b_r2, .inr (3, [.int 5, .int 10, .int 0, .int 0, .int 1, .int 0, .int 0, .int 0, .int 0, .ref b_wa2, .ref b_wb2])), (b_wa2, .inl (cA, 48, .inl (fun _ => 0))), (b_wb2, .inl (cA, 10, .inl (fun j => if j < 10 then -1 else 0))), (b_r3, .inr (3, [.int 5, .int 10, .int 0, .int 0, .int 1, .int 0, .int 0, .int 0, .int 0, .ref b_wa3, .ref b_wb3])), (b_wa3, .inl (cA, 48, .inl (fun _ => 0))), (b_wb3, .inl (cA, 10, .inl (fun j => if j < 10 then -1 else 0))), (b_r4, .inr (1, [.int 0, .ref b_ta])), (b_ta, .inl (cA, 120, .inl (fun _ => 0))), (b_r5, .inr (2, [.ref b_r4, .ref b_r2, .int 0, .int 0, .int 0, .int 0])), (b_r6, .inr (0, [.ref b_sa, .ref b_sb, .ref b_sd])), (b_sa, .inl (cA, 4, .inl (fun _ => 0))), (b_sb, .inl (cA, 4, .inl (fun _ => 0))), (b_sd, .inl (cA, 160, .inl (fun _ => 0))), (b_r7, .inl (cA, 7, .inl (fun _ => 0))), (r2, .inr (5, [.ref a0, .ref a1, .ref a2, .ref a3, .ref a4, .int 0, .int 0, .ref a5, .int 0, .int 0, .int 0, .int 0, .int 0, .ref a6, .ref a7, .ref a8, .ref a9])), (a0, .inl (cA, 64, .inl (fun j => if j < 64 then iniS j else 0))), (a1, .inl (cA, 64, .inl (fun _ => 0))), (a2, .inl (cA, 64, .inl (fun _ => 0))), (a3, .inl (cA, 64, .inl (fun _ => 0))), (a4, .inl (cA, 7, .inl (fun _ => 0))), (a5, .inl (cA, 120, .inl (fun _ => 0))), (a6, .inl (cA, 4, .inl (fun _ => 0))), (a7, .inl (cA, 4, .inl (fun _ => 0))), (a8, .inl (cA, 160, .inl (fun _ => 0))), (a9, .inl (cA, 40, .inl (fun _ => 0)))] := by
  have h0 : ad 0 = r1 := had 0 (by decide)
  have h1 : ad 1 = b_r1 := had 1 (by decide)
  have h2 : ad 2 = b_wa1 := had 2 (by decide)
  have h3 : ad 3 = b_wb1 := had 3 (by decide)
  have h4 : ad 4 = b_r2 := had 4 (by decide)
  have h5 : ad 5 = b_wa2 := had 5 (by decide)
  have h6 : ad 6 = b_wb2 := had 6 (by decide)
  have h7 : ad 7 = b_r3 := had 7 (by decide)
  have h8 : ad 8 = b_wa3 := had 8 (by decide)
  have h9 : ad 9 = b_wb3 := had 9 (by decide)
  have h10 : ad 10 = b_r4 := had 10 (by decide)
  have h11 : ad 11 = b_ta := had 11 (by decide)
  have h12 : ad 12 = b_r5 := had 12 (by decide)
  have h13 : ad 13 = b_r6 := had 13 (by decide)
  have h14 : ad 14 = b_sa := had 14 (by decide)
  have h15 : ad 15 = b_sb := had 15 (by decide)
  have h16 : ad 16 = b_sd := had 16 (by decide)
  have h17 : ad 17 = b_r7 := had 17 (by decide)
  have h18 : ad 18 = r2 := had 18 (by decide)
  have h19 : ad 19 = a0 := had 19 (by decide)
  have h20 : ad 20 = a1 := had 20 (by decide)
  have h21 : ad 21 = a2 := had 21 (by decide)
  have h22 : ad 22 = a3 := had 22 (by decide)
  have h23 : ad 23 = a4 := had 23 (by decide)
  have h24 : ad 24 = a5 := had 24 (by decide)
  have h25 : ad 25 = a6 := had 25 (by decide)
  have h26 : ad 26 = a7 := had 26 (by decide)
  have h27 : ad 27 = a8 := had 27 (by decide)
  have h28 : ad 28 = a9 := had 28 (by decide)
  have c2 : cellE ad cA sg0 2 = .inl (cA, 48, .inl (fun _ => 0)) := congrArg (fun f => Sum.inl (cA, 48, Sum.inl f)) (ar_f rfl)
  have c3 : cellE ad cA sg0 3 = .inl (cA, 10, .inl (fun j => if j < 10 then -1 else 0)) := congrArg (fun f => Sum.inl (cA, 10, Sum.inl f)) (ar_s rfl)
  have c5 : cellE ad cA sg0 5 = .inl (cA, 48, .inl (fun _ => 0)) := congrArg (fun f => Sum.inl (cA, 48, Sum.inl f)) (ar_f rfl)
  have c6 : cellE ad cA sg0 6 = .inl (cA, 10, .inl (fun j => if j < 10 then -1 else 0)) := congrArg (fun f => Sum.inl (cA, 10, Sum.inl f)) (ar_s rfl)
  have c8 : cellE ad cA sg0 8 = .inl (cA, 48, .inl (fun _ => 0)) := congrArg (fun f => Sum.inl (cA, 48, Sum.inl f)) (ar_f rfl)
  have c9 : cellE ad cA sg0 9 = .inl (cA, 10, .inl (fun j => if j < 10 then -1 else 0)) := congrArg (fun f => Sum.inl (cA, 10, Sum.inl f)) (ar_s rfl)
  have c11 : cellE ad cA sg0 11 = .inl (cA, 120, .inl (fun _ => 0)) := congrArg (fun f => Sum.inl (cA, 120, Sum.inl f)) (ar_z rfl)
  have c14 : cellE ad cA sg0 14 = .inl (cA, 4, .inl (fun _ => 0)) := congrArg (fun f => Sum.inl (cA, 4, Sum.inl f)) (ar_z rfl)
  have c15 : cellE ad cA sg0 15 = .inl (cA, 4, .inl (fun _ => 0)) := congrArg (fun f => Sum.inl (cA, 4, Sum.inl f)) (ar_z rfl)
  have c16 : cellE ad cA sg0 16 = .inl (cA, 160, .inl (fun _ => 0)) := congrArg (fun f => Sum.inl (cA, 160, Sum.inl f)) (ar_z rfl)
  have c17 : cellE ad cA sg0 17 = .inl (cA, 7, .inl (fun _ => 0)) := congrArg (fun f => Sum.inl (cA, 7, Sum.inl f)) (ar_z rfl)
  have c19 : cellE ad cA sg0 19 = .inl (cA, 64, .inl (fun j => if j < 64 then iniS j else 0)) := congrArg (fun f => Sum.inl (cA, 64, Sum.inl f)) (ar_m)
  have c20 : cellE ad cA sg0 20 = .inl (cA, 64, .inl (fun _ => 0)) := congrArg (fun f => Sum.inl (cA, 64, Sum.inl f)) (ar_z rfl)
  have c21 : cellE ad cA sg0 21 = .inl (cA, 64, .inl (fun _ => 0)) := congrArg (fun f => Sum.inl (cA, 64, Sum.inl f)) (ar_z rfl)
  have c22 : cellE ad cA sg0 22 = .inl (cA, 64, .inl (fun _ => 0)) := congrArg (fun f => Sum.inl (cA, 64, Sum.inl f)) (ar_z rfl)
  have c23 : cellE ad cA sg0 23 = .inl (cA, 7, .inl (fun _ => 0)) := congrArg (fun f => Sum.inl (cA, 7, Sum.inl f)) (ar_z rfl)
  have c24 : cellE ad cA sg0 24 = .inl (cA, 120, .inl (fun _ => 0)) := congrArg (fun f => Sum.inl (cA, 120, Sum.inl f)) (ar_z rfl)
  have c25 : cellE ad cA sg0 25 = .inl (cA, 4, .inl (fun _ => 0)) := congrArg (fun f => Sum.inl (cA, 4, Sum.inl f)) (ar_z rfl)
  have c26 : cellE ad cA sg0 26 = .inl (cA, 4, .inl (fun _ => 0)) := congrArg (fun f => Sum.inl (cA, 4, Sum.inl f)) (ar_z rfl)
  have c27 : cellE ad cA sg0 27 = .inl (cA, 160, .inl (fun _ => 0)) := congrArg (fun f => Sum.inl (cA, 160, Sum.inl f)) (ar_z rfl)
  have c28 : cellE ad cA sg0 28 = .inl (cA, 40, .inl (fun _ => 0)) := congrArg (fun f => Sum.inl (cA, 40, Sum.inl f)) (ar_z rfl)
  have c0 : cellE ad cA sg0 0 = .inr (4, [.ref b_r1, .ref b_r2, .ref b_r3, .int 0, .ref b_r4, .ref b_r5, .ref b_r6, .ref b_r7]) := by
    rw [← h1, ← h4, ← h7, ← h10, ← h12, ← h13, ← h17]; rfl
  have c1 : cellE ad cA sg0 1 = .inr (3, [.int 5, .int 10, .int 0, .int 0, .int 1, .int 0, .int 0, .int 0, .int 0, .ref b_wa1, .ref b_wb1]) := by
    rw [← h2, ← h3]; rfl
  have c4 : cellE ad cA sg0 4 = .inr (3, [.int 5, .int 10, .int 0, .int 0, .int 1, .int 0, .int 0, .int 0, .int 0, .ref b_wa2, .ref b_wb2]) := by
    rw [← h5, ← h6]; rfl
  have c7 : cellE ad cA sg0 7 = .inr (3, [.int 5, .int 10, .int 0, .int 0, .int 1, .int 0, .int 0, .int 0, .int 0, .ref b_wa3, .ref b_wb3]) := by
    rw [← h8, ← h9]; rfl
  have c10 : cellE ad cA sg0 10 = .inr (1, [.int 0, .ref b_ta]) := by
    rw [← h11]; rfl
  have c12 : cellE ad cA sg0 12 = .inr (2, [.ref b_r4, .ref b_r2, .int 0, .int 0, .int 0, .int 0]) := by
    rw [← h4, ← h10]; rfl
  have c13 : cellE ad cA sg0 13 = .inr (0, [.ref b_sa, .ref b_sb, .ref b_sd]) := by
    rw [← h14, ← h15, ← h16]; rfl
  have c18 : cellE ad cA sg0 18 = .inr (5, [.ref a0, .ref a1, .ref a2, .ref a3, .ref a4, .int 0, .int 0, .ref a5, .int 0, .int 0, .int 0, .int 0, .int 0, .ref a6, .ref a7, .ref a8, .ref a9]) := by
    rw [← h19, ← h20, ← h21, ← h22, ← h23, ← h24, ← h25, ← h26, ← h27, ← h28]; rfl
  have e : wsOf ad cA sg0 = [(ad 0, cellE ad cA sg0 0), (ad 1, cellE ad cA sg0 1), (ad 2, cellE ad cA sg0 2), (ad 3, cellE ad cA sg0 3), (ad 4, cellE ad cA sg0 4), (ad 5, cellE ad cA sg0 5), (ad 6, cellE ad cA sg0 6), (ad 7, cellE ad cA sg0 7), (ad 8, cellE ad cA sg0 8), (ad 9, cellE ad cA sg0 9), (ad 10, cellE ad cA sg0 10), (ad 11, cellE ad cA sg0 11), (ad 12, cellE ad cA sg0 12), (ad 13, cellE ad cA sg0 13), (ad 14, cellE ad cA sg0 14), (ad 15, cellE ad cA sg0 15), (ad 16, cellE ad cA sg0 16), (ad 17, cellE ad cA sg0 17), (ad 18, cellE ad cA sg0 18), (ad 19, cellE ad cA sg0 19), (ad 20, cellE ad cA sg0 20), (ad 21, cellE ad cA sg0 21), (ad 22, cellE ad cA sg0 22), (ad 23, cellE ad cA sg0 23), (ad 24, cellE ad cA sg0 24), (ad 25, cellE ad cA sg0 25), (ad 26, cellE ad cA sg0 26), (ad 27, cellE ad cA sg0 27), (ad 28, cellE ad cA sg0 28)] := rfl
  rw [e, c0, c1, c2, c3, c4, c5, c6, c7, c8, c9, c10, c11, c12, c13, c14, c15, c16, c17, c18, c19, c20, c21, c22, c23, c24, c25, c26, c27, c28, h0, h1, h2, h3, h4, h5, h6, h7, h8, h9, h10, h11, h12, h13, h14, h15, h16, h17, h18, h19, h20, h21, h22, h23, h24, h25, h26, h27, h28]
/-! THE CLAIM OUT OF ONE WALK OF THE LAW'S BODY. Your part is whole_start (and what it stands on); all else here is the same for every law, but numbers. -/
def R_law : String := "ParcelBallLaw"
def lw_P (b : Addr) (xs : List Int32) (args : Array Value) (s : State) : Prop := args = #[.ref b] ∧ s.IntsAt b xs ∧ xs.length ≤ 3072 ∧ (Jvm.Cond.and given_1 narrow_1).before args s = true
def lw_Q (_ : Array Value) (s : State) (o : Outcome) (t : State) : Prop := o = .returned (some (.int 1)) ∧ Framed s o t [] 29 1129
def lw_Z (below : List Frame) (a : Array Value) (s : State) : State → Prop := fun t => ∃ o, t.status = .running ∧ Ended t below o ∧ lw_Q a s o t
/-- the law's own end, with 1 on the stack, nothing written that was there before, its room as the claim has it -/
theorem lw_ret {p : Program} {l : Launch} {e : Env} {s : State} {m : MethodId} {below : List Frame} {meth : Method} {c : Code} {b : Nat} (hx : p.tables.exec = Jvm.exec) (hb : c.code = code) (hr : meth.sig.returnType = ret) (hlocks : meth.locks = false) {pc : Nat} {H : Heap} {ls : Array Slot} (hdg : decode code pc = .ok (.ireturn, 1)) : W p l e room_1 s m #[Value.ref b] below meth c H [] 29 1129 (lw_Z below #[Value.ref b] s) (F0 m pc ls [.int 1]) := by
  intro T hT X
  obtain ⟨fs, hret, hrun, hended, hW, hframe⟩ := X.leave (v := some (.int 1)) (hlocks := hlocks) (fun h => by rw [hr] at h; cases h)
  have hmeth' : T.vm.method? m = some meth := X.method'
  refine ⟨T.setFrames fs, ?_, .returned (some (.int 1)), hrun, hended, rfl, ⟨_, rfl⟩, hW, hframe⟩
  jvm_step X.here [X.here.top, hx, hb, hdg, hmeth', hr, ret, narrow_b1]
  (try refine ⟨rfl, ?_⟩); (try refine ⟨rfl, ?_⟩)
  first | (intro acts; rw [hret _ acts rfl rfl rfl]) | rw [hret _ _ rfl rfl rfl]
  exact Steps.refl _
/-- what holds at the law's entry: the machine, the code, the tables' words (any of lw_tbl by 'hts w (by decide +kernel)'), the script of L ints xs at the cell b, what the Statement gives of the start (any of its parts by flat_of_before) -/
def lw_At (p : Program) (s : State) (m : MethodId) (meth : Method) (c : Code) (b L : Nat) (xs : Nat → Int32) : Prop :=
  p.tables.exec = Jvm.exec ∧ c.code = code ∧ meth.sig.returnType = ret ∧ c.maxLocals = 4 ∧ s.vm.findClass R_law = some m.cls ∧ (∀ w ∈ lw_tbl, w.before #[Value.ref b] s = true) ∧ va_X b L xs s s.heap ∧ b < s.heap.size ∧ meth.locks = false ∧ (Jvm.Cond.and given_1 narrow_1).before #[Value.ref b] s = true
set_option maxRecDepth 100000 in
set_option maxHeartbeats 8000000 in
theorem whole_start {p : Program} {e : Env} {s : State} {m : MethodId} {below : List Frame} {meth : Method} {c : Code} (l : Launch) (hflags : l.flags = flags0) {b L : Nat} {xs : Nat → Int32} (hL : L ≤ 3072) (C0 : lw_At p s m meth c b L xs) : W p l e room_1 s m #[Value.ref b] below meth c s.heap [] 0 0 (lw_Z below #[Value.ref b] s) (entryFrame m ([Value.ref b] : List Value).toArray 4) := by
  obtain ⟨hx, hb, hr, hml, hown, hts, hX, hbl, hlocks, hgv⟩ := id C0
  obtain ⟨D, cA, ad0, hK, hN, h45, hEn⟩ := env_start hts hgv
  have hTW : ∀ w ∈ TW, w.before #[Value.ref b] s = true := fun w h => hts w (List.mem_filter.mp h).1
  have hA : ∀ q : Nat, s.heap.size ≤ q → (fun q : Nat => s.heap.size ≤ q) q := fun _ h => h
  have hLv := Lv_entry (fun k => k) [Value.ref b] (nL := 4) (Nat.le_of_ble_eq_true rfl)
  rw [map_fvid] at hLv
  rw [lg_entry_eq]
  have hJ : RulesK code "ParcelBallLaw" 12 4 cA 29 1129 False (Kof p l e room_1 s m #[Value.ref b] below meth c D (fun q : Nat => s.heap.size ≤ q) 4 (lw_Z below #[Value.ref b] s)) := ⟨p, l, e, room_1, s, m, _, below, meth, c, D, _, _, ⟨hx, hb, hml, hown, hTW, hK, hA, ⟨by decide, by decide, by decide, by decide⟩, hN, fun h => h.elim⟩, rfl⟩
  refine law_ctor hJ (fun r1 b_r1 b_wa1 b_wb1 b_r2 b_wa2 b_wb2 b_r3 b_wa3 b_wb3 b_r4 b_ta b_r5 b_r6 b_sa b_sb b_sd b_r7 r2 a0 a1 a2 a3 a4 a5 a6 a7 a8 a9 => ?_) s.heap [] _ (fun k q h => by simp at h) ⟨fun i j p q h => by simp at h, fun k q h => by simp at h⟩ va_S.rf hLv
  intro H locs la hP hD hS hl
  generalize hadd : (fun k => if k < 29 then ([r1, b_r1, b_wa1, b_wb1, b_r2, b_wa2, b_wb2, b_r3, b_wa3, b_wb3, b_r4, b_ta, b_r5, b_r6, b_sa, b_sb, b_sd, b_r7, r2, a0, a1, a2, a3, a4, a5, a6, a7, a8, a9] : List Nat).getD k 0 else ad0 k) = ad
  have had : ∀ k, k < 29 → ad k = ([r1, b_r1, b_wa1, b_wb1, b_r2, b_wa2, b_wb2, b_r3, b_wa3, b_wb3, b_r4, b_ta, b_r5, b_r6, b_sa, b_sb, b_sd, b_r7, r2, a0, a1, a2, a3, a4, a5, a6, a7, a8, a9] : List Nat).getD k 0 := fun k hk => by rw [← hadd]; exact if_pos hk
  have had0 : ∀ k, 29 ≤ k → ad k = ad0 k := fun k hk => by rw [← hadd]; exact if_neg (by omega)
  rw [← ws_0 (cA := cA) (ad := ad) r1 b_r1 b_wa1 b_wb1 b_r2 b_wa2 b_wb2 b_r3 b_wa3 b_wb3 b_r4 b_ta b_r5 b_r6 b_sa b_sb b_sd b_r7 r2 a0 a1 a2 a3 a4 a5 a6 a7 a8 a9 had] at hP hD
  have hAd : ∀ k, k < 29 → (fun q : Nat => s.heap.size ≤ q) (ad k) := fun k hk => hD.2 k _ (ws_at hk)
  have hinj : ∀ i j, i < 29 → j < 29 → ad i = ad j → i = j := fun i j hi hj he => hD.1 i j _ _ (ws_at hi) (ws_at hj) he
  have hE := hEn ad had0 hinj
  have e45 : ad 45 = b := (had0 45 (by decide)).trans h45
  have hR : Rules code "ParcelBallLaw" 12 4 (fun t => if t = 45 then some (L, xs) else none) (Gof p l e room_1 s m #[Value.ref b] below meth c ad D cA (fun q : Nat => s.heap.size ≤ q) 29 1129 4 (lw_Z below #[Value.ref b] s)) := by
    refine ⟨p, l, e, room_1, s, m, _, below, meth, c, ad, D, cA, _, 29, 1129, _, ⟨hx, hb, hml, hown, hTW, hE, hAd, ⟨by decide, by decide, by decide, by decide⟩, fun t N f hr => ?_⟩, rfl⟩
    have hr : (if t = 45 then some (L, xs) else none) = some (N, f) := hr
    by_cases h : t = 45
    · subst h
      rw [if_pos rfl] at hr
      cases hr
      obtain ⟨scr, x1, x2, x3, x4, x5⟩ := hX
      rw [e45]
      exact ⟨scr, x1, x2, x3, by omega, by rw [x4], fun j hj => x5 j hj, Nat.not_le.mpr hbl⟩
    · rw [if_neg h] at hr; cases hr
  have hend : ∀ ls σ, Gof p l e room_1 s m #[Value.ref b] below meth c ad D cA (fun q : Nat => s.heap.size ≤ q) 29 1129 4 (lw_Z below #[Value.ref b] s) 1373 ls [.int 1] σ := by
    intro ls σ H locs la hP hS hl
    exact va_forget hS.2.2 (lw_ret hx hb hr hlocks dL_law_1373)
  have hl2 : Lv ad la 4 [some (.ref 45), some (.ref 0), some (.ref 18), none] := by
    refine ⟨hl.1, rfl, hl.2.2.1, fun i v hv => ?_⟩
    have h0 := hl.2.2.2
    match i, hv with
    | 0, hv => cases hv; show la[0]? = some (.val (.ref (ad 45))); rw [e45]; exact h0 0 (.ref b) rfl
    | 1, hv => cases hv; show la[1]? = some (.val (.ref (ad 0))); rw [had 0 (by decide)]; exact h0 1 _ rfl
    | 2, hv => cases hv; show la[2]? = some (.val (.ref (ad 18))); rw [had 18 (by decide)]; exact h0 2 _ rfl
    | 3, hv => cases hv
    | i + 4, hv => cases hv
  have key : Gof p l e room_1 s m #[Value.ref b] below meth c ad D cA (fun q : Nat => s.heap.size ≤ q) 29 1129 4 (lw_Z below #[Value.ref b] s) 16 [some (.ref 45), some (.ref 0), some (.ref 18), none] [] sg0 := by
    refine g_iconst_0 hR dL_law_16 ?_
    refine g_is_3 hR dL_law_17 trivial ?_
    exact lw_loop hR (if_pos rfl) hL hend L 0 sg0 (by omega) (by omega) J0
  exact key H locs la hP hS hl2
