theorem k_eqw {J : Kty} {pc : Nat} {ls : List (Option Value)} {st : List Value} {ws ws' : va_W} {cs cs' ss ss' : Nat} (e : ws = ws') (e1 : cs = cs') (e2 : ss = ss') (k : J pc ls st ws' cs' ss') : J pc ls st ws cs ss := by subst e; subst e1; subst e2; exact k
def iniS : Nat → Int32 := fun i => if i = 2 then 5 else if i = 3 then 10 else if i = 5 then 1 else if 54 ≤ i ∧ i < 64 then -1 else 0
theorem k_topv {J : Kty} {pc : Nat} {ls : List (Option Value)} {st : List Value} {ws : va_W} {cs ss : Nat} {v w : Int32} (e : v = w) (k : J pc ls (.int w :: st) ws cs ss) : J pc ls (.int v :: st) ws cs ss := e ▸ k
theorem kci_X0 : CI yX0_init cX0_init 1 none 0 := ⟨⟨by decide, by decide, by decide +kernel⟩, by decide, cd_yX0_init, in_X0⟩
theorem kci_X1 : CI yX1_init cX1_init 1 none 0 := ⟨⟨by decide, by decide, by decide +kernel⟩, by decide, cd_yX1_init, in_X1⟩
theorem kci_X2 : CI yX2_init cX2_init 3 none 2 := ⟨⟨by decide, by decide, by decide +kernel⟩, by decide, cd_yX2_init, in_X2⟩
theorem kci_X3 : CI yX3_init cX3_init 2 none 0 := ⟨⟨by decide, by decide, by decide +kernel⟩, by decide, cd_yX3_init, in_X3⟩
theorem kci_X4 : CI yX4_init cX4_init 1 none 0 := ⟨⟨by decide, by decide, by decide +kernel⟩, by decide, cd_yX4_init, in_X4⟩
theorem kci_X5 : CI yX5_init cX5_init 2 none 0 := ⟨⟨by decide, by decide, by decide +kernel⟩, by decide, cd_yX5_init, in_X5⟩
set_option maxRecDepth 100000 in
set_option maxHeartbeats 4000000 in
theorem k_Sheets (cA : ClassId) (q : Nat) : CtK yX0_init 1 3 168 cA cX0_init 1 [.ref q] [(q, .inr (0, [.null, .null, .null]))] (fun w' => ∃ a b d, w' = [(q, .inr (0, [.ref a, .ref b, .ref d])), (a, .inl (cA, 4, .inl (fun _ => 0))), (b, .inl (cA, 4, .inl (fun _ => 0))), (d, .inl (cA, 160, .inl (fun _ => 0)))]) := by
  refine CtK.of (by decide) rfl (Nat.le_of_ble_eq_true rfl) rfl (fun J hJ hE => ?_)
  refine k_aload_n hJ dX0_init_0 rfl ?_
  refine k_objInit hJ (Nat.le_of_ble_eq_true rfl) ml_X0_3 rfl dX0_init_1 ?_
  refine k_aload_n hJ dX0_init_4 rfl ?_
  refine k_iconst hJ (4) dX0_init_5 (by decide) ?_
  refine k_newa hJ 4 (by decide) (by decide) (by decide) (Nat.le_of_ble_eq_true rfl) (Nat.le_of_ble_eq_true rfl) dX0_init_6 (fun r1 => ?_)
  refine k_eqw (ws' := [(q, .inr (0, [.null, .null, .null])), (r1, .inl (cA, 4, .inl (fun _ => 0)))]) (cs' := 1) (ss' := 4) rfl rfl rfl ?_
  refine k_putF hJ Kl0 0 0 (ty := (.array .int)) rfl rfl (by decide) fl_X0_9 rfl (by decide +kernel) rfl rfl (Nat.le_of_ble_eq_true rfl) dX0_init_8 ?_
  refine k_eqw (ws' := [(q, .inr (0, [.ref r1, .null, .null])), (r1, .inl (cA, 4, .inl (fun _ => 0)))]) (cs' := 1) (ss' := 4) rfl rfl rfl ?_
  refine k_aload_n hJ dX0_init_11 rfl ?_
  refine k_iconst hJ (4) dX0_init_12 (by decide) ?_
  refine k_newa hJ 4 (by decide) (by decide) (by decide) (Nat.le_of_ble_eq_true rfl) (Nat.le_of_ble_eq_true rfl) dX0_init_13 (fun r2 => ?_)
  refine k_eqw (ws' := [(q, .inr (0, [.ref r1, .null, .null])), (r1, .inl (cA, 4, .inl (fun _ => 0))), (r2, .inl (cA, 4, .inl (fun _ => 0)))]) (cs' := 2) (ss' := 8) rfl rfl rfl ?_
  refine k_putF hJ Kl0 0 1 (ty := (.array .int)) rfl rfl (by decide) fl_X0_15 rfl (by decide +kernel) rfl rfl (Nat.le_of_ble_eq_true rfl) dX0_init_15 ?_
  refine k_eqw (ws' := [(q, .inr (0, [.ref r1, .ref r2, .null])), (r1, .inl (cA, 4, .inl (fun _ => 0))), (r2, .inl (cA, 4, .inl (fun _ => 0)))]) (cs' := 2) (ss' := 8) rfl rfl rfl ?_
  refine k_aload_n hJ dX0_init_18 rfl ?_
  refine k_sipush hJ (160) dX0_init_19 (by decide) ?_
  refine k_newa hJ 160 (by decide) (by decide) (by decide) (Nat.le_of_ble_eq_true rfl) (Nat.le_of_ble_eq_true rfl) dX0_init_22 (fun r3 => ?_)
  refine k_eqw (ws' := [(q, .inr (0, [.ref r1, .ref r2, .null])), (r1, .inl (cA, 4, .inl (fun _ => 0))), (r2, .inl (cA, 4, .inl (fun _ => 0))), (r3, .inl (cA, 160, .inl (fun _ => 0)))]) (cs' := 3) (ss' := 168) rfl rfl rfl ?_
  refine k_putF hJ Kl0 0 2 (ty := (.array .int)) rfl rfl (by decide) fl_X0_18 rfl (by decide +kernel) rfl rfl (Nat.le_of_ble_eq_true rfl) dX0_init_24 ?_
  refine k_eqw (ws' := [(q, .inr (0, [.ref r1, .ref r2, .ref r3])), (r1, .inl (cA, 4, .inl (fun _ => 0))), (r2, .inl (cA, 4, .inl (fun _ => 0))), (r3, .inl (cA, 160, .inl (fun _ => 0)))]) (cs' := 3) (ss' := 168) rfl rfl rfl ?_
  exact hE dX0_init_27 ⟨_, _, _, rfl⟩ (Nat.le_of_ble_eq_true rfl) (Nat.le_of_ble_eq_true rfl)
set_option maxRecDepth 100000 in
set_option maxHeartbeats 4000000 in
theorem k_Tape (cA : ClassId) (q : Nat) : CtK yX1_init 1 1 120 cA cX1_init 1 [.ref q] [(q, .inr (1, [.int 0, .null]))] (fun w' => ∃ a, w' = [(q, .inr (1, [.int 0, .ref a])), (a, .inl (cA, 120, .inl (fun _ => 0)))]) := by
  refine CtK.of (by decide) rfl (Nat.le_of_ble_eq_true rfl) rfl (fun J hJ hE => ?_)
  refine k_aload_n hJ dX1_init_0 rfl ?_
  refine k_objInit hJ (Nat.le_of_ble_eq_true rfl) ml_X1_3 rfl dX1_init_1 ?_
  refine k_aload_n hJ dX1_init_4 rfl ?_
  refine k_iconst hJ (0) dX1_init_5 (by decide) ?_
  refine k_put hJ Kl1 0 0 (ty := .int) rfl (by decide) fl_X1_9 rfl (by decide +kernel) rfl rfl (Nat.le_of_ble_eq_true rfl) dX1_init_6 ?_
  refine k_eqw (ws' := [(q, .inr (1, [.int 0, .null]))]) (cs' := 0) (ss' := 0) rfl rfl rfl ?_
  refine k_aload_n hJ dX1_init_9 rfl ?_
  refine k_bipush hJ (120) dX1_init_10 (by decide) ?_
  refine k_newa hJ 120 (by decide) (by decide) (by decide) (Nat.le_of_ble_eq_true rfl) (Nat.le_of_ble_eq_true rfl) dX1_init_12 (fun r1 => ?_)
  refine k_eqw (ws' := [(q, .inr (1, [.int 0, .null])), (r1, .inl (cA, 120, .inl (fun _ => 0)))]) (cs' := 1) (ss' := 120) rfl rfl rfl ?_
  refine k_putF hJ Kl1 0 1 (ty := (.array .int)) rfl rfl (by decide) fl_X1_15 rfl (by decide +kernel) rfl rfl (Nat.le_of_ble_eq_true rfl) dX1_init_14 ?_
  refine k_eqw (ws' := [(q, .inr (1, [.int 0, .ref r1])), (r1, .inl (cA, 120, .inl (fun _ => 0)))]) (cs' := 1) (ss' := 120) rfl rfl rfl ?_
  exact hE dX1_init_17 ⟨_, rfl⟩ (Nat.le_of_ble_eq_true rfl) (Nat.le_of_ble_eq_true rfl)
set_option maxRecDepth 100000 in
set_option maxHeartbeats 4000000 in
theorem k_Reader (cA : ClassId) (q a b : Nat) : CtK yX2_init 1 0 0 cA cX2_init 3 [.ref q, .ref a, .ref b] [(q, .inr (2, [.null, .null, .int 0, .int 0, .int 0, .int 0]))] (fun w' => w' = [(q, .inr (2, [.ref a, .ref b, .int 0, .int 0, .int 0, .int 0]))]) := by
  refine CtK.of (by decide) rfl (Nat.le_of_ble_eq_true rfl) rfl (fun J hJ hE => ?_)
  refine k_aload_n hJ dX2_init_0 rfl ?_
  refine k_objInit hJ (Nat.le_of_ble_eq_true rfl) ml_X2_3 rfl dX2_init_1 ?_
  refine k_aload_n hJ dX2_init_4 rfl ?_
  refine k_iconst hJ (0) dX2_init_5 (by decide) ?_
  refine k_put hJ Kl2 0 2 (ty := .int) rfl (by decide) fl_X2_11 rfl (by decide +kernel) rfl rfl (Nat.le_of_ble_eq_true rfl) dX2_init_6 ?_
  refine k_eqw (ws' := [(q, .inr (2, [.null, .null, .int 0, .int 0, .int 0, .int 0]))]) (cs' := 0) (ss' := 0) rfl rfl rfl ?_
  refine k_aload_n hJ dX2_init_9 rfl ?_
  refine k_iconst hJ (0) dX2_init_10 (by decide) ?_
  refine k_put hJ Kl2 0 3 (ty := .int) rfl (by decide) fl_X2_15 rfl (by decide +kernel) rfl rfl (Nat.le_of_ble_eq_true rfl) dX2_init_11 ?_
  refine k_eqw (ws' := [(q, .inr (2, [.null, .null, .int 0, .int 0, .int 0, .int 0]))]) (cs' := 0) (ss' := 0) rfl rfl rfl ?_
  refine k_aload_n hJ dX2_init_14 rfl ?_
  refine k_iconst hJ (0) dX2_init_15 (by decide) ?_
  refine k_put hJ Kl2 0 4 (ty := .int) rfl (by decide) fl_X2_18 rfl (by decide +kernel) rfl rfl (Nat.le_of_ble_eq_true rfl) dX2_init_16 ?_
  refine k_eqw (ws' := [(q, .inr (2, [.null, .null, .int 0, .int 0, .int 0, .int 0]))]) (cs' := 0) (ss' := 0) rfl rfl rfl ?_
  refine k_aload_n hJ dX2_init_19 rfl ?_
  refine k_iconst hJ (0) dX2_init_20 (by decide) ?_
  refine k_put hJ Kl2 0 5 (ty := .int) rfl (by decide) fl_X2_21 rfl (by decide +kernel) rfl rfl (Nat.le_of_ble_eq_true rfl) dX2_init_21 ?_
  refine k_eqw (ws' := [(q, .inr (2, [.null, .null, .int 0, .int 0, .int 0, .int 0]))]) (cs' := 0) (ss' := 0) rfl rfl rfl ?_
  refine k_aload_n hJ dX2_init_24 rfl ?_
  refine k_aload_n hJ dX2_init_25 rfl ?_
  refine k_putF hJ Kl2 0 0 (ty := (.object "ParcelBall$Tape")) rfl rfl (by decide) fl_X2_24 rfl (by decide +kernel) rfl rfl (Nat.le_of_ble_eq_true rfl) dX2_init_26 ?_
  refine k_eqw (ws' := [(q, .inr (2, [.ref a, .null, .int 0, .int 0, .int 0, .int 0]))]) (cs' := 0) (ss' := 0) rfl rfl rfl ?_
  refine k_aload_n hJ dX2_init_29 rfl ?_
  refine k_aload_n hJ dX2_init_30 rfl ?_
  refine k_putF hJ Kl2 0 1 (ty := (.object "ParcelBall$World")) rfl rfl (by decide) fl_X2_28 rfl (by decide +kernel) rfl rfl (Nat.le_of_ble_eq_true rfl) dX2_init_31 ?_
  refine k_eqw (ws' := [(q, .inr (2, [.ref a, .ref b, .int 0, .int 0, .int 0, .int 0]))]) (cs' := 0) (ss' := 0) rfl rfl rfl ?_
  exact hE dX2_init_34 rfl (Nat.le_of_ble_eq_true rfl) (Nat.le_of_ble_eq_true rfl)
set_option maxRecDepth 100000 in
set_option maxHeartbeats 4000000 in
theorem k_World (cA : ClassId) (q : Nat) : CtK yX3_init 1 2 58 cA cX3_init 2 [.ref q] [(q, .inr (3, [.int 0, .int 0, .int 0, .int 0, .int 0, .int 0, .int 0, .int 0, .int 0, .null, .null]))] (fun w' => ∃ a b, w' = [(q, .inr (3, [.int 5, .int 10, .int 0, .int 0, .int 1, .int 0, .int 0, .int 0, .int 0, .ref a, .ref b])), (a, .inl (cA, 48, .inl (fun _ => 0))), (b, .inl (cA, 10, .inl (fun j => if j < 10 then -1 else 0)))]) := by
  refine CtK.of (by decide) rfl (Nat.le_of_ble_eq_true rfl) rfl (fun J hJ hE => ?_)
  refine k_aload_n hJ dX3_init_0 rfl ?_
  refine k_objInit hJ (Nat.le_of_ble_eq_true rfl) ml_X3_3 rfl dX3_init_1 ?_
  refine k_aload_n hJ dX3_init_4 rfl ?_
  refine k_iconst hJ (5) dX3_init_5 (by decide) ?_
  refine k_put hJ Kl3 0 0 (ty := .int) rfl (by decide) fl_X3_9 rfl (by decide +kernel) rfl rfl (Nat.le_of_ble_eq_true rfl) dX3_init_6 ?_
  refine k_eqw (ws' := [(q, .inr (3, [.int 5, .int 0, .int 0, .int 0, .int 0, .int 0, .int 0, .int 0, .int 0, .null, .null]))]) (cs' := 0) (ss' := 0) rfl rfl rfl ?_
  refine k_aload_n hJ dX3_init_9 rfl ?_
  refine k_bipush hJ (10) dX3_init_10 (by decide) ?_
  refine k_put hJ Kl3 0 1 (ty := .int) rfl (by decide) fl_X3_15 rfl (by decide +kernel) rfl rfl (Nat.le_of_ble_eq_true rfl) dX3_init_12 ?_
  refine k_eqw (ws' := [(q, .inr (3, [.int 5, .int 10, .int 0, .int 0, .int 0, .int 0, .int 0, .int 0, .int 0, .null, .null]))]) (cs' := 0) (ss' := 0) rfl rfl rfl ?_
  refine k_aload_n hJ dX3_init_15 rfl ?_
  refine k_iconst hJ (0) dX3_init_16 (by decide) ?_
  refine k_put hJ Kl3 0 2 (ty := .int) rfl (by decide) fl_X3_18 rfl (by decide +kernel) rfl rfl (Nat.le_of_ble_eq_true rfl) dX3_init_17 ?_
  refine k_eqw (ws' := [(q, .inr (3, [.int 5, .int 10, .int 0, .int 0, .int 0, .int 0, .int 0, .int 0, .int 0, .null, .null]))]) (cs' := 0) (ss' := 0) rfl rfl rfl ?_
  refine k_aload_n hJ dX3_init_20 rfl ?_
  refine k_iconst hJ (0) dX3_init_21 (by decide) ?_
  refine k_put hJ Kl3 0 3 (ty := .int) rfl (by decide) fl_X3_21 rfl (by decide +kernel) rfl rfl (Nat.le_of_ble_eq_true rfl) dX3_init_22 ?_
  refine k_eqw (ws' := [(q, .inr (3, [.int 5, .int 10, .int 0, .int 0, .int 0, .int 0, .int 0, .int 0, .int 0, .null, .null]))]) (cs' := 0) (ss' := 0) rfl rfl rfl ?_
  refine k_aload_n hJ dX3_init_25 rfl ?_
  refine k_iconst hJ (1) dX3_init_26 (by decide) ?_
  refine k_put hJ Kl3 0 4 (ty := .int) rfl (by decide) fl_X3_24 rfl (by decide +kernel) rfl rfl (Nat.le_of_ble_eq_true rfl) dX3_init_27 ?_
  refine k_eqw (ws' := [(q, .inr (3, [.int 5, .int 10, .int 0, .int 0, .int 1, .int 0, .int 0, .int 0, .int 0, .null, .null]))]) (cs' := 0) (ss' := 0) rfl rfl rfl ?_
  refine k_aload_n hJ dX3_init_30 rfl ?_
  refine k_iconst hJ (0) dX3_init_31 (by decide) ?_
  refine k_put hJ Kl3 0 5 (ty := .int) rfl (by decide) fl_X3_27 rfl (by decide +kernel) rfl rfl (Nat.le_of_ble_eq_true rfl) dX3_init_32 ?_
  refine k_eqw (ws' := [(q, .inr (3, [.int 5, .int 10, .int 0, .int 0, .int 1, .int 0, .int 0, .int 0, .int 0, .null, .null]))]) (cs' := 0) (ss' := 0) rfl rfl rfl ?_
  refine k_aload_n hJ dX3_init_35 rfl ?_
  refine k_iconst hJ (0) dX3_init_36 (by decide) ?_
  refine k_put hJ Kl3 0 6 (ty := .int) rfl (by decide) fl_X3_30 rfl (by decide +kernel) rfl rfl (Nat.le_of_ble_eq_true rfl) dX3_init_37 ?_
  refine k_eqw (ws' := [(q, .inr (3, [.int 5, .int 10, .int 0, .int 0, .int 1, .int 0, .int 0, .int 0, .int 0, .null, .null]))]) (cs' := 0) (ss' := 0) rfl rfl rfl ?_
  refine k_aload_n hJ dX3_init_40 rfl ?_
  refine k_iconst hJ (0) dX3_init_41 (by decide) ?_
  refine k_put hJ Kl3 0 7 (ty := .int) rfl (by decide) fl_X3_33 rfl (by decide +kernel) rfl rfl (Nat.le_of_ble_eq_true rfl) dX3_init_42 ?_
  refine k_eqw (ws' := [(q, .inr (3, [.int 5, .int 10, .int 0, .int 0, .int 1, .int 0, .int 0, .int 0, .int 0, .null, .null]))]) (cs' := 0) (ss' := 0) rfl rfl rfl ?_
  refine k_aload_n hJ dX3_init_45 rfl ?_
  refine k_iconst hJ (0) dX3_init_46 (by decide) ?_
  refine k_put hJ Kl3 0 8 (ty := .int) rfl (by decide) fl_X3_36 rfl (by decide +kernel) rfl rfl (Nat.le_of_ble_eq_true rfl) dX3_init_47 ?_
  refine k_eqw (ws' := [(q, .inr (3, [.int 5, .int 10, .int 0, .int 0, .int 1, .int 0, .int 0, .int 0, .int 0, .null, .null]))]) (cs' := 0) (ss' := 0) rfl rfl rfl ?_
  refine k_aload_n hJ dX3_init_50 rfl ?_
  refine k_bipush hJ (48) dX3_init_51 (by decide) ?_
  refine k_newa hJ 48 (by decide) (by decide) (by decide) (Nat.le_of_ble_eq_true rfl) (Nat.le_of_ble_eq_true rfl) dX3_init_53 (fun r1 => ?_)
  refine k_eqw (ws' := [(q, .inr (3, [.int 5, .int 10, .int 0, .int 0, .int 1, .int 0, .int 0, .int 0, .int 0, .null, .null])), (r1, .inl (cA, 48, .inl (fun _ => 0)))]) (cs' := 1) (ss' := 48) rfl rfl rfl ?_
  refine k_putF hJ Kl3 0 9 (ty := (.array .int)) rfl rfl (by decide) fl_X3_39 rfl (by decide +kernel) rfl rfl (Nat.le_of_ble_eq_true rfl) dX3_init_55 ?_
  refine k_eqw (ws' := [(q, .inr (3, [.int 5, .int 10, .int 0, .int 0, .int 1, .int 0, .int 0, .int 0, .int 0, .ref r1, .null])), (r1, .inl (cA, 48, .inl (fun _ => 0)))]) (cs' := 1) (ss' := 48) rfl rfl rfl ?_
  refine k_aload_n hJ dX3_init_58 rfl ?_
  refine k_bipush hJ (10) dX3_init_59 (by decide) ?_
  refine k_newa hJ 10 (by decide) (by decide) (by decide) (Nat.le_of_ble_eq_true rfl) (Nat.le_of_ble_eq_true rfl) dX3_init_61 (fun r2 => ?_)
  refine k_eqw (ws' := [(q, .inr (3, [.int 5, .int 10, .int 0, .int 0, .int 1, .int 0, .int 0, .int 0, .int 0, .ref r1, .null])), (r1, .inl (cA, 48, .inl (fun _ => 0))), (r2, .inl (cA, 10, .inl (fun _ => 0)))]) (cs' := 2) (ss' := 58) rfl rfl rfl ?_
  refine k_putF hJ Kl3 0 10 (ty := (.array .int)) rfl rfl (by decide) fl_X3_43 rfl (by decide +kernel) rfl rfl (Nat.le_of_ble_eq_true rfl) dX3_init_63 ?_
  refine k_eqw (ws' := [(q, .inr (3, [.int 5, .int 10, .int 0, .int 0, .int 1, .int 0, .int 0, .int 0, .int 0, .ref r1, .ref r2])), (r1, .inl (cA, 48, .inl (fun _ => 0))), (r2, .inl (cA, 10, .inl (fun _ => 0)))]) (cs' := 2) (ss' := 58) rfl rfl rfl ?_
  refine k_iconst hJ (0) dX3_init_66 (by decide) ?_
  refine k_istore_n hJ dX3_init_67 trivial (Nat.le_of_ble_eq_true rfl) rfl ?_
  have lp : ∀ d' k, k + d' = 10 → J 68 [some (.ref q), some (.int (nI k))] [] [(q, .inr (3, [.int 5, .int 10, .int 0, .int 0, .int 1, .int 0, .int 0, .int 0, .int 0, .ref r1, .ref r2])), (r1, .inl (cA, 48, .inl (fun _ => 0))), (r2, .inl (cA, 10, .inl (fun j => if j < k then -1 else 0)))] 2 58 := by
    intro d'
    induction d' with
    | zero =>
      intro k hk
      obtain rfl : k = 10 := by omega
      refine k_iload_n hJ dX3_init_68 rfl ?_
      refine k_bipush hJ (10) dX3_init_69 (by decide) ?_
      refine k_icmp_ge hJ 87 dX3_init_71 (by decide) (fun _ => ?_) (fun h_c => absurd (Int32.le_refl _) h_c)
      exact hE dX3_init_87 ⟨_, _, rfl⟩ (Nat.le_refl _) (Nat.le_refl _)
    | succ d' ih =>
      intro k hk
      refine k_iload_n hJ dX3_init_68 rfl ?_
      refine k_bipush hJ (10) dX3_init_69 (by decide) ?_
      refine k_icmp_ge hJ 87 dX3_init_71 (by decide) (fun h_c => absurd h_c (nI_ge (b := 10) (by omega) (by decide))) (fun _ => ?_)
      refine k_aload_n hJ dX3_init_74 rfl ?_
      refine k_get hJ Kl3 0 10 rfl (by decide) fl_X3_43 rfl dX3_init_75 ?_
      refine k_iload_n hJ dX3_init_78 rfl ?_
      refine k_iconst hJ (-1) dX3_init_79 (by decide) ?_
      refine k_iast hJ 2 k rfl (by decide) (by omega) rfl dX3_init_80 ?_
      refine k_eqw (ws' := [(q, .inr (3, [.int 5, .int 10, .int 0, .int 0, .int 1, .int 0, .int 0, .int 0, .int 0, .ref r1, .ref r2])), (r1, .inl (cA, 48, .inl (fun _ => 0))), (r2, .inl (cA, 10, .inl (fun j => if j < k + 1 then -1 else 0)))]) (cs' := 2) (ss' := 58) (congrArg (fun f => [(q, Sum.inr (3, _)), (r1, Sum.inl (cA, 48, Sum.inl (fun _ => 0))), (r2, Sum.inl (cA, 10, Sum.inl f))]) (funext fun j => ?_)) rfl rfl ?_
      · show (if j = k then (-1 : Int32) else if j < k then -1 else 0) = if j < k + 1 then -1 else 0
        by_cases h1 : j = k
        · rw [if_pos h1, if_pos (by omega)]
        · rw [if_neg h1]
          by_cases h2 : j < k
          · rw [if_pos h2, if_pos (by omega)]
          · rw [if_neg h2, if_neg (by omega)]
      · refine k_iinc hJ dX3_init_81 rfl (nI_1 k) trivial rfl ?_
        refine k_goto hJ 68 dX3_init_84 (by decide) ?_
        exact ih (k + 1) (by omega)
  refine k_eqw (ws' := [(q, .inr (3, [.int 5, .int 10, .int 0, .int 0, .int 1, .int 0, .int 0, .int 0, .int 0, .ref r1, .ref r2])), (r1, .inl (cA, 48, .inl (fun _ => 0))), (r2, .inl (cA, 10, .inl (fun j => if j < 0 then -1 else 0)))]) (cs' := 2) (ss' := 58) (congrArg (fun f => [(q, Sum.inr (3, _)), (r1, Sum.inl (cA, 48, Sum.inl (fun _ => 0))), (r2, Sum.inl (cA, 10, Sum.inl f))]) (funext fun j => by rw [if_neg (by omega)])) rfl rfl ?_
  exact lp 10 0 (by omega)
set_option maxRecDepth 100000 in
set_option maxHeartbeats 4000000 in
theorem k_Model (cA : ClassId) (q : Nat) : CtK yX5_init 1 10 591 cA cX5_init 2 [.ref q] [(q, .inr (5, [.null, .null, .null, .null, .null, .int 0, .int 0, .null, .int 0, .int 0, .int 0, .int 0, .int 0, .null, .null, .null, .null]))] (fun w' => ∃ a0 a1 a2 a3 a4 a5 a6 a7 a8 a9, w' = [(q, .inr (5, [.ref a0, .ref a1, .ref a2, .ref a3, .ref a4, .int 0, .int 0, .ref a5, .int 0, .int 0, .int 0, .int 0, .int 0, .ref a6, .ref a7, .ref a8, .ref a9])), (a0, .inl (cA, 64, .inl (fun j => if j < 64 then iniS j else 0))), (a1, .inl (cA, 64, .inl (fun _ => 0))), (a2, .inl (cA, 64, .inl (fun _ => 0))), (a3, .inl (cA, 64, .inl (fun _ => 0))), (a4, .inl (cA, 7, .inl (fun _ => 0))), (a5, .inl (cA, 120, .inl (fun _ => 0))), (a6, .inl (cA, 4, .inl (fun _ => 0))), (a7, .inl (cA, 4, .inl (fun _ => 0))), (a8, .inl (cA, 160, .inl (fun _ => 0))), (a9, .inl (cA, 40, .inl (fun _ => 0)))]) := by
  refine CtK.of (by decide) rfl (Nat.le_of_ble_eq_true rfl) rfl (fun J hJ hE => ?_)
  refine k_aload_n hJ dX5_init_0 rfl ?_
  refine k_objInit hJ (Nat.le_of_ble_eq_true rfl) ml_X5_1 rfl dX5_init_1 ?_
  refine k_aload_n hJ dX5_init_4 rfl ?_
  refine k_bipush hJ (64) dX5_init_5 (by decide) ?_
  refine k_newa hJ 64 (by decide) (by decide) (by decide) (Nat.le_of_ble_eq_true rfl) (Nat.le_of_ble_eq_true rfl) dX5_init_7 (fun r1 => ?_)
  refine k_eqw (ws' := [(q, .inr (5, [.null, .null, .null, .null, .null, .int 0, .int 0, .null, .int 0, .int 0, .int 0, .int 0, .int 0, .null, .null, .null, .null])), (r1, .inl (cA, 64, .inl (fun _ => 0)))]) (cs' := 1) (ss' := 64) rfl rfl rfl ?_
  refine k_putF hJ Kl5 0 0 (ty := (.array .int)) rfl rfl (by decide) fl_X5_7 rfl (by decide +kernel) rfl rfl (Nat.le_of_ble_eq_true rfl) dX5_init_9 ?_
  refine k_eqw (ws' := [(q, .inr (5, [.ref r1, .null, .null, .null, .null, .int 0, .int 0, .null, .int 0, .int 0, .int 0, .int 0, .int 0, .null, .null, .null, .null])), (r1, .inl (cA, 64, .inl (fun _ => 0)))]) (cs' := 1) (ss' := 64) rfl rfl rfl ?_
  refine k_aload_n hJ dX5_init_12 rfl ?_
  refine k_bipush hJ (64) dX5_init_13 (by decide) ?_
  refine k_newa hJ 64 (by decide) (by decide) (by decide) (Nat.le_of_ble_eq_true rfl) (Nat.le_of_ble_eq_true rfl) dX5_init_15 (fun r2 => ?_)
  refine k_eqw (ws' := [(q, .inr (5, [.ref r1, .null, .null, .null, .null, .int 0, .int 0, .null, .int 0, .int 0, .int 0, .int 0, .int 0, .null, .null, .null, .null])), (r1, .inl (cA, 64, .inl (fun _ => 0))), (r2, .inl (cA, 64, .inl (fun _ => 0)))]) (cs' := 2) (ss' := 128) rfl rfl rfl ?_
  refine k_putF hJ Kl5 0 1 (ty := (.array .int)) rfl rfl (by decide) fl_X5_13 rfl (by decide +kernel) rfl rfl (Nat.le_of_ble_eq_true rfl) dX5_init_17 ?_
  refine k_eqw (ws' := [(q, .inr (5, [.ref r1, .ref r2, .null, .null, .null, .int 0, .int 0, .null, .int 0, .int 0, .int 0, .int 0, .int 0, .null, .null, .null, .null])), (r1, .inl (cA, 64, .inl (fun _ => 0))), (r2, .inl (cA, 64, .inl (fun _ => 0)))]) (cs' := 2) (ss' := 128) rfl rfl rfl ?_
  refine k_aload_n hJ dX5_init_20 rfl ?_
  refine k_bipush hJ (64) dX5_init_21 (by decide) ?_
  refine k_newa hJ 64 (by decide) (by decide) (by decide) (Nat.le_of_ble_eq_true rfl) (Nat.le_of_ble_eq_true rfl) dX5_init_23 (fun r3 => ?_)
  refine k_eqw (ws' := [(q, .inr (5, [.ref r1, .ref r2, .null, .null, .null, .int 0, .int 0, .null, .int 0, .int 0, .int 0, .int 0, .int 0, .null, .null, .null, .null])), (r1, .inl (cA, 64, .inl (fun _ => 0))), (r2, .inl (cA, 64, .inl (fun _ => 0))), (r3, .inl (cA, 64, .inl (fun _ => 0)))]) (cs' := 3) (ss' := 192) rfl rfl rfl ?_
  refine k_putF hJ Kl5 0 2 (ty := (.array .int)) rfl rfl (by decide) fl_X5_16 rfl (by decide +kernel) rfl rfl (Nat.le_of_ble_eq_true rfl) dX5_init_25 ?_
  refine k_eqw (ws' := [(q, .inr (5, [.ref r1, .ref r2, .ref r3, .null, .null, .int 0, .int 0, .null, .int 0, .int 0, .int 0, .int 0, .int 0, .null, .null, .null, .null])), (r1, .inl (cA, 64, .inl (fun _ => 0))), (r2, .inl (cA, 64, .inl (fun _ => 0))), (r3, .inl (cA, 64, .inl (fun _ => 0)))]) (cs' := 3) (ss' := 192) rfl rfl rfl ?_
  refine k_aload_n hJ dX5_init_28 rfl ?_
  refine k_bipush hJ (64) dX5_init_29 (by decide) ?_
  refine k_newa hJ 64 (by decide) (by decide) (by decide) (Nat.le_of_ble_eq_true rfl) (Nat.le_of_ble_eq_true rfl) dX5_init_31 (fun r4 => ?_)
  refine k_eqw (ws' := [(q, .inr (5, [.ref r1, .ref r2, .ref r3, .null, .null, .int 0, .int 0, .null, .int 0, .int 0, .int 0, .int 0, .int 0, .null, .null, .null, .null])), (r1, .inl (cA, 64, .inl (fun _ => 0))), (r2, .inl (cA, 64, .inl (fun _ => 0))), (r3, .inl (cA, 64, .inl (fun _ => 0))), (r4, .inl (cA, 64, .inl (fun _ => 0)))]) (cs' := 4) (ss' := 256) rfl rfl rfl ?_
  refine k_putF hJ Kl5 0 3 (ty := (.array .int)) rfl rfl (by decide) fl_X5_19 rfl (by decide +kernel) rfl rfl (Nat.le_of_ble_eq_true rfl) dX5_init_33 ?_
  refine k_eqw (ws' := [(q, .inr (5, [.ref r1, .ref r2, .ref r3, .ref r4, .null, .int 0, .int 0, .null, .int 0, .int 0, .int 0, .int 0, .int 0, .null, .null, .null, .null])), (r1, .inl (cA, 64, .inl (fun _ => 0))), (r2, .inl (cA, 64, .inl (fun _ => 0))), (r3, .inl (cA, 64, .inl (fun _ => 0))), (r4, .inl (cA, 64, .inl (fun _ => 0)))]) (cs' := 4) (ss' := 256) rfl rfl rfl ?_
  refine k_aload_n hJ dX5_init_36 rfl ?_
  refine k_bipush hJ (7) dX5_init_37 (by decide) ?_
  refine k_newa hJ 7 (by decide) (by decide) (by decide) (Nat.le_of_ble_eq_true rfl) (Nat.le_of_ble_eq_true rfl) dX5_init_39 (fun r5 => ?_)
  refine k_eqw (ws' := [(q, .inr (5, [.ref r1, .ref r2, .ref r3, .ref r4, .null, .int 0, .int 0, .null, .int 0, .int 0, .int 0, .int 0, .int 0, .null, .null, .null, .null])), (r1, .inl (cA, 64, .inl (fun _ => 0))), (r2, .inl (cA, 64, .inl (fun _ => 0))), (r3, .inl (cA, 64, .inl (fun _ => 0))), (r4, .inl (cA, 64, .inl (fun _ => 0))), (r5, .inl (cA, 7, .inl (fun _ => 0)))]) (cs' := 5) (ss' := 263) rfl rfl rfl ?_
  refine k_putF hJ Kl5 0 4 (ty := (.array .int)) rfl rfl (by decide) fl_X5_22 rfl (by decide +kernel) rfl rfl (Nat.le_of_ble_eq_true rfl) dX5_init_41 ?_
  refine k_eqw (ws' := [(q, .inr (5, [.ref r1, .ref r2, .ref r3, .ref r4, .ref r5, .int 0, .int 0, .null, .int 0, .int 0, .int 0, .int 0, .int 0, .null, .null, .null, .null])), (r1, .inl (cA, 64, .inl (fun _ => 0))), (r2, .inl (cA, 64, .inl (fun _ => 0))), (r3, .inl (cA, 64, .inl (fun _ => 0))), (r4, .inl (cA, 64, .inl (fun _ => 0))), (r5, .inl (cA, 7, .inl (fun _ => 0)))]) (cs' := 5) (ss' := 263) rfl rfl rfl ?_
  refine k_aload_n hJ dX5_init_44 rfl ?_
  refine k_bipush hJ (120) dX5_init_45 (by decide) ?_
  refine k_newa hJ 120 (by decide) (by decide) (by decide) (Nat.le_of_ble_eq_true rfl) (Nat.le_of_ble_eq_true rfl) dX5_init_47 (fun r6 => ?_)
  refine k_eqw (ws' := [(q, .inr (5, [.ref r1, .ref r2, .ref r3, .ref r4, .ref r5, .int 0, .int 0, .null, .int 0, .int 0, .int 0, .int 0, .int 0, .null, .null, .null, .null])), (r1, .inl (cA, 64, .inl (fun _ => 0))), (r2, .inl (cA, 64, .inl (fun _ => 0))), (r3, .inl (cA, 64, .inl (fun _ => 0))), (r4, .inl (cA, 64, .inl (fun _ => 0))), (r5, .inl (cA, 7, .inl (fun _ => 0))), (r6, .inl (cA, 120, .inl (fun _ => 0)))]) (cs' := 6) (ss' := 383) rfl rfl rfl ?_
  refine k_putF hJ Kl5 0 7 (ty := (.array .int)) rfl rfl (by decide) fl_X5_25 rfl (by decide +kernel) rfl rfl (Nat.le_of_ble_eq_true rfl) dX5_init_49 ?_
  refine k_eqw (ws' := [(q, .inr (5, [.ref r1, .ref r2, .ref r3, .ref r4, .ref r5, .int 0, .int 0, .ref r6, .int 0, .int 0, .int 0, .int 0, .int 0, .null, .null, .null, .null])), (r1, .inl (cA, 64, .inl (fun _ => 0))), (r2, .inl (cA, 64, .inl (fun _ => 0))), (r3, .inl (cA, 64, .inl (fun _ => 0))), (r4, .inl (cA, 64, .inl (fun _ => 0))), (r5, .inl (cA, 7, .inl (fun _ => 0))), (r6, .inl (cA, 120, .inl (fun _ => 0)))]) (cs' := 6) (ss' := 383) rfl rfl rfl ?_
  refine k_aload_n hJ dX5_init_52 rfl ?_
  refine k_iconst hJ (4) dX5_init_53 (by decide) ?_
  refine k_newa hJ 4 (by decide) (by decide) (by decide) (Nat.le_of_ble_eq_true rfl) (Nat.le_of_ble_eq_true rfl) dX5_init_54 (fun r7 => ?_)
  refine k_eqw (ws' := [(q, .inr (5, [.ref r1, .ref r2, .ref r3, .ref r4, .ref r5, .int 0, .int 0, .ref r6, .int 0, .int 0, .int 0, .int 0, .int 0, .null, .null, .null, .null])), (r1, .inl (cA, 64, .inl (fun _ => 0))), (r2, .inl (cA, 64, .inl (fun _ => 0))), (r3, .inl (cA, 64, .inl (fun _ => 0))), (r4, .inl (cA, 64, .inl (fun _ => 0))), (r5, .inl (cA, 7, .inl (fun _ => 0))), (r6, .inl (cA, 120, .inl (fun _ => 0))), (r7, .inl (cA, 4, .inl (fun _ => 0)))]) (cs' := 7) (ss' := 387) rfl rfl rfl ?_
  refine k_putF hJ Kl5 0 13 (ty := (.array .int)) rfl rfl (by decide) fl_X5_28 rfl (by decide +kernel) rfl rfl (Nat.le_of_ble_eq_true rfl) dX5_init_56 ?_
  refine k_eqw (ws' := [(q, .inr (5, [.ref r1, .ref r2, .ref r3, .ref r4, .ref r5, .int 0, .int 0, .ref r6, .int 0, .int 0, .int 0, .int 0, .int 0, .ref r7, .null, .null, .null])), (r1, .inl (cA, 64, .inl (fun _ => 0))), (r2, .inl (cA, 64, .inl (fun _ => 0))), (r3, .inl (cA, 64, .inl (fun _ => 0))), (r4, .inl (cA, 64, .inl (fun _ => 0))), (r5, .inl (cA, 7, .inl (fun _ => 0))), (r6, .inl (cA, 120, .inl (fun _ => 0))), (r7, .inl (cA, 4, .inl (fun _ => 0)))]) (cs' := 7) (ss' := 387) rfl rfl rfl ?_
  refine k_aload_n hJ dX5_init_59 rfl ?_
  refine k_iconst hJ (4) dX5_init_60 (by decide) ?_
  refine k_newa hJ 4 (by decide) (by decide) (by decide) (Nat.le_of_ble_eq_true rfl) (Nat.le_of_ble_eq_true rfl) dX5_init_61 (fun r8 => ?_)
  refine k_eqw (ws' := [(q, .inr (5, [.ref r1, .ref r2, .ref r3, .ref r4, .ref r5, .int 0, .int 0, .ref r6, .int 0, .int 0, .int 0, .int 0, .int 0, .ref r7, .null, .null, .null])), (r1, .inl (cA, 64, .inl (fun _ => 0))), (r2, .inl (cA, 64, .inl (fun _ => 0))), (r3, .inl (cA, 64, .inl (fun _ => 0))), (r4, .inl (cA, 64, .inl (fun _ => 0))), (r5, .inl (cA, 7, .inl (fun _ => 0))), (r6, .inl (cA, 120, .inl (fun _ => 0))), (r7, .inl (cA, 4, .inl (fun _ => 0))), (r8, .inl (cA, 4, .inl (fun _ => 0)))]) (cs' := 8) (ss' := 391) rfl rfl rfl ?_
  refine k_putF hJ Kl5 0 14 (ty := (.array .int)) rfl rfl (by decide) fl_X5_31 rfl (by decide +kernel) rfl rfl (Nat.le_of_ble_eq_true rfl) dX5_init_63 ?_
  refine k_eqw (ws' := [(q, .inr (5, [.ref r1, .ref r2, .ref r3, .ref r4, .ref r5, .int 0, .int 0, .ref r6, .int 0, .int 0, .int 0, .int 0, .int 0, .ref r7, .ref r8, .null, .null])), (r1, .inl (cA, 64, .inl (fun _ => 0))), (r2, .inl (cA, 64, .inl (fun _ => 0))), (r3, .inl (cA, 64, .inl (fun _ => 0))), (r4, .inl (cA, 64, .inl (fun _ => 0))), (r5, .inl (cA, 7, .inl (fun _ => 0))), (r6, .inl (cA, 120, .inl (fun _ => 0))), (r7, .inl (cA, 4, .inl (fun _ => 0))), (r8, .inl (cA, 4, .inl (fun _ => 0)))]) (cs' := 8) (ss' := 391) rfl rfl rfl ?_
  refine k_aload_n hJ dX5_init_66 rfl ?_
  refine k_sipush hJ (160) dX5_init_67 (by decide) ?_
  refine k_newa hJ 160 (by decide) (by decide) (by decide) (Nat.le_of_ble_eq_true rfl) (Nat.le_of_ble_eq_true rfl) dX5_init_70 (fun r9 => ?_)
  refine k_eqw (ws' := [(q, .inr (5, [.ref r1, .ref r2, .ref r3, .ref r4, .ref r5, .int 0, .int 0, .ref r6, .int 0, .int 0, .int 0, .int 0, .int 0, .ref r7, .ref r8, .null, .null])), (r1, .inl (cA, 64, .inl (fun _ => 0))), (r2, .inl (cA, 64, .inl (fun _ => 0))), (r3, .inl (cA, 64, .inl (fun _ => 0))), (r4, .inl (cA, 64, .inl (fun _ => 0))), (r5, .inl (cA, 7, .inl (fun _ => 0))), (r6, .inl (cA, 120, .inl (fun _ => 0))), (r7, .inl (cA, 4, .inl (fun _ => 0))), (r8, .inl (cA, 4, .inl (fun _ => 0))), (r9, .inl (cA, 160, .inl (fun _ => 0)))]) (cs' := 9) (ss' := 551) rfl rfl rfl ?_
  refine k_putF hJ Kl5 0 15 (ty := (.array .int)) rfl rfl (by decide) fl_X5_34 rfl (by decide +kernel) rfl rfl (Nat.le_of_ble_eq_true rfl) dX5_init_72 ?_
  refine k_eqw (ws' := [(q, .inr (5, [.ref r1, .ref r2, .ref r3, .ref r4, .ref r5, .int 0, .int 0, .ref r6, .int 0, .int 0, .int 0, .int 0, .int 0, .ref r7, .ref r8, .ref r9, .null])), (r1, .inl (cA, 64, .inl (fun _ => 0))), (r2, .inl (cA, 64, .inl (fun _ => 0))), (r3, .inl (cA, 64, .inl (fun _ => 0))), (r4, .inl (cA, 64, .inl (fun _ => 0))), (r5, .inl (cA, 7, .inl (fun _ => 0))), (r6, .inl (cA, 120, .inl (fun _ => 0))), (r7, .inl (cA, 4, .inl (fun _ => 0))), (r8, .inl (cA, 4, .inl (fun _ => 0))), (r9, .inl (cA, 160, .inl (fun _ => 0)))]) (cs' := 9) (ss' := 551) rfl rfl rfl ?_
  refine k_aload_n hJ dX5_init_75 rfl ?_
  refine k_bipush hJ (40) dX5_init_76 (by decide) ?_
  refine k_newa hJ 40 (by decide) (by decide) (by decide) (Nat.le_of_ble_eq_true rfl) (Nat.le_of_ble_eq_true rfl) dX5_init_78 (fun r10 => ?_)
  refine k_eqw (ws' := [(q, .inr (5, [.ref r1, .ref r2, .ref r3, .ref r4, .ref r5, .int 0, .int 0, .ref r6, .int 0, .int 0, .int 0, .int 0, .int 0, .ref r7, .ref r8, .ref r9, .null])), (r1, .inl (cA, 64, .inl (fun _ => 0))), (r2, .inl (cA, 64, .inl (fun _ => 0))), (r3, .inl (cA, 64, .inl (fun _ => 0))), (r4, .inl (cA, 64, .inl (fun _ => 0))), (r5, .inl (cA, 7, .inl (fun _ => 0))), (r6, .inl (cA, 120, .inl (fun _ => 0))), (r7, .inl (cA, 4, .inl (fun _ => 0))), (r8, .inl (cA, 4, .inl (fun _ => 0))), (r9, .inl (cA, 160, .inl (fun _ => 0))), (r10, .inl (cA, 40, .inl (fun _ => 0)))]) (cs' := 10) (ss' := 591) rfl rfl rfl ?_
  refine k_putF hJ Kl5 0 16 (ty := (.array .int)) rfl rfl (by decide) fl_X5_37 rfl (by decide +kernel) rfl rfl (Nat.le_of_ble_eq_true rfl) dX5_init_80 ?_
  refine k_eqw (ws' := [(q, .inr (5, [.ref r1, .ref r2, .ref r3, .ref r4, .ref r5, .int 0, .int 0, .ref r6, .int 0, .int 0, .int 0, .int 0, .int 0, .ref r7, .ref r8, .ref r9, .ref r10])), (r1, .inl (cA, 64, .inl (fun _ => 0))), (r2, .inl (cA, 64, .inl (fun _ => 0))), (r3, .inl (cA, 64, .inl (fun _ => 0))), (r4, .inl (cA, 64, .inl (fun _ => 0))), (r5, .inl (cA, 7, .inl (fun _ => 0))), (r6, .inl (cA, 120, .inl (fun _ => 0))), (r7, .inl (cA, 4, .inl (fun _ => 0))), (r8, .inl (cA, 4, .inl (fun _ => 0))), (r9, .inl (cA, 160, .inl (fun _ => 0))), (r10, .inl (cA, 40, .inl (fun _ => 0)))]) (cs' := 10) (ss' := 591) rfl rfl rfl ?_
  refine k_aload_n hJ dX5_init_83 rfl ?_
  refine k_get hJ Kl5 0 0 rfl (by decide) fl_X5_7 rfl dX5_init_84 ?_
  refine k_iconst hJ (2) dX5_init_87 (by decide) ?_
  refine k_iconst hJ (5) dX5_init_88 (by decide) ?_
  refine k_iast hJ 1 2 rfl (by decide) (by decide) rfl dX5_init_89 ?_
  refine k_eqw (ws' := [(q, .inr (5, [.ref r1, .ref r2, .ref r3, .ref r4, .ref r5, .int 0, .int 0, .ref r6, .int 0, .int 0, .int 0, .int 0, .int 0, .ref r7, .ref r8, .ref r9, .ref r10])), (r1, .inl (cA, 64, .inl (upd (fun _ => 0) 2 5))), (r2, .inl (cA, 64, .inl (fun _ => 0))), (r3, .inl (cA, 64, .inl (fun _ => 0))), (r4, .inl (cA, 64, .inl (fun _ => 0))), (r5, .inl (cA, 7, .inl (fun _ => 0))), (r6, .inl (cA, 120, .inl (fun _ => 0))), (r7, .inl (cA, 4, .inl (fun _ => 0))), (r8, .inl (cA, 4, .inl (fun _ => 0))), (r9, .inl (cA, 160, .inl (fun _ => 0))), (r10, .inl (cA, 40, .inl (fun _ => 0)))]) (cs' := 10) (ss' := 591) rfl rfl rfl ?_
  refine k_aload_n hJ dX5_init_90 rfl ?_
  refine k_get hJ Kl5 0 0 rfl (by decide) fl_X5_7 rfl dX5_init_91 ?_
  refine k_iconst hJ (3) dX5_init_94 (by decide) ?_
  refine k_bipush hJ (10) dX5_init_95 (by decide) ?_
  refine k_iast hJ 1 3 rfl (by decide) (by decide) rfl dX5_init_97 ?_
  refine k_eqw (ws' := [(q, .inr (5, [.ref r1, .ref r2, .ref r3, .ref r4, .ref r5, .int 0, .int 0, .ref r6, .int 0, .int 0, .int 0, .int 0, .int 0, .ref r7, .ref r8, .ref r9, .ref r10])), (r1, .inl (cA, 64, .inl (upd (upd (fun _ => 0) 2 5) 3 10))), (r2, .inl (cA, 64, .inl (fun _ => 0))), (r3, .inl (cA, 64, .inl (fun _ => 0))), (r4, .inl (cA, 64, .inl (fun _ => 0))), (r5, .inl (cA, 7, .inl (fun _ => 0))), (r6, .inl (cA, 120, .inl (fun _ => 0))), (r7, .inl (cA, 4, .inl (fun _ => 0))), (r8, .inl (cA, 4, .inl (fun _ => 0))), (r9, .inl (cA, 160, .inl (fun _ => 0))), (r10, .inl (cA, 40, .inl (fun _ => 0)))]) (cs' := 10) (ss' := 591) rfl rfl rfl ?_
  refine k_aload_n hJ dX5_init_98 rfl ?_
  refine k_get hJ Kl5 0 0 rfl (by decide) fl_X5_7 rfl dX5_init_99 ?_
  refine k_iconst hJ (5) dX5_init_102 (by decide) ?_
  refine k_iconst hJ (1) dX5_init_103 (by decide) ?_
  refine k_iast hJ 1 5 rfl (by decide) (by decide) rfl dX5_init_104 ?_
  refine k_eqw (ws' := [(q, .inr (5, [.ref r1, .ref r2, .ref r3, .ref r4, .ref r5, .int 0, .int 0, .ref r6, .int 0, .int 0, .int 0, .int 0, .int 0, .ref r7, .ref r8, .ref r9, .ref r10])), (r1, .inl (cA, 64, .inl (upd (upd (upd (fun _ => 0) 2 5) 3 10) 5 1))), (r2, .inl (cA, 64, .inl (fun _ => 0))), (r3, .inl (cA, 64, .inl (fun _ => 0))), (r4, .inl (cA, 64, .inl (fun _ => 0))), (r5, .inl (cA, 7, .inl (fun _ => 0))), (r6, .inl (cA, 120, .inl (fun _ => 0))), (r7, .inl (cA, 4, .inl (fun _ => 0))), (r8, .inl (cA, 4, .inl (fun _ => 0))), (r9, .inl (cA, 160, .inl (fun _ => 0))), (r10, .inl (cA, 40, .inl (fun _ => 0)))]) (cs' := 10) (ss' := 591) rfl rfl rfl ?_
  refine k_iconst hJ (0) dX5_init_105 (by decide) ?_
  refine k_istore_n hJ dX5_init_106 trivial (Nat.le_of_ble_eq_true rfl) rfl ?_
  have lp : ∀ d' k, k + d' = 10 → J 107 [some (.ref q), some (.int (nI k))] [] [(q, .inr (5, [.ref r1, .ref r2, .ref r3, .ref r4, .ref r5, .int 0, .int 0, .ref r6, .int 0, .int 0, .int 0, .int 0, .int 0, .ref r7, .ref r8, .ref r9, .ref r10])), (r1, .inl (cA, 64, .inl (fun j => if 54 ≤ j ∧ j < 54 + k then -1 else (upd (upd (upd (fun _ => 0) 2 5) 3 10) 5 1) j))), (r2, .inl (cA, 64, .inl (fun _ => 0))), (r3, .inl (cA, 64, .inl (fun _ => 0))), (r4, .inl (cA, 64, .inl (fun _ => 0))), (r5, .inl (cA, 7, .inl (fun _ => 0))), (r6, .inl (cA, 120, .inl (fun _ => 0))), (r7, .inl (cA, 4, .inl (fun _ => 0))), (r8, .inl (cA, 4, .inl (fun _ => 0))), (r9, .inl (cA, 160, .inl (fun _ => 0))), (r10, .inl (cA, 40, .inl (fun _ => 0)))] 10 591 := by
    intro d'
    induction d' with
    | zero =>
      intro k hk
      obtain rfl : k = 10 := by omega
      refine k_iload_n hJ dX5_init_107 rfl ?_
      refine k_bipush hJ (10) dX5_init_108 (by decide) ?_
      refine k_icmp_ge hJ 129 dX5_init_110 (by decide) (fun _ => ?_) (fun h_c => absurd (Int32.le_refl _) h_c)
      refine k_eqw (ws' := [(q, .inr (5, [.ref r1, .ref r2, .ref r3, .ref r4, .ref r5, .int 0, .int 0, .ref r6, .int 0, .int 0, .int 0, .int 0, .int 0, .ref r7, .ref r8, .ref r9, .ref r10])), (r1, .inl (cA, 64, .inl (fun j => if j < 64 then iniS j else 0))), (r2, .inl (cA, 64, .inl (fun _ => 0))), (r3, .inl (cA, 64, .inl (fun _ => 0))), (r4, .inl (cA, 64, .inl (fun _ => 0))), (r5, .inl (cA, 7, .inl (fun _ => 0))), (r6, .inl (cA, 120, .inl (fun _ => 0))), (r7, .inl (cA, 4, .inl (fun _ => 0))), (r8, .inl (cA, 4, .inl (fun _ => 0))), (r9, .inl (cA, 160, .inl (fun _ => 0))), (r10, .inl (cA, 40, .inl (fun _ => 0)))]) (cs' := 10) (ss' := 591) (congrArg (fun f => [(q, Sum.inr (5, _)), (r1, Sum.inl (cA, 64, Sum.inl f)), (r2, Sum.inl (cA, 64, Sum.inl (fun _ => 0))), (r3, Sum.inl (cA, 64, Sum.inl (fun _ => 0))), (r4, Sum.inl (cA, 64, Sum.inl (fun _ => 0))), (r5, Sum.inl (cA, 7, Sum.inl (fun _ => 0))), (r6, Sum.inl (cA, 120, Sum.inl (fun _ => 0))), (r7, Sum.inl (cA, 4, Sum.inl (fun _ => 0))), (r8, Sum.inl (cA, 4, Sum.inl (fun _ => 0))), (r9, Sum.inl (cA, 160, Sum.inl (fun _ => 0))), (r10, Sum.inl (cA, 40, Sum.inl (fun _ => 0)))]) (funext fun j => ?_)) rfl rfl ?_
      · unfold upd iniS
        by_cases h2 : j = 2
        · subst h2; rfl
        · by_cases h3 : j = 3
          · subst h3; rfl
          · by_cases h5 : j = 5
            · subst h5; rfl
            · rw [if_neg h5, if_neg h3, if_neg h2, if_neg h2, if_neg h3, if_neg h5]
              by_cases h6 : 54 ≤ j ∧ j < 64
              · rw [if_pos (by omega), if_pos (by omega)]
              · rw [if_neg (by omega)]; split <;> rfl
      exact hE dX5_init_129 ⟨_, _, _, _, _, _, _, _, _, _, rfl⟩ (Nat.le_refl _) (Nat.le_refl _)
    | succ d' ih =>
      intro k hk
      refine k_iload_n hJ dX5_init_107 rfl ?_
      refine k_bipush hJ (10) dX5_init_108 (by decide) ?_
      refine k_icmp_ge hJ 129 dX5_init_110 (by decide) (fun h_c => absurd h_c (nI_ge (b := 10) (by omega) (by decide))) (fun _ => ?_)
      refine k_aload_n hJ dX5_init_113 rfl ?_
      refine k_get hJ Kl5 0 0 rfl (by decide) fl_X5_7 rfl dX5_init_114 ?_
      refine k_bipush hJ (54) dX5_init_117 (by decide) ?_
      refine k_iload_n hJ dX5_init_119 rfl ?_
      refine k_iadd hJ dX5_init_120 ?_
      refine k_topv (nI_add 54 k) ?_
      refine k_iconst hJ (-1) dX5_init_121 (by decide) ?_
      refine k_iast hJ 1 (54 + k) rfl (by decide) (by omega) rfl dX5_init_122 ?_
      refine k_eqw (ws' := [(q, .inr (5, [.ref r1, .ref r2, .ref r3, .ref r4, .ref r5, .int 0, .int 0, .ref r6, .int 0, .int 0, .int 0, .int 0, .int 0, .ref r7, .ref r8, .ref r9, .ref r10])), (r1, .inl (cA, 64, .inl (fun j => if 54 ≤ j ∧ j < 54 + (k + 1) then -1 else (upd (upd (upd (fun _ => 0) 2 5) 3 10) 5 1) j))), (r2, .inl (cA, 64, .inl (fun _ => 0))), (r3, .inl (cA, 64, .inl (fun _ => 0))), (r4, .inl (cA, 64, .inl (fun _ => 0))), (r5, .inl (cA, 7, .inl (fun _ => 0))), (r6, .inl (cA, 120, .inl (fun _ => 0))), (r7, .inl (cA, 4, .inl (fun _ => 0))), (r8, .inl (cA, 4, .inl (fun _ => 0))), (r9, .inl (cA, 160, .inl (fun _ => 0))), (r10, .inl (cA, 40, .inl (fun _ => 0)))]) (cs' := 10) (ss' := 591) (congrArg (fun f => [(q, Sum.inr (5, _)), (r1, Sum.inl (cA, 64, Sum.inl f)), (r2, Sum.inl (cA, 64, Sum.inl (fun _ => 0))), (r3, Sum.inl (cA, 64, Sum.inl (fun _ => 0))), (r4, Sum.inl (cA, 64, Sum.inl (fun _ => 0))), (r5, Sum.inl (cA, 7, Sum.inl (fun _ => 0))), (r6, Sum.inl (cA, 120, Sum.inl (fun _ => 0))), (r7, Sum.inl (cA, 4, Sum.inl (fun _ => 0))), (r8, Sum.inl (cA, 4, Sum.inl (fun _ => 0))), (r9, Sum.inl (cA, 160, Sum.inl (fun _ => 0))), (r10, Sum.inl (cA, 40, Sum.inl (fun _ => 0)))]) (funext fun j => ?_)) rfl rfl ?_
      · show (if j = 54 + k then (-1 : Int32) else if 54 ≤ j ∧ j < 54 + k then -1 else (upd (upd (upd (fun _ => 0) 2 5) 3 10) 5 1) j) = if 54 ≤ j ∧ j < 54 + (k + 1) then -1 else (upd (upd (upd (fun _ => 0) 2 5) 3 10) 5 1) j
        by_cases h1 : j = 54 + k
        · rw [if_pos h1, if_pos (by omega)]
        · rw [if_neg h1]
          by_cases h2 : 54 ≤ j ∧ j < 54 + k
          · rw [if_pos h2, if_pos (by omega)]
          · rw [if_neg h2, if_neg (by omega)]
      · refine k_iinc hJ dX5_init_123 rfl (nI_1 k) trivial rfl ?_
        refine k_goto hJ 107 dX5_init_126 (by decide) ?_
        exact ih (k + 1) (by omega)
  refine k_eqw (ws' := [(q, .inr (5, [.ref r1, .ref r2, .ref r3, .ref r4, .ref r5, .int 0, .int 0, .ref r6, .int 0, .int 0, .int 0, .int 0, .int 0, .ref r7, .ref r8, .ref r9, .ref r10])), (r1, .inl (cA, 64, .inl (fun j => if 54 ≤ j ∧ j < 54 + 0 then -1 else (upd (upd (upd (fun _ => 0) 2 5) 3 10) 5 1) j))), (r2, .inl (cA, 64, .inl (fun _ => 0))), (r3, .inl (cA, 64, .inl (fun _ => 0))), (r4, .inl (cA, 64, .inl (fun _ => 0))), (r5, .inl (cA, 7, .inl (fun _ => 0))), (r6, .inl (cA, 120, .inl (fun _ => 0))), (r7, .inl (cA, 4, .inl (fun _ => 0))), (r8, .inl (cA, 4, .inl (fun _ => 0))), (r9, .inl (cA, 160, .inl (fun _ => 0))), (r10, .inl (cA, 40, .inl (fun _ => 0)))]) (cs' := 10) (ss' := 591) (congrArg (fun f => [(q, Sum.inr (5, _)), (r1, Sum.inl (cA, 64, Sum.inl f)), (r2, Sum.inl (cA, 64, Sum.inl (fun _ => 0))), (r3, Sum.inl (cA, 64, Sum.inl (fun _ => 0))), (r4, Sum.inl (cA, 64, Sum.inl (fun _ => 0))), (r5, Sum.inl (cA, 7, Sum.inl (fun _ => 0))), (r6, Sum.inl (cA, 120, Sum.inl (fun _ => 0))), (r7, Sum.inl (cA, 4, Sum.inl (fun _ => 0))), (r8, Sum.inl (cA, 4, Sum.inl (fun _ => 0))), (r9, Sum.inl (cA, 160, Sum.inl (fun _ => 0))), (r10, Sum.inl (cA, 40, Sum.inl (fun _ => 0)))]) (funext fun j => by rw [if_neg (by omega)])) rfl rfl ?_
  exact lp 10 0 (by omega)
set_option maxRecDepth 100000 in
set_option maxHeartbeats 4000000 in
theorem k_Ball (cA : ClassId) (q : Nat) : CtK yX4_init 2 17 513 cA cX4_init 1 [.ref q] [(q, .inr (4, [.null, .null, .null, .int 0, .null, .null, .null, .null]))] (fun w' => ∃ r1 wa1 wb1 r2 wa2 wb2 r3 wa3 wb3 r4 ta r5 r6 sa sb sd r7, w' = [(q, .inr (4, [.ref r1, .ref r2, .ref r3, .int 0, .ref r4, .ref r5, .ref r6, .ref r7])), (r1, .inr (3, [.int 5, .int 10, .int 0, .int 0, .int 1, .int 0, .int 0, .int 0, .int 0, .ref wa1, .ref wb1])), (wa1, .inl (cA, 48, .inl (fun _ => 0))), (wb1, .inl (cA, 10, .inl (fun j => if j < 10 then -1 else 0))), (r2, .inr (3, [.int 5, .int 10, .int 0, .int 0, .int 1, .int 0, .int 0, .int 0, .int 0, .ref wa2, .ref wb2])), (wa2, .inl (cA, 48, .inl (fun _ => 0))), (wb2, .inl (cA, 10, .inl (fun j => if j < 10 then -1 else 0))), (r3, .inr (3, [.int 5, .int 10, .int 0, .int 0, .int 1, .int 0, .int 0, .int 0, .int 0, .ref wa3, .ref wb3])), (wa3, .inl (cA, 48, .inl (fun _ => 0))), (wb3, .inl (cA, 10, .inl (fun j => if j < 10 then -1 else 0))), (r4, .inr (1, [.int 0, .ref ta])), (ta, .inl (cA, 120, .inl (fun _ => 0))), (r5, .inr (2, [.ref r4, .ref r2, .int 0, .int 0, .int 0, .int 0])), (r6, .inr (0, [.ref sa, .ref sb, .ref sd])), (sa, .inl (cA, 4, .inl (fun _ => 0))), (sb, .inl (cA, 4, .inl (fun _ => 0))), (sd, .inl (cA, 160, .inl (fun _ => 0))), (r7, .inl (cA, 7, .inl (fun _ => 0)))]) := by
  refine CtK.of (by decide) rfl (Nat.le_of_ble_eq_true rfl) rfl (fun J hJ hE => ?_)
  refine k_aload_n hJ dX4_init_0 rfl ?_
  refine k_objInit hJ (Nat.le_of_ble_eq_true rfl) ml_X4_3 rfl dX4_init_1 ?_
  refine k_aload_n hJ dX4_init_4 rfl ?_
  refine k_new hJ Kl3 (fs := [.int 0, .int 0, .int 0, .int 0, .int 0, .int 0, .int 0, .int 0, .int 0, .null, .null]) tyX3 tyX3_ok cl_X4_9 is_X3 in_X3 (by decide +kernel) (Nat.le_of_ble_eq_true rfl) (Nat.le_of_ble_eq_true rfl) dX4_init_5 (fun r1 => ?_)
  refine k_eqw (ws' := [(q, .inr (4, [.null, .null, .null, .int 0, .null, .null, .null, .null])), (r1, .inr (3, [.int 0, .int 0, .int 0, .int 0, .int 0, .int 0, .int 0, .int 0, .int 0, .null, .null]))]) (cs' := 1) (ss' := 11) rfl rfl rfl ?_
  refine k_dup hJ dX4_init_8 ?_
  refine k_init hJ (wr := [(q, .inr (4, [.null, .null, .null, .int 0, .null, .null, .null, .null]))]) (as := []) kci_X3 rfl im_yX3_init dX4_init_9 ml_X4_11 (Nat.le_of_ble_eq_true rfl) (k_World cA r1) [1] [0] rfl rfl (by decide) (by decide) (by decide) rfl (Nat.le_of_ble_eq_true rfl) rfl (Nat.le_of_ble_eq_true rfl) (Nat.le_of_ble_eq_true rfl) (fun w1 hw => ?_)
  obtain ⟨wa1, wb1, rfl⟩ := hw
  refine k_eqw (ws' := [(q, .inr (4, [.null, .null, .null, .int 0, .null, .null, .null, .null])), (r1, .inr (3, [.int 5, .int 10, .int 0, .int 0, .int 1, .int 0, .int 0, .int 0, .int 0, .ref wa1, .ref wb1])), (wa1, .inl (cA, 48, .inl (fun _ => 0))), (wb1, .inl (cA, 10, .inl (fun j => if j < 10 then -1 else 0)))]) (cs' := 3) (ss' := 69) rfl rfl rfl ?_
  refine k_putF hJ Kl4 0 0 (ty := (.object "ParcelBall$World")) rfl rfl (by decide) fl_X4_12 rfl (by decide +kernel) rfl rfl (Nat.le_of_ble_eq_true rfl) dX4_init_12 ?_
  refine k_eqw (ws' := [(q, .inr (4, [.ref r1, .null, .null, .int 0, .null, .null, .null, .null])), (r1, .inr (3, [.int 5, .int 10, .int 0, .int 0, .int 1, .int 0, .int 0, .int 0, .int 0, .ref wa1, .ref wb1])), (wa1, .inl (cA, 48, .inl (fun _ => 0))), (wb1, .inl (cA, 10, .inl (fun j => if j < 10 then -1 else 0)))]) (cs' := 3) (ss' := 69) rfl rfl rfl ?_
  refine k_aload_n hJ dX4_init_15 rfl ?_
  refine k_new hJ Kl3 (fs := [.int 0, .int 0, .int 0, .int 0, .int 0, .int 0, .int 0, .int 0, .int 0, .null, .null]) tyX3 tyX3_ok cl_X4_9 is_X3 in_X3 (by decide +kernel) (Nat.le_of_ble_eq_true rfl) (Nat.le_of_ble_eq_true rfl) dX4_init_16 (fun r2 => ?_)
  refine k_eqw (ws' := [(q, .inr (4, [.ref r1, .null, .null, .int 0, .null, .null, .null, .null])), (r1, .inr (3, [.int 5, .int 10, .int 0, .int 0, .int 1, .int 0, .int 0, .int 0, .int 0, .ref wa1, .ref wb1])), (wa1, .inl (cA, 48, .inl (fun _ => 0))), (wb1, .inl (cA, 10, .inl (fun j => if j < 10 then -1 else 0))), (r2, .inr (3, [.int 0, .int 0, .int 0, .int 0, .int 0, .int 0, .int 0, .int 0, .int 0, .null, .null]))]) (cs' := 4) (ss' := 80) rfl rfl rfl ?_
  refine k_dup hJ dX4_init_19 ?_
  refine k_init hJ (wr := [(q, .inr (4, [.ref r1, .null, .null, .int 0, .null, .null, .null, .null])), (r1, .inr (3, [.int 5, .int 10, .int 0, .int 0, .int 1, .int 0, .int 0, .int 0, .int 0, .ref wa1, .ref wb1])), (wa1, .inl (cA, 48, .inl (fun _ => 0))), (wb1, .inl (cA, 10, .inl (fun j => if j < 10 then -1 else 0)))]) (as := []) kci_X3 rfl im_yX3_init dX4_init_20 ml_X4_11 (Nat.le_of_ble_eq_true rfl) (k_World cA r2) [4] [0, 1, 2, 3] rfl rfl (by decide) (by decide) (by decide) rfl (Nat.le_of_ble_eq_true rfl) rfl (Nat.le_of_ble_eq_true rfl) (Nat.le_of_ble_eq_true rfl) (fun w2 hw => ?_)
  obtain ⟨wa2, wb2, rfl⟩ := hw
  refine k_eqw (ws' := [(q, .inr (4, [.ref r1, .null, .null, .int 0, .null, .null, .null, .null])), (r1, .inr (3, [.int 5, .int 10, .int 0, .int 0, .int 1, .int 0, .int 0, .int 0, .int 0, .ref wa1, .ref wb1])), (wa1, .inl (cA, 48, .inl (fun _ => 0))), (wb1, .inl (cA, 10, .inl (fun j => if j < 10 then -1 else 0))), (r2, .inr (3, [.int 5, .int 10, .int 0, .int 0, .int 1, .int 0, .int 0, .int 0, .int 0, .ref wa2, .ref wb2])), (wa2, .inl (cA, 48, .inl (fun _ => 0))), (wb2, .inl (cA, 10, .inl (fun j => if j < 10 then -1 else 0)))]) (cs' := 6) (ss' := 138) rfl rfl rfl ?_
  refine k_putF hJ Kl4 0 1 (ty := (.object "ParcelBall$World")) rfl rfl (by decide) fl_X4_16 rfl (by decide +kernel) rfl rfl (Nat.le_of_ble_eq_true rfl) dX4_init_23 ?_
  refine k_eqw (ws' := [(q, .inr (4, [.ref r1, .ref r2, .null, .int 0, .null, .null, .null, .null])), (r1, .inr (3, [.int 5, .int 10, .int 0, .int 0, .int 1, .int 0, .int 0, .int 0, .int 0, .ref wa1, .ref wb1])), (wa1, .inl (cA, 48, .inl (fun _ => 0))), (wb1, .inl (cA, 10, .inl (fun j => if j < 10 then -1 else 0))), (r2, .inr (3, [.int 5, .int 10, .int 0, .int 0, .int 1, .int 0, .int 0, .int 0, .int 0, .ref wa2, .ref wb2])), (wa2, .inl (cA, 48, .inl (fun _ => 0))), (wb2, .inl (cA, 10, .inl (fun j => if j < 10 then -1 else 0)))]) (cs' := 6) (ss' := 138) rfl rfl rfl ?_
  refine k_aload_n hJ dX4_init_26 rfl ?_
  refine k_new hJ Kl3 (fs := [.int 0, .int 0, .int 0, .int 0, .int 0, .int 0, .int 0, .int 0, .int 0, .null, .null]) tyX3 tyX3_ok cl_X4_9 is_X3 in_X3 (by decide +kernel) (Nat.le_of_ble_eq_true rfl) (Nat.le_of_ble_eq_true rfl) dX4_init_27 (fun r3 => ?_)
  refine k_eqw (ws' := [(q, .inr (4, [.ref r1, .ref r2, .null, .int 0, .null, .null, .null, .null])), (r1, .inr (3, [.int 5, .int 10, .int 0, .int 0, .int 1, .int 0, .int 0, .int 0, .int 0, .ref wa1, .ref wb1])), (wa1, .inl (cA, 48, .inl (fun _ => 0))), (wb1, .inl (cA, 10, .inl (fun j => if j < 10 then -1 else 0))), (r2, .inr (3, [.int 5, .int 10, .int 0, .int 0, .int 1, .int 0, .int 0, .int 0, .int 0, .ref wa2, .ref wb2])), (wa2, .inl (cA, 48, .inl (fun _ => 0))), (wb2, .inl (cA, 10, .inl (fun j => if j < 10 then -1 else 0))), (r3, .inr (3, [.int 0, .int 0, .int 0, .int 0, .int 0, .int 0, .int 0, .int 0, .int 0, .null, .null]))]) (cs' := 7) (ss' := 149) rfl rfl rfl ?_
  refine k_dup hJ dX4_init_30 ?_
  refine k_init hJ (wr := [(q, .inr (4, [.ref r1, .ref r2, .null, .int 0, .null, .null, .null, .null])), (r1, .inr (3, [.int 5, .int 10, .int 0, .int 0, .int 1, .int 0, .int 0, .int 0, .int 0, .ref wa1, .ref wb1])), (wa1, .inl (cA, 48, .inl (fun _ => 0))), (wb1, .inl (cA, 10, .inl (fun j => if j < 10 then -1 else 0))), (r2, .inr (3, [.int 5, .int 10, .int 0, .int 0, .int 1, .int 0, .int 0, .int 0, .int 0, .ref wa2, .ref wb2])), (wa2, .inl (cA, 48, .inl (fun _ => 0))), (wb2, .inl (cA, 10, .inl (fun j => if j < 10 then -1 else 0)))]) (as := []) kci_X3 rfl im_yX3_init dX4_init_31 ml_X4_11 (Nat.le_of_ble_eq_true rfl) (k_World cA r3) [7] [0, 1, 2, 3, 4, 5, 6] rfl rfl (by decide) (by decide) (by decide) rfl (Nat.le_of_ble_eq_true rfl) rfl (Nat.le_of_ble_eq_true rfl) (Nat.le_of_ble_eq_true rfl) (fun w3 hw => ?_)
  obtain ⟨wa3, wb3, rfl⟩ := hw
  refine k_eqw (ws' := [(q, .inr (4, [.ref r1, .ref r2, .null, .int 0, .null, .null, .null, .null])), (r1, .inr (3, [.int 5, .int 10, .int 0, .int 0, .int 1, .int 0, .int 0, .int 0, .int 0, .ref wa1, .ref wb1])), (wa1, .inl (cA, 48, .inl (fun _ => 0))), (wb1, .inl (cA, 10, .inl (fun j => if j < 10 then -1 else 0))), (r2, .inr (3, [.int 5, .int 10, .int 0, .int 0, .int 1, .int 0, .int 0, .int 0, .int 0, .ref wa2, .ref wb2])), (wa2, .inl (cA, 48, .inl (fun _ => 0))), (wb2, .inl (cA, 10, .inl (fun j => if j < 10 then -1 else 0))), (r3, .inr (3, [.int 5, .int 10, .int 0, .int 0, .int 1, .int 0, .int 0, .int 0, .int 0, .ref wa3, .ref wb3])), (wa3, .inl (cA, 48, .inl (fun _ => 0))), (wb3, .inl (cA, 10, .inl (fun j => if j < 10 then -1 else 0)))]) (cs' := 9) (ss' := 207) rfl rfl rfl ?_
  refine k_putF hJ Kl4 0 2 (ty := (.object "ParcelBall$World")) rfl rfl (by decide) fl_X4_19 rfl (by decide +kernel) rfl rfl (Nat.le_of_ble_eq_true rfl) dX4_init_34 ?_
  refine k_eqw (ws' := [(q, .inr (4, [.ref r1, .ref r2, .ref r3, .int 0, .null, .null, .null, .null])), (r1, .inr (3, [.int 5, .int 10, .int 0, .int 0, .int 1, .int 0, .int 0, .int 0, .int 0, .ref wa1, .ref wb1])), (wa1, .inl (cA, 48, .inl (fun _ => 0))), (wb1, .inl (cA, 10, .inl (fun j => if j < 10 then -1 else 0))), (r2, .inr (3, [.int 5, .int 10, .int 0, .int 0, .int 1, .int 0, .int 0, .int 0, .int 0, .ref wa2, .ref wb2])), (wa2, .inl (cA, 48, .inl (fun _ => 0))), (wb2, .inl (cA, 10, .inl (fun j => if j < 10 then -1 else 0))), (r3, .inr (3, [.int 5, .int 10, .int 0, .int 0, .int 1, .int 0, .int 0, .int 0, .int 0, .ref wa3, .ref wb3])), (wa3, .inl (cA, 48, .inl (fun _ => 0))), (wb3, .inl (cA, 10, .inl (fun j => if j < 10 then -1 else 0)))]) (cs' := 9) (ss' := 207) rfl rfl rfl ?_
  refine k_aload_n hJ dX4_init_37 rfl ?_
  refine k_iconst hJ (0) dX4_init_38 (by decide) ?_
  refine k_put hJ Kl4 0 3 (ty := .boolean) rfl (by decide) fl_X4_22 rfl (by decide +kernel) rfl rfl (Nat.le_of_ble_eq_true rfl) dX4_init_39 ?_
  refine k_eqw (ws' := [(q, .inr (4, [.ref r1, .ref r2, .ref r3, .int 0, .null, .null, .null, .null])), (r1, .inr (3, [.int 5, .int 10, .int 0, .int 0, .int 1, .int 0, .int 0, .int 0, .int 0, .ref wa1, .ref wb1])), (wa1, .inl (cA, 48, .inl (fun _ => 0))), (wb1, .inl (cA, 10, .inl (fun j => if j < 10 then -1 else 0))), (r2, .inr (3, [.int 5, .int 10, .int 0, .int 0, .int 1, .int 0, .int 0, .int 0, .int 0, .ref wa2, .ref wb2])), (wa2, .inl (cA, 48, .inl (fun _ => 0))), (wb2, .inl (cA, 10, .inl (fun j => if j < 10 then -1 else 0))), (r3, .inr (3, [.int 5, .int 10, .int 0, .int 0, .int 1, .int 0, .int 0, .int 0, .int 0, .ref wa3, .ref wb3])), (wa3, .inl (cA, 48, .inl (fun _ => 0))), (wb3, .inl (cA, 10, .inl (fun j => if j < 10 then -1 else 0)))]) (cs' := 9) (ss' := 207) rfl rfl rfl ?_
  refine k_aload_n hJ dX4_init_42 rfl ?_
  refine k_new hJ Kl1 (fs := [.int 0, .null]) tyX1 tyX1_ok cl_X4_26 is_X1 in_X1 (by decide +kernel) (Nat.le_of_ble_eq_true rfl) (Nat.le_of_ble_eq_true rfl) dX4_init_43 (fun r4 => ?_)
  refine k_eqw (ws' := [(q, .inr (4, [.ref r1, .ref r2, .ref r3, .int 0, .null, .null, .null, .null])), (r1, .inr (3, [.int 5, .int 10, .int 0, .int 0, .int 1, .int 0, .int 0, .int 0, .int 0, .ref wa1, .ref wb1])), (wa1, .inl (cA, 48, .inl (fun _ => 0))), (wb1, .inl (cA, 10, .inl (fun j => if j < 10 then -1 else 0))), (r2, .inr (3, [.int 5, .int 10, .int 0, .int 0, .int 1, .int 0, .int 0, .int 0, .int 0, .ref wa2, .ref wb2])), (wa2, .inl (cA, 48, .inl (fun _ => 0))), (wb2, .inl (cA, 10, .inl (fun j => if j < 10 then -1 else 0))), (r3, .inr (3, [.int 5, .int 10, .int 0, .int 0, .int 1, .int 0, .int 0, .int 0, .int 0, .ref wa3, .ref wb3])), (wa3, .inl (cA, 48, .inl (fun _ => 0))), (wb3, .inl (cA, 10, .inl (fun j => if j < 10 then -1 else 0))), (r4, .inr (1, [.int 0, .null]))]) (cs' := 10) (ss' := 209) rfl rfl rfl ?_
  refine k_dup hJ dX4_init_46 ?_
  refine k_initN hJ (wr := [(q, .inr (4, [.ref r1, .ref r2, .ref r3, .int 0, .null, .null, .null, .null])), (r1, .inr (3, [.int 5, .int 10, .int 0, .int 0, .int 1, .int 0, .int 0, .int 0, .int 0, .ref wa1, .ref wb1])), (wa1, .inl (cA, 48, .inl (fun _ => 0))), (wb1, .inl (cA, 10, .inl (fun j => if j < 10 then -1 else 0))), (r2, .inr (3, [.int 5, .int 10, .int 0, .int 0, .int 1, .int 0, .int 0, .int 0, .int 0, .ref wa2, .ref wb2])), (wa2, .inl (cA, 48, .inl (fun _ => 0))), (wb2, .inl (cA, 10, .inl (fun j => if j < 10 then -1 else 0))), (r3, .inr (3, [.int 5, .int 10, .int 0, .int 0, .int 1, .int 0, .int 0, .int 0, .int 0, .ref wa3, .ref wb3])), (wa3, .inl (cA, 48, .inl (fun _ => 0))), (wb3, .inl (cA, 10, .inl (fun j => if j < 10 then -1 else 0)))]) (as := []) kci_X1 rfl im_yX1_init dX4_init_47 (fun s h => h.1) (Nat.le_of_ble_eq_true rfl) (k_Tape cA r4) [10] [0, 1, 2, 3, 4, 5, 6, 7, 8, 9] rfl rfl (by decide) (by decide) (by decide) rfl (Nat.le_of_ble_eq_true rfl) rfl (Nat.le_of_ble_eq_true rfl) (Nat.le_of_ble_eq_true rfl) (fun w4 hw => ?_)
  obtain ⟨ta, rfl⟩ := hw
  refine k_eqw (ws' := [(q, .inr (4, [.ref r1, .ref r2, .ref r3, .int 0, .null, .null, .null, .null])), (r1, .inr (3, [.int 5, .int 10, .int 0, .int 0, .int 1, .int 0, .int 0, .int 0, .int 0, .ref wa1, .ref wb1])), (wa1, .inl (cA, 48, .inl (fun _ => 0))), (wb1, .inl (cA, 10, .inl (fun j => if j < 10 then -1 else 0))), (r2, .inr (3, [.int 5, .int 10, .int 0, .int 0, .int 1, .int 0, .int 0, .int 0, .int 0, .ref wa2, .ref wb2])), (wa2, .inl (cA, 48, .inl (fun _ => 0))), (wb2, .inl (cA, 10, .inl (fun j => if j < 10 then -1 else 0))), (r3, .inr (3, [.int 5, .int 10, .int 0, .int 0, .int 1, .int 0, .int 0, .int 0, .int 0, .ref wa3, .ref wb3])), (wa3, .inl (cA, 48, .inl (fun _ => 0))), (wb3, .inl (cA, 10, .inl (fun j => if j < 10 then -1 else 0))), (r4, .inr (1, [.int 0, .ref ta])), (ta, .inl (cA, 120, .inl (fun _ => 0)))]) (cs' := 11) (ss' := 329) rfl rfl rfl ?_
  refine k_putF hJ Kl4 0 4 (ty := (.object "ParcelBall$Tape")) rfl rfl (by decide) fl_X4_29 rfl (by decide +kernel) rfl rfl (Nat.le_of_ble_eq_true rfl) dX4_init_50 ?_
  refine k_eqw (ws' := [(q, .inr (4, [.ref r1, .ref r2, .ref r3, .int 0, .ref r4, .null, .null, .null])), (r1, .inr (3, [.int 5, .int 10, .int 0, .int 0, .int 1, .int 0, .int 0, .int 0, .int 0, .ref wa1, .ref wb1])), (wa1, .inl (cA, 48, .inl (fun _ => 0))), (wb1, .inl (cA, 10, .inl (fun j => if j < 10 then -1 else 0))), (r2, .inr (3, [.int 5, .int 10, .int 0, .int 0, .int 1, .int 0, .int 0, .int 0, .int 0, .ref wa2, .ref wb2])), (wa2, .inl (cA, 48, .inl (fun _ => 0))), (wb2, .inl (cA, 10, .inl (fun j => if j < 10 then -1 else 0))), (r3, .inr (3, [.int 5, .int 10, .int 0, .int 0, .int 1, .int 0, .int 0, .int 0, .int 0, .ref wa3, .ref wb3])), (wa3, .inl (cA, 48, .inl (fun _ => 0))), (wb3, .inl (cA, 10, .inl (fun j => if j < 10 then -1 else 0))), (r4, .inr (1, [.int 0, .ref ta])), (ta, .inl (cA, 120, .inl (fun _ => 0)))]) (cs' := 11) (ss' := 329) rfl rfl rfl ?_
  refine k_aload_n hJ dX4_init_53 rfl ?_
  refine k_new hJ Kl2 (fs := [.null, .null, .int 0, .int 0, .int 0, .int 0]) tyX2 tyX2_ok cl_X4_33 is_X2 in_X2 (by decide +kernel) (Nat.le_of_ble_eq_true rfl) (Nat.le_of_ble_eq_true rfl) dX4_init_54 (fun r5 => ?_)
  refine k_eqw (ws' := [(q, .inr (4, [.ref r1, .ref r2, .ref r3, .int 0, .ref r4, .null, .null, .null])), (r1, .inr (3, [.int 5, .int 10, .int 0, .int 0, .int 1, .int 0, .int 0, .int 0, .int 0, .ref wa1, .ref wb1])), (wa1, .inl (cA, 48, .inl (fun _ => 0))), (wb1, .inl (cA, 10, .inl (fun j => if j < 10 then -1 else 0))), (r2, .inr (3, [.int 5, .int 10, .int 0, .int 0, .int 1, .int 0, .int 0, .int 0, .int 0, .ref wa2, .ref wb2])), (wa2, .inl (cA, 48, .inl (fun _ => 0))), (wb2, .inl (cA, 10, .inl (fun j => if j < 10 then -1 else 0))), (r3, .inr (3, [.int 5, .int 10, .int 0, .int 0, .int 1, .int 0, .int 0, .int 0, .int 0, .ref wa3, .ref wb3])), (wa3, .inl (cA, 48, .inl (fun _ => 0))), (wb3, .inl (cA, 10, .inl (fun j => if j < 10 then -1 else 0))), (r4, .inr (1, [.int 0, .ref ta])), (ta, .inl (cA, 120, .inl (fun _ => 0))), (r5, .inr (2, [.null, .null, .int 0, .int 0, .int 0, .int 0]))]) (cs' := 12) (ss' := 335) rfl rfl rfl ?_
  refine k_dup hJ dX4_init_57 ?_
  refine k_aload_n hJ dX4_init_58 rfl ?_
  refine k_get hJ Kl4 0 4 rfl (by decide) fl_X4_29 rfl dX4_init_59 ?_
  refine k_aload_n hJ dX4_init_62 rfl ?_
  refine k_get hJ Kl4 0 1 rfl (by decide) fl_X4_16 rfl dX4_init_63 ?_
  refine k_init hJ (wr := [(q, .inr (4, [.ref r1, .ref r2, .ref r3, .int 0, .ref r4, .null, .null, .null])), (r1, .inr (3, [.int 5, .int 10, .int 0, .int 0, .int 1, .int 0, .int 0, .int 0, .int 0, .ref wa1, .ref wb1])), (wa1, .inl (cA, 48, .inl (fun _ => 0))), (wb1, .inl (cA, 10, .inl (fun j => if j < 10 then -1 else 0))), (r2, .inr (3, [.int 5, .int 10, .int 0, .int 0, .int 1, .int 0, .int 0, .int 0, .int 0, .ref wa2, .ref wb2])), (wa2, .inl (cA, 48, .inl (fun _ => 0))), (wb2, .inl (cA, 10, .inl (fun j => if j < 10 then -1 else 0))), (r3, .inr (3, [.int 5, .int 10, .int 0, .int 0, .int 1, .int 0, .int 0, .int 0, .int 0, .ref wa3, .ref wb3])), (wa3, .inl (cA, 48, .inl (fun _ => 0))), (wb3, .inl (cA, 10, .inl (fun j => if j < 10 then -1 else 0))), (r4, .inr (1, [.int 0, .ref ta])), (ta, .inl (cA, 120, .inl (fun _ => 0)))]) (as := [.ref r4, .ref r2]) kci_X2 rfl im_yX2_init dX4_init_66 ml_X4_35 (Nat.le_of_ble_eq_true rfl) (k_Reader cA r5 r4 r2) [12] [0, 1, 2, 3, 4, 5, 6, 7, 8, 9, 10, 11] rfl rfl (by decide) (by decide) (by decide) rfl (Nat.le_of_ble_eq_true rfl) rfl (Nat.le_of_ble_eq_true rfl) (Nat.le_of_ble_eq_true rfl) (fun w5 hw => ?_)
  subst hw
  refine k_eqw (ws' := [(q, .inr (4, [.ref r1, .ref r2, .ref r3, .int 0, .ref r4, .null, .null, .null])), (r1, .inr (3, [.int 5, .int 10, .int 0, .int 0, .int 1, .int 0, .int 0, .int 0, .int 0, .ref wa1, .ref wb1])), (wa1, .inl (cA, 48, .inl (fun _ => 0))), (wb1, .inl (cA, 10, .inl (fun j => if j < 10 then -1 else 0))), (r2, .inr (3, [.int 5, .int 10, .int 0, .int 0, .int 1, .int 0, .int 0, .int 0, .int 0, .ref wa2, .ref wb2])), (wa2, .inl (cA, 48, .inl (fun _ => 0))), (wb2, .inl (cA, 10, .inl (fun j => if j < 10 then -1 else 0))), (r3, .inr (3, [.int 5, .int 10, .int 0, .int 0, .int 1, .int 0, .int 0, .int 0, .int 0, .ref wa3, .ref wb3])), (wa3, .inl (cA, 48, .inl (fun _ => 0))), (wb3, .inl (cA, 10, .inl (fun j => if j < 10 then -1 else 0))), (r4, .inr (1, [.int 0, .ref ta])), (ta, .inl (cA, 120, .inl (fun _ => 0))), (r5, .inr (2, [.ref r4, .ref r2, .int 0, .int 0, .int 0, .int 0]))]) (cs' := 12) (ss' := 335) rfl rfl rfl ?_
  refine k_putF hJ Kl4 0 5 (ty := (.object "ParcelBall$TextReader")) rfl rfl (by decide) fl_X4_38 rfl (by decide +kernel) rfl rfl (Nat.le_of_ble_eq_true rfl) dX4_init_69 ?_
  refine k_eqw (ws' := [(q, .inr (4, [.ref r1, .ref r2, .ref r3, .int 0, .ref r4, .ref r5, .null, .null])), (r1, .inr (3, [.int 5, .int 10, .int 0, .int 0, .int 1, .int 0, .int 0, .int 0, .int 0, .ref wa1, .ref wb1])), (wa1, .inl (cA, 48, .inl (fun _ => 0))), (wb1, .inl (cA, 10, .inl (fun j => if j < 10 then -1 else 0))), (r2, .inr (3, [.int 5, .int 10, .int 0, .int 0, .int 1, .int 0, .int 0, .int 0, .int 0, .ref wa2, .ref wb2])), (wa2, .inl (cA, 48, .inl (fun _ => 0))), (wb2, .inl (cA, 10, .inl (fun j => if j < 10 then -1 else 0))), (r3, .inr (3, [.int 5, .int 10, .int 0, .int 0, .int 1, .int 0, .int 0, .int 0, .int 0, .ref wa3, .ref wb3])), (wa3, .inl (cA, 48, .inl (fun _ => 0))), (wb3, .inl (cA, 10, .inl (fun j => if j < 10 then -1 else 0))), (r4, .inr (1, [.int 0, .ref ta])), (ta, .inl (cA, 120, .inl (fun _ => 0))), (r5, .inr (2, [.ref r4, .ref r2, .int 0, .int 0, .int 0, .int 0]))]) (cs' := 12) (ss' := 335) rfl rfl rfl ?_
  refine k_aload_n hJ dX4_init_72 rfl ?_
  refine k_new hJ Kl0 (fs := [.null, .null, .null]) tyX0 tyX0_ok cl_X4_42 is_X0 in_X0 (by decide +kernel) (Nat.le_of_ble_eq_true rfl) (Nat.le_of_ble_eq_true rfl) dX4_init_73 (fun r6 => ?_)
  refine k_eqw (ws' := [(q, .inr (4, [.ref r1, .ref r2, .ref r3, .int 0, .ref r4, .ref r5, .null, .null])), (r1, .inr (3, [.int 5, .int 10, .int 0, .int 0, .int 1, .int 0, .int 0, .int 0, .int 0, .ref wa1, .ref wb1])), (wa1, .inl (cA, 48, .inl (fun _ => 0))), (wb1, .inl (cA, 10, .inl (fun j => if j < 10 then -1 else 0))), (r2, .inr (3, [.int 5, .int 10, .int 0, .int 0, .int 1, .int 0, .int 0, .int 0, .int 0, .ref wa2, .ref wb2])), (wa2, .inl (cA, 48, .inl (fun _ => 0))), (wb2, .inl (cA, 10, .inl (fun j => if j < 10 then -1 else 0))), (r3, .inr (3, [.int 5, .int 10, .int 0, .int 0, .int 1, .int 0, .int 0, .int 0, .int 0, .ref wa3, .ref wb3])), (wa3, .inl (cA, 48, .inl (fun _ => 0))), (wb3, .inl (cA, 10, .inl (fun j => if j < 10 then -1 else 0))), (r4, .inr (1, [.int 0, .ref ta])), (ta, .inl (cA, 120, .inl (fun _ => 0))), (r5, .inr (2, [.ref r4, .ref r2, .int 0, .int 0, .int 0, .int 0])), (r6, .inr (0, [.null, .null, .null]))]) (cs' := 13) (ss' := 338) rfl rfl rfl ?_
  refine k_dup hJ dX4_init_76 ?_
  refine k_initN hJ (wr := [(q, .inr (4, [.ref r1, .ref r2, .ref r3, .int 0, .ref r4, .ref r5, .null, .null])), (r1, .inr (3, [.int 5, .int 10, .int 0, .int 0, .int 1, .int 0, .int 0, .int 0, .int 0, .ref wa1, .ref wb1])), (wa1, .inl (cA, 48, .inl (fun _ => 0))), (wb1, .inl (cA, 10, .inl (fun j => if j < 10 then -1 else 0))), (r2, .inr (3, [.int 5, .int 10, .int 0, .int 0, .int 1, .int 0, .int 0, .int 0, .int 0, .ref wa2, .ref wb2])), (wa2, .inl (cA, 48, .inl (fun _ => 0))), (wb2, .inl (cA, 10, .inl (fun j => if j < 10 then -1 else 0))), (r3, .inr (3, [.int 5, .int 10, .int 0, .int 0, .int 1, .int 0, .int 0, .int 0, .int 0, .ref wa3, .ref wb3])), (wa3, .inl (cA, 48, .inl (fun _ => 0))), (wb3, .inl (cA, 10, .inl (fun j => if j < 10 then -1 else 0))), (r4, .inr (1, [.int 0, .ref ta])), (ta, .inl (cA, 120, .inl (fun _ => 0))), (r5, .inr (2, [.ref r4, .ref r2, .int 0, .int 0, .int 0, .int 0]))]) (as := []) kci_X0 rfl im_yX0_init dX4_init_77 (fun s h => h.2) (Nat.le_of_ble_eq_true rfl) (k_Sheets cA r6) [13] [0, 1, 2, 3, 4, 5, 6, 7, 8, 9, 10, 11, 12] rfl rfl (by decide) (by decide) (by decide) rfl (Nat.le_of_ble_eq_true rfl) rfl (Nat.le_of_ble_eq_true rfl) (Nat.le_of_ble_eq_true rfl) (fun w6 hw => ?_)
  obtain ⟨sa, sb, sd, rfl⟩ := hw
  refine k_eqw (ws' := [(q, .inr (4, [.ref r1, .ref r2, .ref r3, .int 0, .ref r4, .ref r5, .null, .null])), (r1, .inr (3, [.int 5, .int 10, .int 0, .int 0, .int 1, .int 0, .int 0, .int 0, .int 0, .ref wa1, .ref wb1])), (wa1, .inl (cA, 48, .inl (fun _ => 0))), (wb1, .inl (cA, 10, .inl (fun j => if j < 10 then -1 else 0))), (r2, .inr (3, [.int 5, .int 10, .int 0, .int 0, .int 1, .int 0, .int 0, .int 0, .int 0, .ref wa2, .ref wb2])), (wa2, .inl (cA, 48, .inl (fun _ => 0))), (wb2, .inl (cA, 10, .inl (fun j => if j < 10 then -1 else 0))), (r3, .inr (3, [.int 5, .int 10, .int 0, .int 0, .int 1, .int 0, .int 0, .int 0, .int 0, .ref wa3, .ref wb3])), (wa3, .inl (cA, 48, .inl (fun _ => 0))), (wb3, .inl (cA, 10, .inl (fun j => if j < 10 then -1 else 0))), (r4, .inr (1, [.int 0, .ref ta])), (ta, .inl (cA, 120, .inl (fun _ => 0))), (r5, .inr (2, [.ref r4, .ref r2, .int 0, .int 0, .int 0, .int 0])), (r6, .inr (0, [.ref sa, .ref sb, .ref sd])), (sa, .inl (cA, 4, .inl (fun _ => 0))), (sb, .inl (cA, 4, .inl (fun _ => 0))), (sd, .inl (cA, 160, .inl (fun _ => 0)))]) (cs' := 16) (ss' := 506) rfl rfl rfl ?_
  refine k_putF hJ Kl4 0 6 (ty := (.object "ParcelBall$Sheets")) rfl rfl (by decide) fl_X4_45 rfl (by decide +kernel) rfl rfl (Nat.le_of_ble_eq_true rfl) dX4_init_80 ?_
  refine k_eqw (ws' := [(q, .inr (4, [.ref r1, .ref r2, .ref r3, .int 0, .ref r4, .ref r5, .ref r6, .null])), (r1, .inr (3, [.int 5, .int 10, .int 0, .int 0, .int 1, .int 0, .int 0, .int 0, .int 0, .ref wa1, .ref wb1])), (wa1, .inl (cA, 48, .inl (fun _ => 0))), (wb1, .inl (cA, 10, .inl (fun j => if j < 10 then -1 else 0))), (r2, .inr (3, [.int 5, .int 10, .int 0, .int 0, .int 1, .int 0, .int 0, .int 0, .int 0, .ref wa2, .ref wb2])), (wa2, .inl (cA, 48, .inl (fun _ => 0))), (wb2, .inl (cA, 10, .inl (fun j => if j < 10 then -1 else 0))), (r3, .inr (3, [.int 5, .int 10, .int 0, .int 0, .int 1, .int 0, .int 0, .int 0, .int 0, .ref wa3, .ref wb3])), (wa3, .inl (cA, 48, .inl (fun _ => 0))), (wb3, .inl (cA, 10, .inl (fun j => if j < 10 then -1 else 0))), (r4, .inr (1, [.int 0, .ref ta])), (ta, .inl (cA, 120, .inl (fun _ => 0))), (r5, .inr (2, [.ref r4, .ref r2, .int 0, .int 0, .int 0, .int 0])), (r6, .inr (0, [.ref sa, .ref sb, .ref sd])), (sa, .inl (cA, 4, .inl (fun _ => 0))), (sb, .inl (cA, 4, .inl (fun _ => 0))), (sd, .inl (cA, 160, .inl (fun _ => 0)))]) (cs' := 16) (ss' := 506) rfl rfl rfl ?_
  refine k_aload_n hJ dX4_init_83 rfl ?_
  refine k_bipush hJ (7) dX4_init_84 (by decide) ?_
  refine k_newa hJ 7 (by decide) (by decide) (by decide) (Nat.le_of_ble_eq_true rfl) (Nat.le_of_ble_eq_true rfl) dX4_init_86 (fun r7 => ?_)
  refine k_eqw (ws' := [(q, .inr (4, [.ref r1, .ref r2, .ref r3, .int 0, .ref r4, .ref r5, .ref r6, .null])), (r1, .inr (3, [.int 5, .int 10, .int 0, .int 0, .int 1, .int 0, .int 0, .int 0, .int 0, .ref wa1, .ref wb1])), (wa1, .inl (cA, 48, .inl (fun _ => 0))), (wb1, .inl (cA, 10, .inl (fun j => if j < 10 then -1 else 0))), (r2, .inr (3, [.int 5, .int 10, .int 0, .int 0, .int 1, .int 0, .int 0, .int 0, .int 0, .ref wa2, .ref wb2])), (wa2, .inl (cA, 48, .inl (fun _ => 0))), (wb2, .inl (cA, 10, .inl (fun j => if j < 10 then -1 else 0))), (r3, .inr (3, [.int 5, .int 10, .int 0, .int 0, .int 1, .int 0, .int 0, .int 0, .int 0, .ref wa3, .ref wb3])), (wa3, .inl (cA, 48, .inl (fun _ => 0))), (wb3, .inl (cA, 10, .inl (fun j => if j < 10 then -1 else 0))), (r4, .inr (1, [.int 0, .ref ta])), (ta, .inl (cA, 120, .inl (fun _ => 0))), (r5, .inr (2, [.ref r4, .ref r2, .int 0, .int 0, .int 0, .int 0])), (r6, .inr (0, [.ref sa, .ref sb, .ref sd])), (sa, .inl (cA, 4, .inl (fun _ => 0))), (sb, .inl (cA, 4, .inl (fun _ => 0))), (sd, .inl (cA, 160, .inl (fun _ => 0))), (r7, .inl (cA, 7, .inl (fun _ => 0)))]) (cs' := 17) (ss' := 513) rfl rfl rfl ?_
  refine k_putF hJ Kl4 0 7 (ty := (.array .int)) rfl rfl (by decide) fl_X4_49 rfl (by decide +kernel) rfl rfl (Nat.le_of_ble_eq_true rfl) dX4_init_88 ?_
  refine k_eqw (ws' := [(q, .inr (4, [.ref r1, .ref r2, .ref r3, .int 0, .ref r4, .ref r5, .ref r6, .ref r7])), (r1, .inr (3, [.int 5, .int 10, .int 0, .int 0, .int 1, .int 0, .int 0, .int 0, .int 0, .ref wa1, .ref wb1])), (wa1, .inl (cA, 48, .inl (fun _ => 0))), (wb1, .inl (cA, 10, .inl (fun j => if j < 10 then -1 else 0))), (r2, .inr (3, [.int 5, .int 10, .int 0, .int 0, .int 1, .int 0, .int 0, .int 0, .int 0, .ref wa2, .ref wb2])), (wa2, .inl (cA, 48, .inl (fun _ => 0))), (wb2, .inl (cA, 10, .inl (fun j => if j < 10 then -1 else 0))), (r3, .inr (3, [.int 5, .int 10, .int 0, .int 0, .int 1, .int 0, .int 0, .int 0, .int 0, .ref wa3, .ref wb3])), (wa3, .inl (cA, 48, .inl (fun _ => 0))), (wb3, .inl (cA, 10, .inl (fun j => if j < 10 then -1 else 0))), (r4, .inr (1, [.int 0, .ref ta])), (ta, .inl (cA, 120, .inl (fun _ => 0))), (r5, .inr (2, [.ref r4, .ref r2, .int 0, .int 0, .int 0, .int 0])), (r6, .inr (0, [.ref sa, .ref sb, .ref sd])), (sa, .inl (cA, 4, .inl (fun _ => 0))), (sb, .inl (cA, 4, .inl (fun _ => 0))), (sd, .inl (cA, 160, .inl (fun _ => 0))), (r7, .inl (cA, 7, .inl (fun _ => 0)))]) (cs' := 17) (ss' := 513) rfl rfl rfl ?_
  exact hE dX4_init_91 ⟨_, _, _, _, _, _, _, _, _, _, _, _, _, _, _, _, _, rfl⟩ (Nat.le_of_ble_eq_true rfl) (Nat.le_of_ble_eq_true rfl)
