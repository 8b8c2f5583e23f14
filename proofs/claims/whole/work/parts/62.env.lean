theorem env_start {s : State} {b : Nat} (hts : ∀ w ∈ lw_tbl, w.before #[Value.ref b] s = true) (hgv : (Cond.and given_1 narrow_1).before #[Value.ref b] s = true) :
    ∃ (D : va_G) (cA : ClassId) (ad0 : Nat → Nat), va_K D vwCl [(cA, .int)] s ∧ NWk s ∧ ad0 45 = b ∧ ∀ ad : Nat → Nat, (∀ k, 29 ≤ k → ad k = ad0 k) → (∀ i j, i < 29 → j < 29 → ad i = ad j → i = j) → En ad D cA (fun q => s.heap.size ≤ q) s s.heap := by
  have hA : ∀ a : Nat, a < s.heap.size → ¬ (fun q => s.heap.size ≤ q) a := fun a h => Nat.not_le.mpr h
  have hTW : ∀ w ∈ TW, w.before #[Value.ref b] s = true := fun w h => hts w (List.mem_filter.mp h).1
  have hs := flat_of_before _ hgv
  obtain ⟨c0, i0, k0⟩ := u_known (C := RX0) (T := TX0) (N := 3) (n := 3) hTW u_in0 (hTW _ is_X0)
  obtain ⟨c1, i1, k1⟩ := u_known (C := RX1) (T := TX1) (N := 2) (n := 2) hTW u_in1 (hTW _ is_X1)
  obtain ⟨c2, i2, k2⟩ := u_known (C := RX2) (T := TX2) (N := 6) (n := 6) hTW u_in2 (hTW _ is_X2)
  obtain ⟨c3, i3, k3⟩ := u_known (C := RX3) (T := TX3) (N := 11) (n := 11) hTW u_in3 (hTW _ is_X3)
  obtain ⟨c4, i4, k4⟩ := u_known (C := RX4) (T := TX4) (N := 8) (n := 8) hTW u_in4 (hTW _ is_X4)
  obtain ⟨c5, i5, k5⟩ := u_known (C := RX5) (T := TX5) (N := 17) (n := 17) hTW u_in5 (hTW _ is_X5)
  obtain ⟨dC, dI, hKc⟩ : ∃ (dC : Nat → ClassId) (dI : Nat → Nat → Nat), ∀ (k : Nat) (q : vw_C), vwCl[k]? = some q → u_Kn s q.1 q.2.1 q.2.2 (dC k) (dI k) := by
    refine ⟨fun k => match k with | 0 => c0 | 1 => c1 | 2 => c2 | 3 => c3 | 4 => c4 | _ => c5, fun k => match k with | 0 => i0 | 1 => i1 | 2 => i2 | 3 => i3 | 4 => i4 | _ => i5, ?_⟩
    intro k q hq
    match k, hq with
    | 0, hq => cases hq; exact k0
    | 1, hq => cases hq; exact k1
    | 2, hq => cases hq; exact k2
    | 3, hq => cases hq; exact k3
    | 4, hq => cases hq; exact k4
    | 5, hq => cases hq; exact k5
    | k + 6, hq => simp [vwCl] at hq
  obtain ⟨cA, kA, comp, h1, h2, h3⟩ := Cond.arrayClass_spec (hTW _ ac_int)
  have hK : va_K (dC, dI) vwCl [(cA, .int)] s := by
    refine ⟨hKc, fun k q hk => ?_⟩
    have hz : k < 1 := (List.getElem?_eq_some_iff.mp hk).1
    rw [show k = 0 by omega] at hk
    cases hk
    exact ⟨fun n z => ⟨fun k h => (by cases h), kA, h2, comp, h3⟩, h1⟩
  obtain ⟨a1, a2, a3, a4, a5, a6⟩ := nw_ar
  obtain ⟨tK, eK, TK⟩ := va_Tof (f := fun j => .int (kaT j)) (A := fun q => s.heap.size ≤ q) (N := 7) (by decide) (hs _ a1) (va_eqt (hs _ a4)) (fun j hj => va_eqt (hs _ (nw_ka j hj))) hA
  obtain ⟨tL, eL, TL⟩ := va_Tof (f := fun j => .int (flT j)) (A := fun q => s.heap.size ≤ q) (N := 6) (by decide) (hs _ a2) (va_eqt (hs _ a5)) (fun j hj => va_eqt (hs _ (nw_fl j hj))) hA
  obtain ⟨tM, eM, TM⟩ := va_Tof (f := fun j => .int (fmT j)) (A := fun q => s.heap.size ≤ q) (N := 6) (by decide) (hs _ a3) (va_eqt (hs _ a6)) (fun j hj => va_eqt (hs _ (nw_fm j hj))) hA
  have zK := va_Zof (A := fun q => s.heap.size ≤ q) (hts _ ls_KIND_ABOVE) (hTW _ in_X4) eK hA
  have zL := va_Zof (A := fun q => s.heap.size ≤ q) (hts _ ls_FACT_LEAST) (hTW _ in_X4) eL hA
  have zM := va_Zof (A := fun q => s.heap.size ≤ q) (hts _ ls_FACT_MOST) (hTW _ in_X4) eM hA
  have zC := va_Zof (A := fun q => s.heap.size ≤ q) (hts _ ls_COMPACT_STRINGS) (hTW _ in_J0) (va_eqt (hs _ nw_z.1)) hA
  have zF := va_Zqof (A := fun q => s.heap.size ≤ q) (hts _ ls_SIOOBE_FORMATTER) (hTW _ in_J3) (hs _ nw_z.2) hA
  obtain ⟨adK, adV, hS, heK⟩ := vk_Sof (args := #[Value.ref b]) (s := s) (N := 13) (tm := txT) (len := sLn) (byt := sBy) (A := fun q => s.heap.size ≤ q) (fun i hi => by have := (str_by i hi).2.1; omega) (fun i hi => hs _ (nw_s1 i hi).1) (fun i hi => hs _ (nw_s1 i hi).2.1) (fun i hi => hs _ (nw_s1 i hi).2.2.1) (fun i hi => hs _ (nw_s1 i hi).2.2.2) (fun i hi j hj => hs _ (nw_s2 i hi j hj)) (fun i j hi hj hn => (nw_s3 i hi j hj hn).imp (hs _) (hs _)) hA
  obtain ⟨tF, hF⟩ : ∃ tF : Nat, va_Z "jdk/internal/util/Preconditions" "SIOOBE_FORMATTER" "Ljava/util/function/BiFunction;" .null (fun q => s.heap.size ≤ q) s s.heap ∨ va_Z "jdk/internal/util/Preconditions" "SIOOBE_FORMATTER" "Ljava/util/function/BiFunction;" (.ref tF) (fun q => s.heap.size ≤ q) s s.heap := by
    rcases zF with h | ⟨t, h⟩
    · exact ⟨0, Or.inl h⟩
    · exact ⟨t, Or.inr h⟩
  refine ⟨(dC, dI), cA, fun k => if k = 40 then tK else if k = 41 then tL else if k = 42 then tM else if k = 45 then b else if k = 90 then tF else if k < 70 then adK (k - 50) else adV (k - 70), hK, ⟨va_Nw.of rfl (hts _ mn_X4_28), va_Nw.of rfl (hts _ mn_X4_44)⟩, rfl, fun ad had hinj => ?_⟩
  have e40 : ad 40 = tK := had 40 (by decide)
  have e41 : ad 41 = tL := had 41 (by decide)
  have e42 : ad 42 = tM := had 42 (by decide)
  have e90 : ad 90 = tF := had 90 (by decide)
  have e50 : ∀ i, i < 13 → ad (50 + i) = adK i := fun i hi => by
    rw [had _ (by omega)]
    dsimp only
    rw [if_neg (by omega), if_neg (by omega), if_neg (by omega), if_neg (by omega), if_neg (by omega), if_pos (by omega), show 50 + i - 50 = i by omega]
  have e70 : ∀ i, i < 13 → ad (70 + i) = adV i := fun i hi => by
    rw [had _ (by omega)]
    dsimp only
    rw [if_neg (by omega), if_neg (by omega), if_neg (by omega), if_neg (by omega), if_neg (by omega), if_neg (by omega), show 70 + i - 70 = i by omega]
  refine ⟨hK, hinj, ⟨by rw [e40]; exact zK, by rw [e41]; exact zL, by rw [e42]; exact zM, zC, by unfold ZsF; rw [e90]; exact hF⟩, fun t N f hr => ?_, ⟨fun i hi => ?_, fun i j hi hj he => ?_⟩, fun i hi => ?_, fun q hq => ?_⟩
  · by_cases h40 : t = 40
    · subst h40; cases hr; rw [e40]; exact TK
    · by_cases h41 : t = 41
      · subst h41; cases hr; rw [e41]; exact TL
      · by_cases h42 : t = 42
        · subst h42; cases hr; rw [e42]; exact TM
        · unfold roS at hr; split at hr
          · omega
          · omega
          · omega
          · cases hr
  · have k := hS.1 i hi
    show va_O _ (ad (50 + i)) _ _ _ ∧ va_OF _ _ _ _ (ad (50 + i)) _ _ _ ∧ va_OF _ _ _ (.ref (ad (70 + i))) (ad (50 + i)) _ _ _ ∧ va_T _ (ad (70 + i)) _ _ _ _ _
    rw [e50 i hi, e70 i hi]; exact k
  · have he : ad (50 + i) = ad (50 + j) := he
    rw [e50 i hi, e50 j hj] at he
    exact hS.2 i j hi hj he
  · rw [e50 i hi]
    exact vk_R.of (hts _ (sr_all i hi)) (heK i hi)
  · refine va_Nw.of (A := #[Value.ref b]) rfl (hts _ ?_)
    have hq : q = (RX3, 60, yX4_isFactValue) ∨ q = (RX0, 21, yX4_isSheet) ∨ q = (RX2, 89, yX4_isFactValue) ∨ q = (RX2, 96, yX4_isWithin) ∨ q = (RX3, 68, yX4_isSpot) := by
      simpa [NW] using hq
    rcases hq with rfl | rfl | rfl | rfl | rfl
    · exact mn_X3_60
    · exact mn_X0_21
    · exact mn_X2_89
    · exact mn_X2_96
    · exact mn_X3_68
