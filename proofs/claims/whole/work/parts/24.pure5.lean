theorem z0 : 0 < 3 := by decide
theorem z1 : 1 < 3 := by decide
theorem z2 : 2 < 3 := by decide
def fnd (σ : Hp) (f j : Nat) : Hp := bset σ f (upd (σ f) j (σ f j + 1))
theorem nlt {v : Int32} {n : Nat} (h : 0 ≤ v ∧ v < nI n) (hn : n < 1000000) : ∃ j, j < n ∧ v = nI j := by
  obtain ⟨j, h1, h2⟩ := rg_n (x := v) (m := n) (by unfold rg; have := i_le.mp h.1; have h3 := i_lt.mp h.2; rw [i_n (by omega)] at h3; have e0 : (0 : Int32).toInt = 0 := rfl; omega) (by omega)
  refine ⟨j, ?_, h2⟩
  have := h.2
  rw [h2, i_lt, i_n (by omega), i_n (by omega)] at this; omega
theorem nle {v : Int32} (m : Nat) (h : 0 ≤ v ∧ v ≤ nI m) (hn : m < 1000000) : ∃ j, j ≤ m ∧ v = nI j := by
  obtain ⟨j, h1, h2⟩ := rg_n (x := v) (m := m) (by unfold rg; have := i_le.mp h.1; have h3 := i_le.mp h.2; rw [i_n (by omega)] at h3; have e0 : (0 : Int32).toInt = 0 := rfl; omega) (by omega)
  exact ⟨j, by omega, h2⟩
/-- what of() tells -/
def ofV (S : Nat → Int32) (n : Nat) (p w : Int32) : Int32 :=
  if w = 6 then pulF S p.toNatClampNeg else if w = 7 then lasF (pf S p.toNatClampNeg 0) else if w = 8 then lngF S n (p.toNatClampNeg + 1) else if w = 9 then fltF S n p.toNatClampNeg else pf S p.toNatClampNeg w.toNatClampNeg
/-- what now() tells -/
def nowV (S : Nat → Int32) (n : Nat) (w : Int32) : Int32 :=
  if w = 0 then S 0 else if w = 1 then S 2 else if w = 2 then upF S n else if w = 3 then dnF S n else if w = 4 then lngF S n 0 else if w = 5 then S 4 else if w = 6 then plsN S n else if w = 7 then oI (mstN S n n) else -1000001
theorem w07 (w : Int32) : w = 0 ∨ w = 1 ∨ w = 2 ∨ w = 3 ∨ w = 4 ∨ w = 5 ∨ w = 6 ∨ w = 7 ∨ (¬ (0 ≤ w ∧ w ≤ 7) ∧ (w.toInt < 0 ∨ 7 < w.toInt)) := by
  by_cases h : 0 ≤ w ∧ w ≤ 7
  · obtain ⟨j, h1, rfl⟩ := nle 7 h (by decide)
    rcases (show j = 0 ∨ j = 1 ∨ j = 2 ∨ j = 3 ∨ j = 4 ∨ j = 5 ∨ j = 6 ∨ j = 7 by omega) with rfl | rfl | rfl | rfl | rfl | rfl | rfl | rfl <;> simp [nI]
  · refine Or.inr (Or.inr (Or.inr (Or.inr (Or.inr (Or.inr (Or.inr (Or.inr ⟨h, ?_⟩)))))))
    rw [i_le, i_le] at h
    have e0 : (0 : Int32).toInt = 0 := rfl
    have e7 : (7 : Int32).toInt = 7 := rfl
    omega
def sumS (F : Nat → Int32) : Int32 := sumN F 7
theorem day_c {S : Nat → Int32} {n m : Nat} {d : Int} (h : Gd S n d) (hd : d ≤ 40000) (hm : m ≤ 60) : S 0 ≤ 99999 - nI m := by
  have hr := h.2.2.2.2.2.1
  unfold rg at hr
  have e9 : (99999 : Int32).toInt = 99999 := rfl
  rw [i_le, i_sub (by rw [i_n (by omega)]; omega) (by rw [i_n (by omega)]; omega), i_n (by omega)]; omega
theorem day_c2 {S : Nat → Int32} {n m : Nat} {d : Int} (h : Gd S n d) (hd : d ≤ 40000) (hm : m ≤ 60) : S 0 + nI m ≤ 99999 := by
  have hr := h.2.2.2.2.2.1
  unfold rg at hr
  have e9 : (99999 : Int32).toInt = 99999 := rfl
  rw [i_le, i_add (by rw [i_n (by omega)]; omega) (by rw [i_n (by omega)]; omega), i_n (by omega)]; omega
theorem fd0 : (-1000001 : Int32) - (-1000001) = nI 0 := by decide
theorem fd1 : (-1000001 : Int32) - (-1000002) = nI 1 := by decide
theorem fd2 : (-1000001 : Int32) - (-1000003) = nI 2 := by decide
theorem fd3 : (-1000001 : Int32) - (-1000004) = nI 3 := by decide
theorem fd4 : (-1000001 : Int32) - (-1000005) = nI 4 := by decide
theorem fd5 : (-1000001 : Int32) - (-1000006) = nI 5 := by decide
theorem fd6 : (-1000001 : Int32) - (-1000007) = nI 6 := by decide
theorem cm_f0 (σ : Hp) : CtI yX5_finds wX5_finds 0 [.ref 18, .int (-1000001)] σ (-1000001) (fnd σ 14 0) := em_finds (by decide) _ fd0 σ
theorem cm_f1 (σ : Hp) : CtI yX5_finds wX5_finds 0 [.ref 18, .int (-1000002)] σ (-1000002) (fnd σ 14 1) := em_finds (by decide) _ fd1 σ
theorem cm_f2 (σ : Hp) : CtI yX5_finds wX5_finds 0 [.ref 18, .int (-1000003)] σ (-1000003) (fnd σ 14 2) := em_finds (by decide) _ fd2 σ
theorem cm_f3 (σ : Hp) : CtI yX5_finds wX5_finds 0 [.ref 18, .int (-1000004)] σ (-1000004) (fnd σ 14 3) := em_finds (by decide) _ fd3 σ
theorem cm_f4 (σ : Hp) : CtI yX5_finds wX5_finds 0 [.ref 18, .int (-1000005)] σ (-1000005) (fnd σ 14 4) := em_finds (by decide) _ fd4 σ
theorem cm_f5 (σ : Hp) : CtI yX5_finds wX5_finds 0 [.ref 18, .int (-1000006)] σ (-1000006) (fnd σ 14 5) := em_finds (by decide) _ fd5 σ
theorem cm_f6 (σ : Hp) : CtI yX5_finds wX5_finds 0 [.ref 18, .int (-1000007)] σ (-1000007) (fnd σ 14 6) := em_finds (by decide) _ fd6 σ
def cntV (S : Nat → Int32) (t c : Int32) (n : Nat) (w : Int32) : Int32 :=
  if w = 0 then S 0 else if w = 1 then S 1 else if w = 2 then S 2 else if w = 3 then lngF S n 0 else if w = 4 then S 4 else if w = 5 then t else if w = 6 then S 5 else if w = 7 then c else -1000001
theorem ne07 {a : Int32} (h1 : ¬ (0 ≤ a ∧ a ≤ 7)) : ∀ m : Nat, m ≤ 7 → ¬ a = nI m := fun m hm e => h1 (by rw [e]; exact ⟨nI_pos' (by omega), nI_le (b := 7) hm (by decide)⟩)
theorem cntV_out {S : Nat → Int32} {t c : Int32} {n : Nat} {a : Int32} (h : ¬ (0 ≤ a ∧ a ≤ 7)) : cntV S t c n a = -1000001 := by
  have ne := ne07 h
  unfold cntV
  rw [if_neg (show ¬ a = 0 from ne 0 (by decide)), if_neg (show ¬ a = 1 from ne 1 (by decide)), if_neg (show ¬ a = 2 from ne 2 (by decide)), if_neg (show ¬ a = 3 from ne 3 (by decide)), if_neg (show ¬ a = 4 from ne 4 (by decide)), if_neg (show ¬ a = 5 from ne 5 (by decide)), if_neg (show ¬ a = 6 from ne 6 (by decide)), if_neg (show ¬ a = 7 from ne 7 (by decide))]
