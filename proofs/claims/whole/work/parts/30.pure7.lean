theorem pset_pset (S : Nat → Int32) (p w : Nat) (u v : Int32) : pset (pset S p w u) p w v = pset S p w v := by
  funext i; unfold pset upd; by_cases h : i = 6 + (6 * p + w) <;> simp [h]
theorem upd_upd (S : Nat → Int32) (i : Nat) (u v : Int32) : upd (upd S i u) i v = upd S i v := by
  funext j; unfold upd; by_cases h : j = i <;> simp [h]
/-- behind a trial of the reference: only its spare rows have changed -/
theorem back_st {σ : Hp} {S T : Nat → Int32} (hS : σ 4 = S) (h : ∀ i, 64 ≤ i → T i = S i) : bset (bset (bset σ 7 (cpN (σ 4) (σ 7) 64)) 4 T) 4 (cpN (bset (bset σ 7 (cpN (σ 4) (σ 7) 64)) 4 T 7) (bset (bset σ 7 (cpN (σ 4) (σ 7) 64)) 4 T 4) 64) = bset σ 7 (cpN (σ 4) (σ 7) 64) := by
  rw [bset_s, bset_n (show 7 ≠ 4 by decide), bset_s, bset_bset, hS, back_eq h]
  have e : bset σ 7 (cpN S (σ 7) 64) 4 = S := by rw [bset_n (show 4 ≠ 7 by decide), hS]
  have h2 := bset_id (bset σ 7 (cpN S (σ 7) 64)) 4
  rw [e] at h2; exact h2
