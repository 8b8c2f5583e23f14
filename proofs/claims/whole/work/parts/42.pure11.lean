theorem movS_0 (T : Nat → Int32) (s f t o : Nat) : movS T s f t o 0 = T := by funext i; unfold movS; rw [if_neg (by omega)]
theorem movS_s (T : Nat → Int32) (s f t o j : Nat) : upd (movS T s f t o j) (8 + (40 * t + o + j)) (T (8 + (40 * s + f + j))) = movS T s f t o (j + 1) := by
  funext i; unfold movS upd
  by_cases h : i = 8 + (40 * t + o + j)
  · rw [if_pos h, if_pos (by omega)]
    congr 1; omega
  · rw [if_neg h]
    show (if 8 + (40 * t + o) ≤ i ∧ i < 8 + (40 * t + o) + j then _ else T i) = _
    by_cases h2 : 8 + (40 * t + o) ≤ i ∧ i < 8 + (40 * t + o) + j
    · rw [if_pos h2, if_pos (by omega)]
    · rw [if_neg h2, if_neg (by omega)]
theorem ix40s (s f j : Nat) : 40 * nI s + nI f + nI j = nI (40 * s + f + j) := by rw [ix40', sum8]
theorem or_0 (x : Int32) : x ||| 0 = x := by
  apply Int32.toBitVec_inj.mp
  rw [Int32.toBitVec_or]
  exact BitVec.or_zero
