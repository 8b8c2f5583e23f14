/-! ===== the reader's own state (bank 20: sort, start, end, number of the token at hand) ===== -/
def srt (B : Nat → Int32) (t s : Nat) : Int32 := if s < t then (if leB B t s = true then 1 else if diB B t s = true then 2 else if B s = 59 then 3 else 4) else 0
def tkR (R B : Nat → Int32) (t s : Nat) : Nat → Int32 := fun i => if i = 0 then srt B t s else if i = 1 then nI s else if i = 2 then nI (tE B t s) else if i = 3 then (if diB B t s = true then nI (nmV B t s) else R 3) else R i
theorem tkR_0 (R B : Nat → Int32) (t s : Nat) : tkR R B t s 0 = srt B t s := rfl
theorem tkR_1 (R B : Nat → Int32) (t s : Nat) : tkR R B t s 1 = nI s := rfl
theorem tkR_2 (R B : Nat → Int32) (t s : Nat) : tkR R B t s 2 = nI (tE B t s) := rfl
theorem tkR_3 {R B : Nat → Int32} {t s : Nat} (h : diB B t s = true) : tkR R B t s 3 = nI (nmV B t s) := by
  show (if diB B t s = true then _ else _) = _; rw [if_pos h]
theorem le_di {B : Nat → Int32} {t s : Nat} (h : leB B t s = true) : ¬ diB B t s = true := fun q => by
  have q1 := of_decide_eq_true h; have q2 := of_decide_eq_true q
  have e97 : (97 : Int32).toInt = 97 := rfl
  have e57 : (57 : Int32).toInt = 57 := rfl
  have a1 := i_le.mp q1.1; have a2 := i_le.mp q2.2
  omega
theorem srt_1 {B : Nat → Int32} {t s : Nat} : srt B t s = 1 ↔ leB B t s = true := by
  unfold srt
  by_cases h : s < t
  · rw [if_pos h]
    by_cases h1 : leB B t s = true
    · rw [if_pos h1]; exact ⟨fun _ => h1, fun _ => rfl⟩
    · rw [if_neg h1]
      refine ⟨fun q => absurd q ?_, fun q => absurd q h1⟩
      split
      · decide
      · split <;> decide
  · rw [if_neg h]; exact ⟨fun q => absurd q (by decide), fun q => absurd (le_lt q) h⟩
theorem srt_2 {B : Nat → Int32} {t s : Nat} : srt B t s = 2 ↔ diB B t s = true := by
  unfold srt
  by_cases h : s < t
  · rw [if_pos h]
    by_cases h1 : leB B t s = true
    · rw [if_pos h1]; exact ⟨fun q => absurd q (by decide), fun q => absurd q (le_di h1)⟩
    · rw [if_neg h1]
      by_cases h2 : diB B t s = true
      · rw [if_pos h2]; exact ⟨fun _ => h2, fun _ => rfl⟩
      · rw [if_neg h2]
        refine ⟨fun q => absurd q ?_, fun q => absurd q h2⟩
        split <;> decide
  · rw [if_neg h]; exact ⟨fun q => absurd q (by decide), fun q => absurd (di_lt q) h⟩
theorem srt_0 {B : Nat → Int32} {t s : Nat} : srt B t s = 0 ↔ ¬ s < t := by
  unfold srt
  by_cases h : s < t
  · rw [if_pos h]
    refine ⟨fun q => absurd q ?_, fun q => absurd h q⟩
    split
    · decide
    · split
      · decide
      · split <;> decide
  · rw [if_neg h]; exact ⟨fun _ => h, fun _ => rfl⟩
theorem srt_3 {B : Nat → Int32} {t s : Nat} (h : s < t) : srt B t s = 3 ↔ B s = 59 := by
  unfold srt
  rw [if_pos h]
  have e59 : (59 : Int32).toInt = 59 := rfl
  have e97 : (97 : Int32).toInt = 97 := rfl
  have e57 : (57 : Int32).toInt = 57 := rfl
  by_cases h1 : leB B t s = true
  · rw [if_pos h1]
    refine ⟨fun q => absurd q (by decide), fun q => ?_⟩
    have q1 := (of_decide_eq_true h1).1
    rw [by_in h, q] at q1; exact absurd q1 (by decide)
  · rw [if_neg h1]
    by_cases h2 : diB B t s = true
    · rw [if_pos h2]
      refine ⟨fun q => absurd q (by decide), fun q => ?_⟩
      have q1 := (of_decide_eq_true h2).2
      rw [by_in h, q] at q1; exact absurd q1 (by decide)
    · rw [if_neg h2]
      split
      · rename_i h3; exact ⟨fun _ => h3, fun _ => rfl⟩
      · rename_i h3; exact ⟨fun q => absurd q (by decide), fun q => absurd q h3⟩
theorem upd_sw {S : Nat → Int32} {i j : Nat} {a b : Int32} (h : i ≠ j) : upd (upd S i a) j b = upd (upd S j b) i a := by
  funext k; unfold upd
  by_cases h1 : k = j
  · have : ¬ k = i := fun e => h (e.symm.trans h1)
    simp [h1, this]; intro e; exact absurd e.symm h
  · by_cases h2 : k = i
    · simp [h1, h2]; intro e; exact absurd e h
    · simp [h1, h2]
theorem bs_u (σ : Hp) (b : Nat) (A : Nat → Int32) (j : Nat) (v : Int32) : hset (bset σ b A) b j v = bset σ b (upd A j v) := by rw [hset_e, bset_s, bset_bset]
theorem tk_eq {A R B : Nat → Int32} {t s : Nat} (h0 : A 0 = srt B t s) (h1 : A 1 = nI s) (h2 : A 2 = nI (tE B t s)) (h3 : A 3 = if diB B t s = true then nI (nmV B t s) else R 3) (h4 : ∀ i, 3 < i → A i = R i) : A = tkR R B t s := by
  funext i
  rcases (show i = 0 ∨ i = 1 ∨ i = 2 ∨ i = 3 ∨ 3 < i by omega) with rfl | rfl | rfl | rfl | h
  · exact h0
  · exact h1
  · exact h2
  · exact h3
  · rw [h4 i h]; unfold tkR; rw [if_neg (by omega), if_neg (by omega), if_neg (by omega), if_neg (by omega)]
theorem nu_st {v : Nat} {b : Int32} {d : Nat} (h : b = nI (48 + d)) : nI v * 10 + b - 48 = nI (10 * v + d) := by
  rw [h, show (10 : Int32) = nI 10 from rfl, pk_mul, nI_add, show (48 : Int32) = nI 48 from rfl, pk_sub (by omega)]
  congr 1; omega
theorem nu_mn {x : Nat} (h : x < 1000000) : (if nI x < 1000 then nI x else 1000) = nI (if 1000 < x then 1000 else x) := by
  by_cases h1 : 1000 < x
  · have hn : ¬ nI x < (1000 : Int32) := nI_nlt (a := x) (b := 1000) (by omega) (by omega)
    rw [if_neg hn, if_pos h1]; rfl
  · rw [if_neg h1]
    by_cases h2 : x = 1000
    · rw [h2]; rfl
    · have hn : nI x < (1000 : Int32) := nI_lt (a := x) (b := 1000) (by omega) (by omega)
      rw [if_pos hn]
def rdT (σ : Hp) (S R : Nat → Int32) : Hp := bset (bset σ 1 S) 20 R
theorem rdT_1 (σ : Hp) (S R : Nat → Int32) : rdT σ S R 1 = S := by unfold rdT; rw [bset_n (by decide), bset_s]
theorem rdT_20 (σ : Hp) (S R : Nat → Int32) : rdT σ S R 20 = R := bset_s _ _ _
theorem rdT_b {σ : Hp} {S R : Nat → Int32} {b : Nat} (h1 : b ≠ 1) (h2 : b ≠ 20) : rdT σ S R b = σ b := by unfold rdT; rw [bset_n h2, bset_n h1]
theorem rdT_R (σ : Hp) (S R R' : Nat → Int32) : bset (rdT σ S R) 20 R' = rdT σ S R' := bset_bset _ _ _ _
theorem rdT_S (σ : Hp) (S R S' : Nat → Int32) : bset (rdT σ S R) 1 S' = rdT σ S' R := by
  unfold rdT; rw [bset_comm (show (20 : Nat) ≠ 1 by decide), bset_bset]
theorem rdT_id (σ : Hp) : rdT σ (σ 1) (σ 20) = σ := by
  unfold rdT; rw [bset_id, bset_id]
