theorem lc_lt {x y : Int64} : lg_cmp x y < 0 ↔ x < y := by
  unfold lg_cmp
  by_cases h1 : x > y
  · rw [if_pos h1]; constructor
    · intro h; exact absurd h (by decide)
    · intro h; exact absurd (Int64.lt_trans h h1) (Int64.lt_irrefl)
  · rw [if_neg h1]
    by_cases h2 : x = y
    · rw [if_pos h2]; constructor
      · intro h; exact absurd h (by decide)
      · intro h; rw [h2] at h; exact absurd h Int64.lt_irrefl
    · rw [if_neg h2]; constructor
      · intro _; exact Int64.lt_of_le_of_ne (Int64.not_lt.mp h1) h2
      · intro _; decide
theorem lc_gt {x y : Int64} : 0 < lg_cmp x y ↔ y < x := by
  unfold lg_cmp
  by_cases h1 : x > y
  · rw [if_pos h1]; exact ⟨fun _ => h1, fun _ => by decide⟩
  · rw [if_neg h1]; constructor
    · intro h; split at h
      · exact absurd h (by decide)
      · exact absurd h (by decide)
    · intro h; exact absurd h h1
theorem l_le (a b : Int32) : a.toInt64 ≤ b.toInt64 ↔ a ≤ b := by
  rw [Int64.le_iff_toInt_le, Int32.toInt_toInt64, Int32.toInt_toInt64, i_le]
def cp64 (S T : Nat → Int32) : Nat → Int32 := fun i => if i < 64 then S i else T i
def cpN (S T : Nat → Int32) (j : Nat) : Nat → Int32 := fun i => if i < j then S i else T i
theorem cpN_0 (S T : Nat → Int32) : cpN S T 0 = T := by funext i; unfold cpN; rw [if_neg (by omega)]
theorem cpN_s (S T : Nat → Int32) (j : Nat) : upd (cpN S T j) j (S j) = cpN S T (j + 1) := by
  funext i; unfold cpN upd
  by_cases h : i = j
  · rw [if_pos h, if_pos (by omega), h]
  · rw [if_neg h]
    show (if i < j then S i else T i) = _
    by_cases h2 : i < j
    · rw [if_pos h2, if_pos (by omega)]
    · rw [if_neg h2, if_neg (by omega)]
theorem pl_ix (p w : Nat) : 6 + 6 * nI p + nI w = nI (6 + (6 * p + w)) := by
  rw [show (6 : Int32) = nI 6 from rfl, pk_mul, nI_add, nI_add, Nat.add_assoc]
theorem up_c {a b : Int32} (ha : rg a 11) (hb : -2000000 ≤ b.toInt ∧ b.toInt ≤ 2000000) : ((a - b) * 1 ≤ 0) ↔ ¬ b < a := by
  unfold rg at ha
  have e0 : (0 : Int32).toInt = 0 := rfl
  rw [Int32.mul_one, i_le, i_sub (by omega) (by omega), i_lt]; omega
theorem dn_c {a b : Int32} (ha : rg a 11) (hb : -2000000 ≤ b.toInt ∧ b.toInt ≤ 2000000) : ((a - b) * (-1) ≤ 0) ↔ ¬ a < b := by
  unfold rg at ha
  have e0 : (0 : Int32).toInt = 0 := rfl
  have e1 : (-1 : Int32).toInt = -1 := rfl
  have e : (a - b).toInt = a.toInt - b.toInt := i_sub (by omega) (by omega)
  rw [i_le, i_mul (by rw [e, e1]; omega) (by rw [e, e1]; omega), e, e1, i_lt]; omega
theorem age_pf {S : Nat → Int32} {p w : Nat} (hw : w < 6) : ∀ j, p < j → pf (ageN S j) p w = pf (ageN S (p + 1)) p w := by
  intro j
  induction j with
  | zero => intro h; omega
  | succ j ih =>
    intro h
    by_cases e : p = j
    · rw [e]
    · rw [← ih (by omega), ageN, age1, pf_pset _ _ _ _ _ _ (by decide) hw, if_neg (by omega)]
theorem age_due {S : Nat → Int32} {p : Nat} (j : Nat) (h : p < j) : dueB (ageN S j) p = dueB (ageN S (p + 1)) p := by
  unfold dueB; rw [age_pf (by decide) j h, age_pf (by decide) j h]
theorem oI_neg {x : Option Nat} (h : x = none) : oI x < 0 := by rw [h]; decide
theorem oI_pos {x : Option Nat} {p : Nat} (h : x = some p) (hp : p < 1000) : ¬ oI x < 0 := by rw [h]; exact nI_pos (by omega)
theorem piece_c {v : Int32} {n : Nat} (hn : n ≤ 8) : (0 ≤ v ∧ v ≤ nI n - 1) ↔ (0 ≤ v ∧ v < nI n) := by
  have e1 : (1 : Int32).toInt = 1 := rfl
  have e : (nI n - 1).toInt = (n : Int) - 1 := by rw [i_sub (by rw [i_n (by omega)]; omega) (by rw [i_n (by omega)]; omega), i_n (by omega), e1]
  have key : v ≤ nI n - 1 ↔ v < nI n := by rw [i_le, i_lt, e, i_n (by omega)]; omega
  rw [key]
def zerN (S : Nat → Int32) (n j : Nat) : Nat → Int32 := fun i => if 6 + 6 * n ≤ i ∧ i < 6 + 6 * n + j then 0 else S i
theorem zerN_0 (S : Nat → Int32) (n : Nat) : zerN S n 0 = S := by funext i; unfold zerN; rw [if_neg (by omega)]
theorem zerN_s (S : Nat → Int32) (n j : Nat) : upd (zerN S n j) (6 + (6 * n + j)) 0 = zerN S n (j + 1) := by
  funext i; unfold zerN upd
  by_cases h : i = 6 + (6 * n + j)
  · rw [if_pos h, if_pos (by omega)]
  · rw [if_neg h]
    show (if 6 + 6 * n ≤ i ∧ i < 6 + 6 * n + j then 0 else S i) = _
    by_cases h2 : 6 + 6 * n ≤ i ∧ i < 6 + 6 * n + j
    · rw [if_pos h2, if_pos (by omega)]
    · rw [if_neg h2, if_neg (by omega)]
theorem add_eq {S : Nat → Int32} {n : Nat} {kind place : Int32} : upd (pset (pset (pset (zerN S n 6) n 0 kind) n 1 place) n 2 10) 1 (S 1 + 1) = addS S n kind place := by
  funext i
  simp only [addS, zerN, pset, upd]
  by_cases h1 : i = 1
  · subst h1
    repeat (first | rw [if_pos rfl] | rw [if_neg (by omega)])
  · by_cases hr : 6 + 6 * n ≤ i ∧ i < 6 + 6 * n + 6
    · rcases (show i = 6 + (6 * n + 0) ∨ i = 6 + (6 * n + 1) ∨ i = 6 + (6 * n + 2) ∨ i = 6 + (6 * n + 3) ∨ i = 6 + (6 * n + 4) ∨ i = 6 + (6 * n + 5) by omega) with h | h | h | h | h | h <;> subst h <;> repeat (first | rw [if_pos (by omega)] | rw [if_neg (by omega)])
    · repeat (first | rw [if_pos (by omega)] | rw [if_neg (by omega)])
theorem upd_id (S : Nat → Int32) (i : Nat) : upd S i (S i) = S := by
  funext j; unfold upd
  by_cases h : j = i
  · rw [if_pos h, h]
  · rw [if_neg h]
