/-- sheets: 0.. bits, 4.. sizes, 8.. numbers, 40 a sheet -/
def Sh (T : Nat → Int32) : Prop := ∀ s, s < 4 → (∃ z, z ≤ 40 ∧ T (4 + s) = nI z) ∧ (T s = 0 ∨ T s = 8 ∨ T s = 16 ∨ T s = 32)
def num (T : Nat → Int32) (s i : Nat) : Int32 := T (8 + (40 * s + i))
theorem ix40 (s i : Nat) : nI s * 40 + nI i = nI (40 * s + i) := by
  rw [show (40 : Int32) = nI 40 from rfl, pk_mul, nI_add, Nat.mul_comm]
theorem ix40' (s i : Nat) : 40 * nI s + nI i = nI (40 * s + i) := by
  rw [show (40 : Int32) = nI 40 from rfl, pk_mul, nI_add]
def rgC (f n : Int32) (z : Nat) : Prop := 0 ≤ f ∧ 0 ≤ n ∧ n ≤ nI z ∧ f ≤ nI z - n
def rgB (f n : Int32) (z : Nat) : Int32 := if 0 ≤ f ∧ 0 ≤ n ∧ n ≤ nI z ∧ f ≤ nI z - n then 1 else 0
theorem rgB_nar (f n : Int32) (z : Nat) : narrow .boolean (.int (rgB f n z)) = .int (rgB f n z) := by unfold rgB; split <;> rfl
theorem rgB_0 {f n : Int32} {z : Nat} : rgB f n z = 0 ↔ ¬ rgC f n z := by unfold rgB rgC; split <;> simp_all
theorem rgB_no {f n : Int32} {z : Nat} (h : ¬ rgB f n z = 0) : rgC f n z := Classical.not_not.mp fun q => h (rgB_0.mpr q)
theorem rgC_nat {f n : Int32} {z : Nat} (hz : z ≤ 40) (h : rgC f n z) : ∃ a b : Nat, f = nI a ∧ n = nI b ∧ a + b ≤ z := by
  obtain ⟨h1, h2, h3, h4⟩ := h
  obtain ⟨b, hb, rfl⟩ := nle z ⟨h2, h3⟩ (by omega)
  rw [pk_sub hb] at h4
  obtain ⟨a, ha, rfl⟩ := nle (z - b) ⟨h1, h4⟩ (by omega)
  exact ⟨a, b, rfl, rfl, by omega⟩
theorem nat_rgC {a b z : Nat} (hz : z ≤ 40) (h : a + b ≤ z) : rgC (nI a) (nI b) z := by
  refine ⟨nI_pos' (by omega), nI_pos' (by omega), nI_le (by omega) (by omega), ?_⟩
  rw [pk_sub (by omega)]; exact nI_le (by omega) (by omega)
theorem min40 {z : Nat} (hz : z ≤ 40) : (if nI z < 40 then nI z else 40) = nI z := by
  by_cases h : nI z < 40
  · rw [if_pos h]
  · rw [if_neg h]
    have : z = 40 := by
      rcases Nat.lt_or_ge z 40 with q | q
      · exact absurd (nI_lt (b := 40) q (by decide)) h
      · omega
    rw [this]; rfl
def narr (b v : Int32) : Int32 := if b = 8 then v.toInt8.toInt32 else if b = 16 then v.toInt16.toInt32 else v
def zerS (T : Nat → Int32) (s j : Nat) : Nat → Int32 := fun i => if 8 + 40 * s ≤ i ∧ i < 8 + 40 * s + j then 0 else T i
theorem zerS_0 (T : Nat → Int32) (s : Nat) : zerS T s 0 = T := by funext i; unfold zerS; rw [if_neg (by omega)]
theorem zerS_s (T : Nat → Int32) (s j : Nat) : upd (zerS T s j) (8 + (40 * s + j)) 0 = zerS T s (j + 1) := by
  funext i; unfold zerS upd
  by_cases h : i = 8 + (40 * s + j)
  · rw [if_pos h, if_pos (by omega)]
  · rw [if_neg h]
    show (if 8 + 40 * s ≤ i ∧ i < 8 + 40 * s + j then 0 else T i) = _
    by_cases h2 : 8 + 40 * s ≤ i ∧ i < 8 + 40 * s + j
    · rw [if_pos h2, if_pos (by omega)]
    · rw [if_neg h2, if_neg (by omega)]
def laySh (T : Nat → Int32) (s : Nat) (b z : Int32) : Nat → Int32 := zerS (upd (upd T s b) (4 + s) z) s 40
def movS (T : Nat → Int32) (s f t o n : Nat) : Nat → Int32 := fun i => if 8 + (40 * t + o) ≤ i ∧ i < 8 + (40 * t + o) + n then T (8 + (40 * s + f) + (i - (8 + (40 * t + o)))) else T i
theorem piece_cz {v : Int32} {n : Nat} (hn : n ≤ 40) : (0 ≤ v ∧ v ≤ nI n - 1) ↔ (0 ≤ v ∧ v < nI n) := by
  have e1 : (1 : Int32).toInt = 1 := rfl
  have e : (nI n - 1).toInt = (n : Int) - 1 := by rw [i_sub (by rw [i_n (by omega)]; omega) (by rw [i_n (by omega)]; omega), i_n (by omega), e1]
  have key : v ≤ nI n - 1 ↔ v < nI n := by rw [i_le, i_lt, e, i_n (by omega)]; omega
  rw [key]
/-- load(): how many numbers at most, how many come, what becomes of the bank -/
def lodM (T : Nat → Int32) (s n : Nat) : Nat := if n < (T (4 + s)).toNatClampNeg then n else (T (4 + s)).toNatClampNeg
def lodB (T : Nat → Int32) (s j : Nat) : Bool := decide (flT 2 ≤ num T s j ∧ num T s j ≤ fmT 2)
def lodN (T : Nat → Int32) (s : Nat) : Nat → Nat
  | 0 => 0
  | j + 1 => if lodN T s j = j ∧ lodB T s j = true then j + 1 else lodN T s j
theorem lodN_t {T : Nat → Int32} {s j : Nat} (h : lodN T s j = j) (hb : lodB T s j = true) : lodN T s (j + 1) = j + 1 := by rw [lodN, if_pos ⟨h, hb⟩]
theorem lodN_f {T : Nat → Int32} {s j : Nat} (h : lodN T s j = j) (hb : lodB T s j = false) : ∀ M, j < M → lodN T s M = j := by
  intro M
  induction M with
  | zero => intro h; omega
  | succ M ih =>
    intro hM
    by_cases e : j = M
    · subst e; rw [lodN, if_neg (fun q => by rw [hb] at q; cases q.2), h]
    · rw [lodN, ih (by omega), if_neg (fun q => e q.1)]
def lodS (S T : Nat → Int32) (s : Nat) : Nat → Nat → Int32
  | 0 => S
  | j + 1 => pset (lodS S T s j) j 2 (num T s j)
def jdV : Option Nat → Int32
  | some j => nI (1 + j)
  | none => 0
theorem min_nz {n z : Nat} (hn : n ≤ 8) (hz : z ≤ 40) : (if nI n < nI z then nI n else nI z) = nI (if n < z then n else z) := by
  by_cases q : n < z
  · rw [if_pos q, if_pos (nI_lt q (by omega))]
  · rw [if_neg q, if_neg (nI_nlt (by omega) (by omega))]
theorem rgC_iff {f n : Int32} {z : Nat} (hz : z ≤ 40) (hf : 0 ≤ f) (hn : 0 ≤ n) : rgC f n z ↔ n ≤ nI z - f := by
  have e0 : (0 : Int32).toInt = 0 := rfl
  have r1 := i_rng f
  have r2 := i_rng n
  rw [i_le] at hf hn
  have ez := i_n (n := z) (by omega)
  have e1 : (nI z - f).toInt = (z : Int) - f.toInt := by rw [i_sub (by omega) (by omega), ez]
  have e2 : (nI z - n).toInt = (z : Int) - n.toInt := by rw [i_sub (by omega) (by omega), ez]
  unfold rgC
  rw [i_le, i_le, i_le, i_le, i_le, e1, e2, ez]; omega
theorem sum8 (s f j : Nat) : nI (40 * s + f) + nI j = nI (40 * s + f + j) := nI_add _ _
theorem lodS_lo {S T : Nat → Int32} {s i : Nat} (h : i < 6) : ∀ j, lodS S T s j i = S i := by
  intro j; induction j with
  | zero => rfl
  | succ j ih => rw [lodS, pset_lo h, ih]
