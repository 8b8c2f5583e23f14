/-! ===== texts: tokens, words, numbers, items, purely (B: the tape's bytes, t: how many) ===== -/
def byV (B : Nat → Int32) (t i : Nat) : Int32 := if i < t then B i else -1
def blB (B : Nat → Int32) (t i : Nat) : Bool := decide (byV B t i = 32)
def leB (B : Nat → Int32) (t i : Nat) : Bool := decide (97 ≤ byV B t i ∧ byV B t i ≤ 122)
def diB (B : Nat → Int32) (t i : Nat) : Bool := decide (48 ≤ byV B t i ∧ byV B t i ≤ 57)
def skN (c : Nat → Bool) : Nat → Nat → Nat
  | 0, p => p
  | f + 1, p => if c p then skN c f (p + 1) else p
def runN (c : Nat → Bool) (t p : Nat) : Nat := skN c (t - p) p
theorem by_in {B : Nat → Int32} {t i : Nat} (h : i < t) : byV B t i = B i := if_pos h
theorem by_out {B : Nat → Int32} {t i : Nat} (h : ¬ i < t) : byV B t i = -1 := if_neg h
theorem bl_lt {B : Nat → Int32} {t i : Nat} (h : blB B t i = true) : i < t := by
  apply Classical.byContradiction; intro q
  have h := of_decide_eq_true h
  rw [by_out q] at h; exact absurd h (by decide)
theorem le_lt {B : Nat → Int32} {t i : Nat} (h : leB B t i = true) : i < t := by
  apply Classical.byContradiction; intro q
  have h := of_decide_eq_true h
  rw [by_out q] at h; exact absurd h (by decide)
theorem di_lt {B : Nat → Int32} {t i : Nat} (h : diB B t i = true) : i < t := by
  apply Classical.byContradiction; intro q
  have h := of_decide_eq_true h
  rw [by_out q] at h; exact absurd h (by decide)
theorem run_t {c : Nat → Bool} {t p : Nat} (hc : c p = true) (hp : p < t) : runN c t p = runN c t (p + 1) := by
  unfold runN; rw [show t - p = (t - (p + 1)) + 1 by omega, skN, if_pos hc]
theorem run_f {c : Nat → Bool} {t p : Nat} (hc : c p = false) : runN c t p = p := by
  unfold runN; cases h : t - p with
  | zero => rfl
  | succ f => rw [skN, hc]; rfl
theorem run_o {c : Nat → Bool} {t p : Nat} (hp : t ≤ p) : runN c t p = p := by
  unfold runN; rw [show t - p = 0 by omega]; rfl
theorem skN_b {c : Nat → Bool} : ∀ f p, p ≤ skN c f p ∧ skN c f p ≤ p + f := by
  intro f
  induction f with
  | zero => intro p; exact ⟨Nat.le_refl _, Nat.le_refl _⟩
  | succ f ih =>
    intro p
    rw [skN]
    split
    · have := ih (p + 1); omega
    · omega
theorem run_ge (c : Nat → Bool) (t p : Nat) : p ≤ runN c t p := (skN_b _ _).1
theorem run_le (c : Nat → Bool) {t p : Nat} (h : p ≤ t) : runN c t p ≤ t := by
  have := (skN_b (c := c) (t - p) p).2
  unfold runN; omega
theorem skN_in {c : Nat → Bool} : ∀ f p i, p ≤ i → i < skN c f p → c i = true := by
  intro f
  induction f with
  | zero => intro p i h1 h2; have h2 : i < p := h2; omega
  | succ f ih =>
    intro p i h1 h2
    rw [skN] at h2
    split at h2
    · rename_i hc
      by_cases e : i = p
      · rw [e]; exact hc
      · exact ih (p + 1) i (by omega) h2
    · omega
theorem run_in {c : Nat → Bool} {t p i : Nat} (h1 : p ≤ i) (h2 : i < runN c t p) : c i = true := skN_in _ _ _ h1 h2
def tS (B : Nat → Int32) (t p : Nat) : Nat := runN (blB B t) t p
def tE (B : Nat → Int32) (t s : Nat) : Nat := if leB B t s = true then runN (leB B t) t s else if diB B t s = true then runN (diB B t) t s else if s < t then s + 1 else s
def nx (B : Nat → Int32) (t s : Nat) : Nat := tS B t (tE B t s)
theorem tS_le {B : Nat → Int32} {t p : Nat} (h : p ≤ t) : tS B t p ≤ t := run_le _ h
theorem tS_ge (B : Nat → Int32) (t p : Nat) : p ≤ tS B t p := run_ge _ _ _
theorem tE_le {B : Nat → Int32} {t s : Nat} (h : s ≤ t) : tE B t s ≤ t := by
  unfold tE
  split
  · exact run_le _ h
  · split
    · exact run_le _ h
    · split <;> omega
theorem tE_gt {B : Nat → Int32} {t s : Nat} (h : s < t) : s < tE B t s := by
  unfold tE
  split
  · rename_i hc; rw [run_t hc h]; exact run_ge _ _ _
  · split
    · rename_i hc; rw [run_t hc h]; exact run_ge _ _ _
    · omega
theorem tE_ge (B : Nat → Int32) (t s : Nat) : s ≤ tE B t s := by
  by_cases h : s < t
  · exact Nat.le_of_lt (tE_gt h)
  · unfold tE
    rw [if_neg (fun q => h (le_lt q)), if_neg (fun q => h (di_lt q)), if_neg h]; exact Nat.le_refl _
theorem nx_le {B : Nat → Int32} {t s : Nat} (h : s ≤ t) : nx B t s ≤ t := tS_le (tE_le h)
theorem nx_gt {B : Nat → Int32} {t s : Nat} (h : s < t) : s < nx B t s := Nat.lt_of_lt_of_le (tE_gt h) (tS_ge _ _ _)
theorem nx_ge (B : Nat → Int32) (t s : Nat) : s ≤ nx B t s := Nat.le_trans (tE_ge _ _ _) (tS_ge _ _ _)
-- numbers
def dgB (b : Int32) : Nat := b.toInt.toNat - 48
def nuC (B : Nat → Int32) (s : Nat) : Nat → Nat
  | 0 => 0
  | j + 1 => if 1000 < 10 * nuC B s j + dgB (B (s + j)) then 1000 else 10 * nuC B s j + dgB (B (s + j))
def nuM (B : Nat → Int32) (s : Nat) : Nat → Nat
  | 0 => 0
  | j + 1 => if 999 < nuM B s j then nuM B s j else 10 * nuM B s j + dgB (B (s + j))
theorem nu_cm (B : Nat → Int32) (s : Nat) : ∀ j, nuC B s j = if 1000 < nuM B s j then 1000 else nuM B s j := by
  intro j
  induction j with
  | zero => rfl
  | succ j ih =>
    rw [nuC, nuM, ih]
    by_cases h : 1000 < nuM B s j
    · rw [if_pos h, if_pos (show 999 < nuM B s j by omega), if_pos (by omega), if_pos h]
    · rw [if_neg h]
      by_cases h2 : 999 < nuM B s j
      · rw [if_pos h2, if_neg h]
        split <;> omega
      · rw [if_neg h2]
theorem nuC_le (B : Nat → Int32) (s j : Nat) : nuC B s j ≤ 1000 := by
  rw [nu_cm]; split <;> omega
theorem di_b {B : Nat → Int32} {t i : Nat} (h : diB B t i = true) : dgB (B i) ≤ 9 ∧ B i = nI (48 + dgB (B i)) ∧ byV B t i = nI (48 + dgB (B i)) := by
  have hlt := di_lt h
  have h := of_decide_eq_true h
  have e48 : (48 : Int32).toInt = 48 := rfl
  have e57 : (57 : Int32).toInt = 57 := rfl
  rw [by_in hlt, i_le, i_le] at h
  have e : B i = nI (48 + dgB (B i)) := by
    rw [i_eq, i_n (by unfold dgB; omega)]; unfold dgB; omega
  exact ⟨by unfold dgB; omega, e, by rw [by_in hlt]; exact e⟩
theorem nuM_le {B : Nat → Int32} {s : Nat} : ∀ {j : Nat}, (∀ i, i < j → dgB (B (s + i)) ≤ 9) → nuM B s j ≤ 9999 := by
  intro j
  induction j with
  | zero => intro _; exact Nat.zero_le _
  | succ j ih =>
    intro h
    have h1 := ih (fun i hi => h i (by omega))
    have h2 := h j (by omega)
    rw [nuM]
    split <;> omega
def nmV (B : Nat → Int32) (t s : Nat) : Nat := nuC B s (tE B t s - s)
def nmM (B : Nat → Int32) (t s : Nat) : Nat := nuM B s (tE B t s - s)
theorem nmV_le (B : Nat → Int32) (t s : Nat) : nmV B t s ≤ 1000 := nuC_le _ _ _
theorem nm_c {B : Nat → Int32} {t s : Nat} {lo : Int32} {hi : Nat} (hs : diB B t s = true) (hh : hi ≤ 999) : ((lo ≤ nI (nmM B t s) ∧ nI (nmM B t s) ≤ nI hi) ↔ (lo ≤ nI (nmV B t s) ∧ nI (nmV B t s) ≤ nI hi)) ∧ ((lo ≤ nI (nmV B t s) ∧ nI (nmV B t s) ≤ nI hi) → nmM B t s = nmV B t s) := by
  have hM : nmM B t s ≤ 9999 := nuM_le (fun i hi2 => (di_b (t := t) (by
    unfold tE at hi2
    have hl : ¬ leB B t s = true := fun q => by
      have q1 := of_decide_eq_true q; have q2 := of_decide_eq_true hs
      have e97 : (97 : Int32).toInt = 97 := rfl
      have e57 : (57 : Int32).toInt = 57 := rfl
      have a1 := i_le.mp q1.1; have a2 := i_le.mp q2.2
      omega
    rw [if_neg hl, if_pos hs] at hi2
    exact run_in (p := s) (t := t) (by omega) (by omega))).1)
  have hV : nmV B t s = if 1000 < nmM B t s then 1000 else nmM B t s := nu_cm _ _ _
  by_cases h : 1000 < nmM B t s
  · rw [if_pos h] at hV
    have n1 : ¬ nI (nmM B t s) ≤ nI hi := nI_ge (by omega) (by omega)
    have n2 : ¬ nI (nmV B t s) ≤ nI hi := nI_ge (by omega) (by omega)
    exact ⟨⟨fun q => absurd q.2 n1, fun q => absurd q.2 n2⟩, fun q => absurd q.2 n2⟩
  · rw [if_neg h] at hV
    rw [hV]
    exact ⟨Iff.rfl, fun _ => rfl⟩
-- words
def wdB (w : List Int32) (B : Nat → Int32) (t s : Nat) : Bool := decide (leB B t s = true ∧ w.length = tE B t s - s ∧ ∀ i, i < w.length → w.getD i 0 = B (s + i))
def lt26 (b : Int32) : Nat := b.toInt.toNat - 96
def saN (B : Nat → Int32) (s : Nat) : Nat → Nat
  | 0 => 0
  | j + 1 => if 36028797018963967 < saN B s j then saN B s j else 32 * saN B s j + lt26 (B (s + j))
def cdN (w : Nat → Int32) : Nat → Nat
  | 0 => 0
  | j + 1 => 32 * cdN w j + lt26 (w j)
theorem cdN_mono (w : Nat → Int32) (j : Nat) : cdN w j ≤ cdN w (j + 1) := by rw [cdN]; omega
theorem sa_cd {B w : Nat → Int32} {s : Nat} : ∀ (l j : Nat), (∀ i, i < l → 1 ≤ lt26 (w i) ∧ lt26 (w i) ≤ 26) → (∀ i, i < j → 1 ≤ lt26 (B (s + i)) ∧ lt26 (B (s + i)) ≤ 26) → cdN w l ≤ 36028797018963967 → saN B s j = cdN w l → j = l ∧ ∀ i, i < l → lt26 (w i) = lt26 (B (s + i)) := by
  intro l
  induction l with
  | zero =>
    intro j _ hB _ h
    cases j with
    | zero => exact ⟨rfl, fun i hi => by omega⟩
    | succ j =>
      exfalso
      have h : saN B s (j + 1) = 0 := h
      rw [saN] at h
      have := hB j (by omega)
      split at h <;> omega
  | succ l ih =>
    intro j hw hB hM h
    have hm := cdN_mono w l
    cases j with
    | zero =>
      exfalso
      have h : 0 = cdN w (l + 1) := h
      rw [cdN] at h
      have := hw l (by omega)
      omega
    | succ j =>
      have b1 := hw l (by omega)
      have b2 := hB j (by omega)
      rw [saN] at h
      split at h
      · omega
      · rw [cdN] at h hM
        have e := ih j (fun i hi => hw i (by omega)) (fun i hi => hB i (by omega)) (by omega) (by omega)
        refine ⟨by omega, fun i hi => ?_⟩
        by_cases hi2 : i = l
        · rw [hi2, ← e.1]
          rw [e.1] at h ⊢
          have := e.1
          subst this
          omega
        · exact e.2 i (by omega)
theorem sa_of {B w : Nat → Int32} {s : Nat} : ∀ l, (∀ i, i < l → w i = B (s + i)) → cdN w l ≤ 36028797018963967 → saN B s l = cdN w l := by
  intro l
  induction l with
  | zero => intro _ _; rfl
  | succ l ih =>
    intro h hM
    have hm := cdN_mono w l
    have e := ih (fun i hi => h i (by omega)) (by omega)
    rw [saN, cdN, e, if_neg (by omega), h l (by omega)]
theorem le_b {B : Nat → Int32} {t i : Nat} (h : leB B t i = true) : 1 ≤ lt26 (B i) ∧ lt26 (B i) ≤ 26 ∧ B i = nI (96 + lt26 (B i)) := by
  have hlt := le_lt h
  have h := of_decide_eq_true h
  have e97 : (97 : Int32).toInt = 97 := rfl
  have e122 : (122 : Int32).toInt = 122 := rfl
  rw [by_in hlt, i_le, i_le] at h
  refine ⟨by unfold lt26; omega, by unfold lt26; omega, ?_⟩
  rw [i_eq, i_n (by unfold lt26; omega)]; unfold lt26; omega
theorem le_run {B : Nat → Int32} {t s : Nat} (h : leB B t s = true) : ∀ i, i < tE B t s - s → leB B t (s + i) = true := by
  intro i hi
  unfold tE at hi
  rw [if_pos h] at hi
  exact run_in (p := s) (t := t) (by omega) (by omega)
/-- the letters' number tells the word -/
theorem wd_iff {B : Nat → Int32} {t s c : Nat} (w : List Int32) (h : leB B t s = true) (hw : ∀ i, i < w.length → 1 ≤ lt26 (w.getD i 0) ∧ lt26 (w.getD i 0) ≤ 26 ∧ w.getD i 0 = nI (96 + lt26 (w.getD i 0))) (hc : cdN (fun i => w.getD i 0) w.length = c) (hM : c ≤ 36028797018963967) : (wdB w B t s = true ↔ saN B s (tE B t s - s) = c) := by
  unfold wdB
  rw [decide_eq_true_iff]
  have hr := le_run h
  constructor
  · rintro ⟨-, e1, e2⟩
    rw [← e1, ← hc]
    exact sa_of _ e2 (by rw [hc]; exact hM)
  · intro e
    have key := sa_cd (w := fun i => w.getD i 0) (B := B) (s := s) w.length (tE B t s - s) (fun i hi => ⟨(hw i hi).1, (hw i hi).2.1⟩) (fun i hi => ⟨(le_b (hr i hi)).1, (le_b (hr i hi)).2.1⟩) (by rw [hc]; exact hM) (by rw [hc]; exact e)
    refine ⟨h, key.1.symm, fun i hi => ?_⟩
    rw [(hw i hi).2.2, key.2 i hi]
    exact (le_b (hr i (by omega))).2.2.symm
def wcN (B : Nat → Int32) (t s : Nat) : Nat := if leB B t s = true then saN B s (tE B t s - s) else 0
def cdL : List Nat := [17077349, 21780342215, 79008370745, 18935, 408572082, 267859, 218725, 0, 66956, 149543, 655, 409031, 12009107]
theorem wd_tab : ∀ q, q < 13 → q ≠ 7 → (∀ i, i < (sBy.getD q []).length → 1 ≤ lt26 ((sBy.getD q []).getD i 0) ∧ lt26 ((sBy.getD q []).getD i 0) ≤ 26 ∧ (sBy.getD q []).getD i 0 = nI (96 + lt26 ((sBy.getD q []).getD i 0))) ∧ cdN (fun i => (sBy.getD q []).getD i 0) (sBy.getD q []).length = cdL.getD q 0 ∧ 0 < cdL.getD q 0 ∧ cdL.getD q 0 ≤ 36028797018963967 := by decide +kernel
theorem wc_iff {B : Nat → Int32} {t s q : Nat} (hq : q < 13) (h7 : q ≠ 7) : (wdB (sBy.getD q []) B t s = true ↔ wcN B t s = cdL.getD q 0) := by
  obtain ⟨h1, h2, h3, h4⟩ := wd_tab q hq h7
  unfold wcN
  by_cases h : leB B t s = true
  · rw [if_pos h]; exact wd_iff _ h h1 h2 h4
  · rw [if_neg h]
    constructor
    · intro e; exact absurd (of_decide_eq_true e).1 h
    · intro e; omega
theorem saN_le {B : Nat → Int32} {s : Nat} : ∀ j, (∀ i, i < j → lt26 (B (s + i)) ≤ 26) → saN B s j ≤ 1200000000000000000 := by
  intro j
  induction j with
  | zero => intro _; exact Nat.zero_le _
  | succ j ih =>
    intro h
    have h1 := ih (fun i hi => h i (by omega))
    have h2 := h j (by omega)
    rw [saN]; split <;> omega
theorem wcN_le (B : Nat → Int32) (t s : Nat) : wcN B t s ≤ 1200000000000000000 := by
  unfold wcN; split
  · rename_i h; exact saN_le _ (fun i hi => (le_b (le_run h i hi)).2.1)
  · exact Nat.zero_le _
-- items
def ncB (lo hi : Int32) (B : Nat → Int32) (t s : Nat) : Bool := decide (diB B t s = true ∧ lo ≤ nI (nmV B t s) ∧ nI (nmV B t s) ≤ hi)
def facR (w : List Int32) (lo hi : Int32) (B : Nat → Int32) (t p k : Nat) (S : Nat → Int32) (s : Nat) : Bool × (Nat → Int32) × Nat :=
  if wdB w B t s = true then (if ncB lo hi B t (nx B t s) = true then (true, pset S p k (nI (nmV B t (nx B t s))), nx B t (nx B t s)) else (false, S, nx B t s)) else (true, S, s)
def thn (r : Bool × (Nat → Int32) × Nat) (f : (Nat → Int32) → Nat → Bool × (Nat → Int32) × Nat) : Bool × (Nat → Int32) × Nat := if r.1 = true then f r.2.1 r.2.2 else r
def prtR (B : Nat → Int32) (t p : Nat) (S : Nat → Int32) (s : Nat) : Bool × (Nat → Int32) × Nat :=
  thn (thn (facR (sBy.getD 10 []) 0 11 B t p 1 S s) (facR (sBy.getD 11 []) 1 99 B t p 2)) (facR (sBy.getD 12 []) 0 9 B t p 3)
def pieR (kind : Int32) (B : Nat → Int32) (t : Nat) (S : Nat → Int32) (n s : Nat) : Bool × (Nat → Int32) × Nat :=
  if n = 8 then (false, S, s) else prtR B t n (addS S n kind 0) (nx B t s)
def numR (lo hi : Int32) (i : Nat) (B : Nat → Int32) (t : Nat) (S : Nat → Int32) (s : Nat) : Bool × (Nat → Int32) × Nat :=
  if ncB lo hi B t s = true then (true, upd S i (nI (nmV B t s)), nx B t s) else (false, S, s)
def kdN (B : Nat → Int32) (t s : Nat) : Option Nat := fstN (fun k => wdB (sBy.getD k []) B t s) 7
def itmR (B : Nat → Int32) (t : Nat) (S : Nat → Int32) (n s : Nat) : Bool × (Nat → Int32) × Nat := match kdN B t s with
  | some k => pieR (nI k) B t S n s
  | none => if wdB (sBy.getD 8 []) B t s = true then numR 0 11 2 B t S (nx B t s) else if wdB (sBy.getD 9 []) B t s = true then numR 0 99 3 B t S (nx B t s) else (false, S, s)
def itmN (B : Nat → Int32) (t n s : Nat) : Nat := match kdN B t s with
  | some _ => if n = 8 then n else n + 1
  | none => n
def rdR (B : Nat → Int32) (t : Nat) : Nat → (Nat → Int32) → Nat → Nat → Nat → Bool × (Nat → Int32) × Nat × Nat × Nat
  | 0, S, n, s, it => (false, S, s, n, it)
  | f + 1, S, n, s, it =>
    if (itmR B t S n s).1 = true then
      (if (itmR B t S n s).2.2 < t then
        (if B (itmR B t S n s).2.2 = 59 then rdR B t f (itmR B t S n s).2.1 (itmN B t n s) (nx B t (itmR B t S n s).2.2) (it + 1)
          else (false, (itmR B t S n s).2.1, (itmR B t S n s).2.2, itmN B t n s, it))
        else (true, (itmR B t S n s).2.1, (itmR B t S n s).2.2, itmN B t n s, it))
    else (false, (itmR B t S n s).2.1, (itmR B t S n s).2.2, itmN B t n s, it)
def txR (B : Nat → Int32) (t : Nat) (S : Nat → Int32) (n : Nat) : Bool × (Nat → Int32) × Nat × Nat × Nat := rdR B t (t + 1) S n (tS B t 0) 1
def txA (r : Bool × (Nat → Int32) × Nat × Nat × Nat) : Int32 := if r.1 = true then nI r.2.2.2.2 else -1 - nI r.2.2.1
def txV (B : Nat → Int32) (t : Nat) (S : Nat → Int32) (n : Nat) : Int32 := txA (txR B t S n)
def txS (B : Nat → Int32) (t : Nat) (S : Nat → Int32) (n : Nat) : Nat → Int32 := if (txR B t S n).1 = true then (txR B t S n).2.1 else S
def txN (B : Nat → Int32) (t : Nat) (S : Nat → Int32) (n : Nat) : Nat := if (txR B t S n).1 = true then (txR B t S n).2.2.2.1 else n
