theorem rdT_h (σ : Hp) (S R : Nat → Int32) (j : Nat) (v : Int32) : hset (rdT σ S R) 1 j v = rdT σ (upd S j v) R := by rw [hset_e, rdT_1, rdT_S]
theorem fac_le {w : List Int32} {lo hi : Int32} {B : Nat → Int32} {t p k s : Nat} {S : Nat → Int32} (hs : s ≤ t) : (facR w lo hi B t p k S s).2.2 ≤ t := by
  unfold facR
  split
  · split
    · exact nx_le (nx_le hs)
    · exact nx_le hs
  · exact hs
theorem fac_ge {w : List Int32} {lo hi : Int32} {B : Nat → Int32} {t p k s : Nat} {S : Nat → Int32} : s ≤ (facR w lo hi B t p k S s).2.2 := by
  unfold facR
  split
  · split
    · exact Nat.le_trans (nx_ge B t s) (nx_ge _ _ _)
    · exact nx_ge _ _ _
  · exact Nat.le_refl _
theorem thn_s {r : Bool × (Nat → Int32) × Nat} {f : (Nat → Int32) → Nat → Bool × (Nat → Int32) × Nat} {P : Nat → Prop} (h : P r.2.2) (hf : ∀ S s, P s → P (f S s).2.2) : P (thn r f).2.2 := by
  unfold thn; split
  · exact hf _ _ h
  · exact h
theorem thn_t {r : Bool × (Nat → Int32) × Nat} {f : (Nat → Int32) → Nat → Bool × (Nat → Int32) × Nat} (h : r.1 = true) : thn r f = f r.2.1 r.2.2 := if_pos h
theorem thn_f {r : Bool × (Nat → Int32) × Nat} {f : (Nat → Int32) → Nat → Bool × (Nat → Int32) × Nat} (h : ¬ r.1 = true) : thn r f = r := if_neg h
theorem itm_some {B : Nat → Int32} {t n s k : Nat} {S : Nat → Int32} (h : kdN B t s = some k) : itmR B t S n s = pieR (nI k) B t S n s := by unfold itmR; rw [h]
theorem itm_none {B : Nat → Int32} {t n s : Nat} {S : Nat → Int32} (h : kdN B t s = none) : itmR B t S n s = if wdB (sBy.getD 8 []) B t s = true then numR 0 11 2 B t S (nx B t s) else if wdB (sBy.getD 9 []) B t s = true then numR 0 99 3 B t S (nx B t s) else (false, S, s) := by unfold itmR; rw [h]
theorem fst_no {c : Nat → Bool} {n : Nat} (h : ∀ i, i < n → c i = false) : fstN c n = none := by
  induction n with
  | zero => rfl
  | succ n ih => exact fstN_none (ih (fun i hi => h i (by omega))) (h n (by omega))
theorem wd_out {w : List Int32} {B : Nat → Int32} {t s : Nat} (h : ¬ s < t) : ¬ wdB w B t s = true := fun q => h (le_lt (of_decide_eq_true q).1)
theorem itm_out {B : Nat → Int32} {t n s : Nat} {S : Nat → Int32} (h : ¬ s < t) : itmR B t S n s = (false, S, s) := by
  rw [itm_none (fst_no (fun i _ => by simpa using wd_out h)), if_neg (wd_out h), if_neg (wd_out h)]
theorem num_le {lo hi : Int32} {i : Nat} {B : Nat → Int32} {t s : Nat} {S : Nat → Int32} (hs : s ≤ t) : (numR lo hi i B t S s).2.2 ≤ t := by
  unfold numR; split
  · exact nx_le hs
  · exact hs
theorem num_ge {lo hi : Int32} {i : Nat} {B : Nat → Int32} {t s : Nat} {S : Nat → Int32} : s ≤ (numR lo hi i B t S s).2.2 := by
  unfold numR; split
  · exact nx_ge _ _ _
  · exact Nat.le_refl _
theorem prt_le {B : Nat → Int32} {t p s : Nat} {S : Nat → Int32} (hs : s ≤ t) : (prtR B t p S s).2.2 ≤ t := by
  unfold prtR
  exact thn_s (P := fun x => x ≤ t) (thn_s (P := fun x => x ≤ t) (fac_le hs) (fun _ _ h => fac_le h)) (fun _ _ h => fac_le h)
theorem prt_ge {B : Nat → Int32} {t p s : Nat} {S : Nat → Int32} : s ≤ (prtR B t p S s).2.2 := by
  unfold prtR
  exact thn_s (P := fun x => s ≤ x) (thn_s (P := fun x => s ≤ x) fac_ge (fun _ _ h => Nat.le_trans h fac_ge)) (fun _ _ h => Nat.le_trans h fac_ge)
theorem itm_le {B : Nat → Int32} {t n s : Nat} {S : Nat → Int32} (hs : s ≤ t) : (itmR B t S n s).2.2 ≤ t := by
  unfold itmR
  split
  · unfold pieR; split
    · exact hs
    · exact prt_le (nx_le hs)
  · split
    · exact num_le (nx_le hs)
    · split
      · exact num_le (nx_le hs)
      · exact hs
theorem itm_ge {B : Nat → Int32} {t n s : Nat} {S : Nat → Int32} : s ≤ (itmR B t S n s).2.2 := by
  unfold itmR
  split
  · unfold pieR; split
    · exact Nat.le_refl _
    · exact Nat.le_trans (nx_ge _ _ _) prt_ge
  · split
    · exact Nat.le_trans (nx_ge _ _ _) num_ge
    · split
      · exact Nat.le_trans (nx_ge _ _ _) num_ge
      · exact Nat.le_refl _
theorem itm_1 {B : Nat → Int32} {t n s : Nat} {S : Nat → Int32} {d : Int} (h : Gd S n d) (hd : 0 ≤ d) : (itmR B t S n s).2.1 1 = nI (itmN B t n s) := (itm_G h hd).2.1
theorem rd_it {B : Nat → Int32} {t : Nat} : ∀ (f : Nat) (S : Nat → Int32) (n s it : Nat), s ≤ t → (rdR B t f S n s it).2.2.2.2 ≤ it + f ∧ (rdR B t f S n s it).2.2.1 ≤ t := by
  intro f
  induction f with
  | zero => intro S n s it hs; exact ⟨Nat.le_refl _, hs⟩
  | succ f ih =>
    intro S n s it hs
    have hl := itm_le (B := B) (n := n) (S := S) hs
    rw [rdR]
    split
    · split
      · split
        · have := ih (itmR B t S n s).2.1 (itmN B t n s) (nx B t (itmR B t S n s).2.2) (it + 1) (nx_le hl)
          omega
        · exact ⟨by show it ≤ _; omega, hl⟩
      · exact ⟨by show it ≤ _; omega, hl⟩
    · exact ⟨by show it ≤ _; omega, hl⟩
theorem tx_neg {B : Nat → Int32} {t n : Nat} {S : Nat → Int32} (ht : t ≤ 120) : txV B t S n < 0 ↔ ¬ (txR B t S n).1 = true := by
  have h := rd_it (B := B) (t := t) (t + 1) S n (tS B t 0) 1 (tS_le (by omega))
  have h1 : (txR B t S n).2.2.2.2 ≤ 1 + (t + 1) := h.1
  have h2 : (txR B t S n).2.2.1 ≤ t := h.2
  unfold txV txA
  by_cases hc : (txR B t S n).1 = true
  · rw [if_pos hc]; exact ⟨fun q => absurd q (nI_pos (by omega)), fun q => absurd hc q⟩
  · rw [if_neg hc]
    refine ⟨fun _ => hc, fun _ => ?_⟩
    have e1 : (-1 : Int32).toInt = -1 := rfl
    have e0 : (0 : Int32).toInt = 0 := rfl
    rw [i_lt, i_sub (by rw [i_n (by omega)]; omega) (by rw [i_n (by omega)]; omega), i_n (by omega)]; omega
