theorem pf_pset (S : Nat → Int32) (p p' w w' : Nat) (v : Int32) (hw : w < 6) (hw' : w' < 6) : pf (pset S p w v) p' w' = if p' = p ∧ w' = w then v else pf S p' w' := by
  unfold pf pset upd
  by_cases h : p' = p ∧ w' = w
  · obtain ⟨rfl, rfl⟩ := h; simp
  · rw [if_neg h, if_neg]; intro e; exact h ⟨by omega, by omega⟩
theorem pset_lo {S : Nat → Int32} {p w i : Nat} {v : Int32} (h : i < 6) : pset S p w v i = S i := by unfold pset upd; rw [if_neg (by omega)]
theorem pset_hi {S : Nat → Int32} {p w i : Nat} {v : Int32} (hp : p < 8) (hw : w < 6) (h : 54 ≤ i) : pset S p w v i = S i := by unfold pset upd; rw [if_neg (by omega)]
theorem pset_same (S : Nat → Int32) (p w : Nat) : pset S p w (pf S p w) = S := by
  funext i; unfold pset upd pf; split
  · rename_i h; rw [h]
  · rfl
theorem pf_upd {S : Nat → Int32} {p w i : Nat} {v : Int32} (h : i < 6) : pf (upd S i v) p w = pf S p w := by unfold pf upd; rw [if_neg (by omega)]
theorem upd_s (S : Nat → Int32) (i : Nat) (v : Int32) : upd S i v i = v := if_pos rfl
theorem upd_n {S : Nat → Int32} {i j : Nat} {v : Int32} (h : j ≠ i) : upd S i v j = S j := if_neg h
theorem sumN_congr {f g : Nat → Int32} {n : Nat} (h : ∀ i, i < n → f i = g i) : sumN f n = sumN g n := by
  induction n with
  | zero => rfl
  | succ n ih => rw [sumN, sumN, ih (fun i hi => h i (by omega)), h n (by omega)]
theorem sumN_cons (f : Nat → Int32) (n : Nat) : sumN f (n + 1) = f 0 + sumN (fun i => f (i + 1)) n := by
  induction n with
  | zero => show 0 + f 0 = f 0 + 0; rw [Int32.zero_add, Int32.add_zero]
  | succ n ih => rw [sumN, ih, sumN, Int32.add_assoc]
/-- the sum of f over j, .., n - 1 -/
def sumD (f : Nat → Int32) (n j : Nat) : Int32 := sumN (fun i => f (j + i)) (n - j)
theorem sumD_n (f : Nat → Int32) (n : Nat) : sumD f n n = 0 := by unfold sumD; rw [Nat.sub_self]; rfl
theorem sumD_step (f : Nat → Int32) {n j : Nat} (h : j < n) : sumD f n j = sumD f n (j + 1) + f j := by
  unfold sumD
  rw [show n - j = (n - (j + 1)) + 1 by omega, sumN_cons, Int32.add_comm]
  congr 1
  refine sumN_congr fun i _ => ?_
  show f (j + (i + 1)) = f (j + 1 + i)
  congr 1; omega
theorem sumD_0 (f : Nat → Int32) (n : Nat) : sumD f n 0 = sumN f n := by
  unfold sumD; rw [Nat.sub_zero]; exact sumN_congr fun i _ => by rw [Nat.zero_add]
theorem sumD_succ (f : Nat → Int32) {n j : Nat} (h : j ≤ n) : sumD f (n + 1) j = sumD f n j + f n := by
  unfold sumD
  rw [show n + 1 - j = (n - j) + 1 by omega, sumN, show j + (n - j) = n by omega]
theorem lng_D (S : Nat → Int32) (n p : Nat) : lngF S n p = sumD (fun i => pf S i 2) n p := rfl
theorem lng_step (S : Nat → Int32) {n j : Nat} (h : j < n) : lngF S n j = lngF S n (j + 1) + pf S j 2 := sumD_step (fun i => pf S i 2) h
theorem lng_n (S : Nat → Int32) (n : Nat) : lngF S n n = 0 := sumD_n (fun i => pf S i 2) n
-- bounds
theorem fmT_bnd {w : Nat} (h : w < 6) : (fmT w).toInt = bnd w := by
  rcases (show w = 0 ∨ w = 1 ∨ w = 2 ∨ w = 3 ∨ w = 4 ∨ w = 5 by omega) with rfl | rfl | rfl | rfl | rfl | rfl <;> rfl
theorem bnd_le (w : Nat) (h : w < 6) : 0 ≤ bnd w ∧ bnd w ≤ 9999 := by
  rcases (show w = 0 ∨ w = 1 ∨ w = 2 ∨ w = 3 ∨ w = 4 ∨ w = 5 by omega) with rfl | rfl | rfl | rfl | rfl | rfl <;> decide
theorem rg_n {x : Int32} {m : Int} (h : rg x m) (hm : m < 2147483648) : ∃ j : Nat, (j : Int) ≤ m ∧ x = nI j := by
  refine ⟨x.toInt.toNat, ?_, ?_⟩
  · have := h.1; have := h.2; omega
  · rw [i_eq, i_n (by have := h.1; have := h.2; omega)]; have := h.1; omega
theorem n_rg {j : Nat} {m : Int} (h : (j : Int) ≤ m) (hm : m < 2147483648) : rg (nI j) m := by
  unfold rg; rw [i_n (by omega)]; omega
theorem Gd_pset {S : Nat → Int32} {n p w : Nat} {d : Int} {v : Int32} (h : Gd S n d) (hp : p < 8) (hw : w < 6) (hv : rg v (bnd w)) : Gd (pset S p w v) n d := by
  obtain ⟨h1, h2, h3, h4, h5, h6, h7, h8⟩ := h
  refine ⟨h1, by rw [pset_lo (by omega)]; exact h2, fun p' w' hp' hw' => ?_, by rw [pset_lo (by omega)]; exact h4, by rw [pset_lo (by omega)]; exact h5, by rw [pset_lo (by omega)]; exact h6, by rw [pset_lo (by omega)]; exact h7, trivial⟩
  rw [pf_pset _ _ _ _ _ _ hw hw']
  by_cases e : p' = p ∧ w' = w
  · rw [if_pos e, e.2]; exact hv
  · rw [if_neg e]; exact h3 p' w' hp' hw'
theorem held_rg {v m : Int32} {b : Int} (h : rg v b) (hm : m.toInt = b) (hb : b < 2147483647) : rg (heldF (v + 1) m) b := by
  unfold heldF
  have e1 : (1 : Int32).toInt = 1 := rfl
  have e : (v + 1).toInt = v.toInt + 1 := by rw [i_add (by rw [e1]; have := h.1; omega) (by rw [e1]; have := h.2; omega), e1]
  unfold rg at h ⊢
  split
  · omega
  · rename_i h2; rw [i_lt] at h2; omega
theorem held_stay {v m : Int32} {b : Int} (h : rg v b) (hm : m.toInt = b) (hb : b < 2147483647) (hn : ¬ (0 ≤ v + 1 ∧ v + 1 ≤ m)) : heldF (v + 1) m = v := by
  have e1 : (1 : Int32).toInt = 1 := rfl
  have e0 : (0 : Int32).toInt = 0 := rfl
  have e : (v + 1).toInt = v.toInt + 1 := by rw [i_add (by rw [e1]; have := h.1; omega) (by rw [e1]; have := h.2; omega), e1]
  rw [i_le, i_le] at hn
  unfold rg at h
  unfold heldF
  rw [if_pos (by rw [i_lt]; omega), i_eq]; omega
theorem held_go {v m : Int32} (h : v ≤ m) : heldF v m = v := if_neg (Int32.not_lt.mpr h)
theorem Gd_arr1 {S : Nat → Int32} {n p : Nat} {d : Int} (h : Gd S n d) (hp : p < 8) : Gd (arr1 S p) n d := by
  unfold arr1
  split
  · refine Gd_pset (Gd_pset h hp (by decide) (held_rg (h.2.2.1 p 5 hp (by decide)) rfl (by decide))) hp (by decide) (held_rg (h.2.2.1 p 3 hp (by decide)) rfl (by decide))
  · exact h
theorem Gd_arrN {S : Nat → Int32} {n : Nat} {d : Int} (h : Gd S n d) : ∀ p, p ≤ 8 → Gd (arrN S p) n d := by
  intro p
  induction p with
  | zero => intro _; exact h
  | succ p ih => intro hp; exact Gd_arr1 (ih (by omega)) (by omega)
theorem Gd_age1 {S : Nat → Int32} {n p : Nat} {d : Int} (h : Gd S n d) (hp : p < 8) : Gd (age1 S p) n d := Gd_pset h hp (by decide) (held_rg (h.2.2.1 p 4 hp (by decide)) rfl (by decide))
theorem Gd_ageN {S : Nat → Int32} {n : Nat} {d : Int} (h : Gd S n d) : ∀ p, p ≤ 8 → Gd (ageN S p) n d := by
  intro p
  induction p with
  | zero => intro _; exact h
  | succ p ih => intro hp; exact Gd_age1 (ih (by omega)) (by omega)
theorem i_div {a : Int32} {m : Nat} (h : rg a 2147483647) (hm : 0 < m) (hm2 : m < 2147483648) : (a / nI m).toInt = a.toInt / (m : Int) := by
  obtain ⟨j, h1, rfl⟩ := rg_n h (by decide)
  rw [pk_div (by omega) hm (by omega), i_n (by have := Nat.div_le_self j m; omega), i_n (by omega)]; rfl
theorem hal_rg {v : Int32} (h : rg v 99) : rg (if v < 2 then 1 else v / 2) 99 := by
  split
  · exact ⟨by decide, by decide⟩
  · have e : (v / 2).toInt = v.toInt / 2 := i_div (m := 2) ⟨h.1, by have := h.2; omega⟩ (by decide) (by decide)
    unfold rg at h ⊢; rw [e]; omega
theorem Gd_hal1 {S : Nat → Int32} {n p : Nat} {d : Int} (h : Gd S n d) (hp : p < 8) : Gd (hal1 S p) n d := Gd_pset h hp (by decide) (hal_rg (h.2.2.1 p 2 hp (by decide)))
theorem Gd_halN {S : Nat → Int32} {n a : Nat} {d : Int} (h : Gd S n d) : ∀ c, a + c ≤ 8 → Gd (halN S a c) n d := by
  intro c
  induction c with
  | zero => intro _; exact h
  | succ c ih => intro hc; exact Gd_hal1 (ih (by omega)) (by omega)
theorem Gd_upd4 {S : Nat → Int32} {n : Nat} {d : Int} {v : Int32} (h : Gd S n d) (hv : rg v 99999) : Gd (upd S 4 v) n d := by
  obtain ⟨h1, h2, h3, h4, h5, h6, h7, h8⟩ := h
  exact ⟨h1, by rw [upd_n (by decide)]; exact h2, fun p w hp hw => by rw [pf_upd (by decide)]; exact h3 p w hp hw, by rw [upd_n (by decide)]; exact h4, by rw [upd_s]; exact hv, by rw [upd_n (by decide)]; exact h6, by rw [upd_n (by decide)]; exact h7, trivial⟩
theorem fstN_lt {c : Nat → Bool} : ∀ {n p : Nat}, fstN c n = some p → p < n := by
  intro n
  induction n with
  | zero => intro p h; cases h
  | succ n ih =>
    intro p h
    unfold fstN at h
    split at h
    · rename_i q hq; cases h; exact Nat.lt_succ_of_lt (ih hq)
    · split at h
      · cases h; exact Nat.lt_succ_self n
      · cases h
theorem Gd_offF {S : Nat → Int32} {n p : Nat} {d : Int} (h : Gd S n d) (hp : p < n) : Gd (offF S n p) n d := by
  have hn := h.1
  exact Gd_upd4 (Gd_halN (Gd_pset h (by omega) (by decide) ⟨by decide, by decide⟩) _ (by omega)) (held_rg h.2.2.2.2.1 rfl (by decide))
theorem Gd_goF {S : Nat → Int32} {n : Nat} {d : Int} (h : Gd S n d) : Gd (goF S n) n d := by
  unfold goF
  split
  · exact h
  · rename_i p hp; exact Gd_offF h (fstN_lt hp)
theorem arr1_lo {S : Nat → Int32} {p i : Nat} (h : i < 6) : arr1 S p i = S i := by
  unfold arr1; split
  · rw [pset_lo h, pset_lo h]
  · rfl
theorem arrN_lo {S : Nat → Int32} {i : Nat} (h : i < 6) : ∀ p, arrN S p i = S i := by
  intro p; induction p with
  | zero => rfl
  | succ p ih => rw [arrN, arr1_lo h, ih]
theorem ageN_lo {S : Nat → Int32} {i : Nat} (h : i < 6) : ∀ p, ageN S p i = S i := by
  intro p; induction p with
  | zero => rfl
  | succ p ih => rw [ageN, age1, pset_lo h, ih]
theorem halN_lo {S : Nat → Int32} {a i : Nat} (h : i < 6) : ∀ c, halN S a c i = S i := by
  intro p; induction p with
  | zero => rfl
  | succ p ih => rw [halN, hal1, pset_lo h, ih]
theorem goF_lo {S : Nat → Int32} {n i : Nat} (h : i < 4) : goF S n i = S i := by
  unfold goF
  cases fstN (dueB S) n with
  | none => rfl
  | some p =>
    show offF S n p i = S i
    unfold offF; rw [upd_n (by omega), halN_lo (by omega), pset_lo (by omega)]
theorem Gd_mono {S : Nat → Int32} {n : Nat} {d d' : Int} (h : Gd S n d) (hd : d ≤ d') : Gd S n d' := by
  obtain ⟨h1, h2, h3, h4, h5, h6, h7, h8⟩ := h
  exact ⟨h1, h2, h3, h4, h5, ⟨h6.1, by have := h6.2; omega⟩, ⟨by omega, by omega⟩, h8⟩
theorem Gd_ball {S : Nat → Int32} {n : Nat} {d : Int} {v : Int32} (h : Gd S n d) (h1 : -(d + 11) ≤ v.toInt) (h2 : v.toInt ≤ d + 11) : Gd (upd S 2 v) n d := by
  obtain ⟨g1, g2, g3, g4, g5, g6, g7, g8⟩ := h
  exact ⟨g1, by rw [upd_n (by decide)]; exact g2, fun p w hp hw => by rw [pf_upd (by decide)]; exact g3 p w hp hw, by rw [upd_n (by decide)]; exact g4, by rw [upd_n (by decide)]; exact g5, by rw [upd_n (by decide)]; exact g6, by rw [upd_s]; exact ⟨h1, h2⟩, trivial⟩
theorem Gd_mvF {S : Nat → Int32} {n : Nat} {d : Int} (h : Gd S n d) (hd : d < 1000000) (hd0 : 0 ≤ d) : Gd (mvF S n) n (d + 1) := by
  have h' := Gd_mono h (show d ≤ d + 1 by omega)
  have hb := h.2.2.2.2.2.2.1
  have e1 : (1 : Int32).toInt = 1 := rfl
  have e2 : (-1 : Int32).toInt = -1 := rfl
  unfold mvF
  split
  · refine Gd_arrN (Gd_ball h' ?_ ?_) _ h.1 <;> rw [i_add (by omega) (by omega)] <;> omega
  · split
    · refine Gd_arrN (Gd_ball h' ?_ ?_) _ h.1 <;> rw [i_add (by omega) (by omega)] <;> omega
    · exact h'
theorem mvF_0 {S : Nat → Int32} {n i : Nat} (h : i < 6) (h2 : i ≠ 2) : mvF S n i = S i := by
  unfold mvF; split
  · rw [arrN_lo h, upd_n h2]
  · split
    · rw [arrN_lo h, upd_n h2]
    · rfl
theorem Gd_day {S : Nat → Int32} {n : Nat} {d : Int} {v : Int32} (h : Gd S n d) (hv : rg v d) : Gd (upd S 0 v) n d := by
  obtain ⟨g1, g2, g3, g4, g5, g6, g7, g8⟩ := h
  exact ⟨g1, by rw [upd_n (by decide)]; exact g2, fun p w hp hw => by rw [pf_upd (by decide)]; exact g3 p w hp hw, by rw [upd_n (by decide)]; exact g4, by rw [upd_n (by decide)]; exact g5, by rw [upd_s]; exact hv, by rw [upd_n (by decide)]; exact g7, trivial⟩
theorem Gd_dayF {S : Nat → Int32} {n : Nat} {d : Int} (h : Gd S n d) (hd : d < 1000000) : Gd (dayF S n) n (d + 1) := by
  have hd0 : 0 ≤ d := by have := h.2.2.2.2.2.1; unfold rg at this; omega
  have e1 : (1 : Int32).toInt = 1 := rfl
  refine Gd_day (Gd_goF (Gd_ageN (Gd_mvF h hd hd0) _ h.1)) ?_
  have hr := h.2.2.2.2.2.1
  unfold rg at hr ⊢
  rw [i_add (by omega) (by omega)]; omega
theorem Gd_daysF {S : Nat → Int32} {n : Nat} {d : Int} (h : Gd S n d) : ∀ c : Nat, d + c < 1000000 → Gd (daysF S n c) n (d + c) := by
  intro c
  induction c with
  | zero => intro _; rw [show d + ((0 : Nat) : Int) = d by omega]; exact h
  | succ c ih =>
    intro hc
    have := Gd_dayF (ih (by omega)) (by omega)
    rw [show d + ((c + 1 : Nat) : Int) = d + (c : Int) + 1 by omega]
    exact this
theorem hal_max {v : Int32} (h : rg v 99) : (if (1 : Int32) < v / 2 then v / 2 else 1) = if v < 2 then 1 else v / 2 := by
  have e : (v / 2).toInt = v.toInt / 2 := i_div (m := 2) ⟨h.1, by have := h.2; omega⟩ (by decide) (by decide)
  have e1 : (1 : Int32).toInt = 1 := rfl
  have e2 : (2 : Int32).toInt = 2 := rfl
  unfold rg at h
  by_cases h1 : (1 : Int32) < v / 2
  · rw [if_pos h1, if_neg]; rw [i_lt] at h1 ⊢; omega
  · rw [if_neg h1]
    by_cases h2 : v < 2
    · rw [if_pos h2]
    · rw [if_neg h2, i_eq]; rw [i_lt] at h1 h2; omega
theorem abs_dst {a b : Int32} (ha : rg a 11) (hb : -2000000 ≤ b.toInt ∧ b.toInt ≤ 2000000) : (if 0 ≤ a - b then a - b else 0 - (a - b)) = dst a b := by
  unfold rg at ha
  have e0 : (0 : Int32).toInt = 0 := rfl
  have e : (a - b).toInt = a.toInt - b.toInt := i_sub (by omega) (by omega)
  have e2 : (b - a).toInt = b.toInt - a.toInt := i_sub (by omega) (by omega)
  unfold dst
  by_cases h : a < b
  · rw [if_pos h, if_neg (by rw [i_le]; rw [i_lt] at h; omega), i_eq, i_sub (by omega) (by omega)]; omega
  · rw [if_neg h, if_pos (by rw [i_le]; rw [i_lt] at h; omega)]
theorem and1 (x : Int32) : x &&& 1 = 0 ∨ x &&& 1 = 1 := by
  obtain ⟨j, h1, h2⟩ := pk_andE x (m := 1) 1 (by decide)
  rw [h2]
  rcases (show j = 0 ∨ j = 1 by omega) with rfl | rfl
  · exact Or.inl rfl
  · exact Or.inr rfl
theorem kind_c {S : Nat → Int32} {n p : Nat} {d : Int} (h : Gd S n d) (hp : p < 8) : pf S p 0 = 0 ∨ pf S p 0 = 1 ∨ pf S p 0 = 2 ∨ pf S p 0 = 3 ∨ pf S p 0 = 4 ∨ pf S p 0 = 5 ∨ pf S p 0 = 6 := by
  obtain ⟨j, h1, h2⟩ := rg_n (h.2.2.1 p 0 hp (by decide)) (by decide)
  have h1 : (j : Int) ≤ 6 := h1
  rw [h2]
  rcases (show j = 0 ∨ j = 1 ∨ j = 2 ∨ j = 3 ∨ j = 4 ∨ j = 5 ∨ j = 6 by omega) with rfl | rfl | rfl | rfl | rfl | rfl | rfl <;> simp [nI]
theorem sub1 (x : Int32) : x + Int32.ofInt (-1) = x - 1 := by rw [Int32.sub_eq_add_neg]; rfl
theorem pm_nle {a q : Nat} (h : q ≤ a) (ha : a < 1000000) : ¬ nI a ≤ nI q - 1 := by
  have e1 : (1 : Int32).toInt = 1 := rfl
  rw [i_le, i_n (by omega), i_sub (by rw [i_n (by omega)]; omega) (by rw [i_n (by omega)]; omega), i_n (by omega)]; omega
def cntN (c : Nat → Bool) : Nat → Nat
  | 0 => 0
  | n + 1 => cntN c n + (if c n then 1 else 0)
theorem cntN_t {c : Nat → Bool} {n : Nat} (h : c n = true) : cntN c (n + 1) = cntN c n + 1 := by rw [cntN, if_pos h]
theorem cntN_f {c : Nat → Bool} {n : Nat} (h : c n = false) : cntN c (n + 1) = cntN c n := by rw [cntN, h]; rfl
def addS (S : Nat → Int32) (n : Nat) (kind place : Int32) : Nat → Int32 := pset (pset (pset (pset (pset (pset (upd S 1 (S 1 + 1)) n 0 kind) n 1 place) n 2 10) n 3 0) n 4 0) n 5 0
def esp1 (S : Nat → Int32) (v : Int32) (j : Nat) : Nat → Int32 := if S (54 + j) = v then upd S (54 + j) (-1) else S
def espN (S : Nat → Int32) (v : Int32) : Nat → Nat → Int32
  | 0 => S
  | j + 1 => esp1 (espN S v j) v j
/-- n of the outermost of n + 1 pieces are cut off -/
def cutS (S : Nat → Int32) (n : Nat) (v : Int32) : Nat → Int32 := if v < pf S n 2 then pset S n 2 (pf S n 2 - v) else espN (upd S 1 (nI n)) (nI n) 10
def drwZ (z : Int32) : Int32 := z * 1103515245 + 12345
def drwV (z : Int32) : Int32 := ((drwZ z).toUInt32 >>> ((8 : Int32).toUInt32 &&& Int32.toUInt32 31)).toInt32
theorem cpW_end {σ : Hp} {k j : Nat} (hn : j ≠ k) : rset (hset (bset σ k (cpB (σ j) (σ k))) k 5 (bset σ k (cpB (σ j) (σ k)) j 5)) k (54 + 0) 10 (fun i => hset (bset σ k (cpB (σ j) (σ k))) k 5 (bset σ k (cpB (σ j) (σ k)) j 5) j (54 + 0 + i)) = bset σ k (cpW (σ j) (σ k)) := by
  have e1 : bset σ k (cpB (σ j) (σ k)) j = σ j := bset_n hn
  have e2 : ∀ v, hset (bset σ k (cpB (σ j) (σ k))) k 5 v j = σ j := fun v => by rw [hset_e, bset_n hn, e1]
  rw [e1, e2]
  funext b i
  rw [rset_at]
  by_cases hb : b = k
  · subst hb
    rw [hset_at, bset_s, bset_s]
    unfold cpW cpB
    by_cases h1 : i < 54
    · rw [if_neg (by omega), if_neg (show ¬ i = 64 by omega), if_pos (show i < 64 by omega)]
      by_cases h2 : i = 5
      · subst h2; rw [if_pos ⟨rfl, rfl⟩]
      · rw [if_neg (by omega), if_neg (by omega)]
    · by_cases h2 : i < 64
      · rw [if_pos ⟨rfl, by omega, by omega⟩, if_neg (show ¬ i = 64 by omega), if_pos h2]; congr 1; omega
      · rw [if_neg (by omega), if_neg (by omega), if_neg (show ¬ (i = 5 ∨ 54 ≤ i ∧ i ≤ 63) by omega)]
  · rw [if_neg (fun q => hb q.1), hset_at, if_neg (fun q => hb q.1), bset_n hb, bset_n hb]
theorem cpB_end {σ τ : Hp} {k j : Nat} (hn : j ≠ k) (hτ : τ = hset (hset (hset (hset (hset (hset σ k 2 (σ j 2)) k 3 (σ j 3)) k 0 (σ j 0)) k 4 (σ j 4)) k 1 (σ j 1)) k 64 0) : rset τ k (6 + 0) 48 (fun i => σ j (6 + 0 + i)) = bset σ k (cpB (σ j) (σ k)) := by
  funext b i
  rw [rset_at]
  by_cases hb : b = k
  · subst hb
    rw [bset_s]
    by_cases h1 : 6 ≤ i ∧ i < 54
    · rw [if_pos ⟨rfl, by omega, by omega⟩]
      unfold cpB
      rw [if_neg (by omega), if_neg (by omega), if_pos (by omega)]; congr 1; omega
    · rw [if_neg (by omega), hτ]
      simp only [hset_at, true_and]
      unfold cpB
      by_cases h64 : i = 64
      · subst h64; simp
      · by_cases h5 : i = 5
        · subst h5; simp
        · by_cases hl : i < 6
          · rcases (show i = 0 ∨ i = 1 ∨ i = 2 ∨ i = 3 ∨ i = 4 by omega) with rfl | rfl | rfl | rfl | rfl <;> simp
          · rw [if_neg h64, if_neg (by omega), if_neg (by omega), if_neg (by omega), if_neg (by omega), if_neg (by omega)]
            by_cases h6 : i ≤ 63
            · rw [if_pos (Or.inr ⟨by omega, h6⟩)]
            · rw [if_neg (by omega), if_neg h64, if_neg (by omega)]
  · rw [if_neg (fun q => hb q.1), hτ, bset_n hb]; simp only [hset_at]; simp [hb]
