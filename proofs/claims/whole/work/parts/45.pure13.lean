/-! ===== items keep the bounds; they touch nothing from place 54 on, and ask for nothing there ===== -/
theorem Gd_addS {S : Nat → Int32} {n : Nat} {d : Int} {k q : Int32} (h : Gd S n d) (hn : n < 8) (hk : rg k 6) (hq : rg q 11) : Gd (addS S n k q) (n + 1) d := by
  have h1 : Gd (upd S 1 (S 1 + 1)) (n + 1) d := by
    obtain ⟨g1, g2, g3, g4, g5, g6, g7, g8⟩ := h
    exact ⟨by omega, by rw [upd_s, g2, nI_1], fun p w hp hw => by rw [pf_upd (by decide)]; exact g3 p w hp hw, by rw [upd_n (by decide)]; exact g4, by rw [upd_n (by decide)]; exact g5, by rw [upd_n (by decide)]; exact g6, by rw [upd_n (by decide)]; exact g7, trivial⟩
  unfold addS
  exact Gd_pset (Gd_pset (Gd_pset (Gd_pset (Gd_pset (Gd_pset h1 hn (by decide) hk) hn (by decide) hq) hn (by decide) ⟨by decide, by decide⟩) hn (by decide) ⟨by decide, by decide⟩) hn (by decide) ⟨by decide, by decide⟩) hn (by decide) ⟨by decide, by decide⟩
def Hi (S T : Nat → Int32) : Prop := ∀ i, 54 ≤ i → T i = S i
theorem Hi.rf (S : Nat → Int32) : Hi S S := fun _ _ => rfl
theorem Hi.tr {S T U : Nat → Int32} (h : Hi S T) (g : Hi T U) : Hi S U := fun i hi => (g i hi).trans (h i hi)
theorem Hi.pset {S T : Nat → Int32} (h : Hi S T) {p w : Nat} {v : Int32} (hp : p < 8) (hw : w < 6) : Hi S (pset T p w v) := fun i hi => by rw [pset_hi hp hw hi]; exact h i hi
theorem Hi.uq {S T : Nat → Int32} (h : Hi S T) {j : Nat} {v : Int32} (hj : j < 54) : Hi S (upd T j v) := fun i hi => by rw [upd_n (by omega)]; exact h i hi
theorem Hi_addS (S : Nat → Int32) {n : Nat} (k q : Int32) (hn : n < 8) : Hi S (addS S n k q) := by
  unfold addS
  exact ((((((Hi.rf S).uq (by decide)).pset hn (by decide)).pset hn (by decide)).pset hn (by decide)).pset hn (by decide)).pset hn (by decide) |>.pset hn (by decide)
theorem thn_P {r : Bool × (Nat → Int32) × Nat} {f : (Nat → Int32) → Nat → Bool × (Nat → Int32) × Nat} {P : (Nat → Int32) → Prop} (h : P r.2.1) (hf : ∀ S s, P S → P (f S s).2.1) : P (thn r f).2.1 := by
  unfold thn; split
  · exact hf _ _ h
  · exact h
theorem facR_P {w : List Int32} {lo hi : Int32} {B : Nat → Int32} {t p k s : Nat} {S : Nat → Int32} {P : (Nat → Int32) → Prop} (h : P S) (hp : ∀ v, 0 ≤ v.toInt → lo ≤ v → v ≤ hi → P (pset S p k v)) : P (facR w lo hi B t p k S s).2.1 := by
  unfold facR
  split
  · split
    · rename_i hc
      have hc := (of_decide_eq_true hc).2
      exact hp _ (by rw [i_n (by have := nmV_le B t (nx B t s); omega)]; omega) hc.1 hc.2
    · exact h
  · exact h
theorem prt_P {B : Nat → Int32} {t p s : Nat} {S : Nat → Int32} {P : (Nat → Int32) → Prop} (h : P S) (h1 : ∀ S v, P S → rg v 11 → P (pset S p 1 v)) (h2 : ∀ S v, P S → rg v 99 → P (pset S p 2 v)) (h3 : ∀ S v, P S → rg v 9 → P (pset S p 3 v)) : P (prtR B t p S s).2.1 := by
  unfold prtR
  refine thn_P (thn_P (facR_P h (fun v a _ c => h1 _ v h ⟨a, i_le.mp c⟩)) (fun S s hS => facR_P hS (fun v a _ c => h2 _ v hS ⟨a, i_le.mp c⟩))) (fun S s hS => facR_P hS (fun v a _ c => h3 _ v hS ⟨a, i_le.mp c⟩))
theorem num_P {lo hi : Int32} {i : Nat} {B : Nat → Int32} {t s : Nat} {S : Nat → Int32} {P : (Nat → Int32) → Prop} (h : P S) (hp : ∀ v, 0 ≤ v.toInt → v ≤ hi → P (upd S i v)) : P (numR lo hi i B t S s).2.1 := by
  unfold numR
  split
  · rename_i hc
    have hc := (of_decide_eq_true hc).2
    exact hp _ (by rw [i_n (by have := nmV_le B t s; omega)]; omega) hc.2
  · exact h
theorem kd_lt {B : Nat → Int32} {t s k : Nat} (h : kdN B t s = some k) : k < 7 := fstN_lt h
theorem itm_Hi {B : Nat → Int32} {t n s : Nat} {S : Nat → Int32} (hn : n ≤ 8) : Hi S (itmR B t S n s).2.1 := by
  unfold itmR
  split
  · unfold pieR
    split
    · exact Hi.rf S
    · have hn8 : n < 8 := by omega
      exact prt_P (P := Hi S) (Hi_addS S _ _ hn8) (fun T v h _ => h.pset hn8 (by decide)) (fun T v h _ => h.pset hn8 (by decide)) (fun T v h _ => h.pset hn8 (by decide))
  · split
    · exact num_P (P := Hi S) (Hi.rf S) (fun v _ _ => (Hi.rf S).uq (by decide))
    · split
      · exact num_P (P := Hi S) (Hi.rf S) (fun v _ _ => (Hi.rf S).uq (by decide))
      · exact Hi.rf S
theorem itm_G {B : Nat → Int32} {t n s : Nat} {S : Nat → Int32} {d : Int} (h : Gd S n d) (hd : 0 ≤ d) : Gd (itmR B t S n s).2.1 (itmN B t n s) d := by
  have hn := h.1
  unfold itmR itmN
  split
  · rename_i k hk
    have hk7 := kd_lt hk
    unfold pieR
    by_cases h8 : n = 8
    · rw [if_pos h8, if_pos h8]; exact h
    · rw [if_neg h8, if_neg h8]
      have hn8 : n < 8 := by omega
      exact prt_P (P := fun T => Gd T (n + 1) d) (Gd_addS h hn8 (n_rg (by omega) (by decide)) ⟨by decide, by decide⟩) (fun T v g hv => Gd_pset g hn8 (by decide) hv) (fun T v g hv => Gd_pset g hn8 (by decide) hv) (fun T v g hv => Gd_pset g hn8 (by decide) hv)
  · split
    · exact num_P (P := fun T => Gd T n d) h (fun v a c => Gd_ball h (by omega) (by have := i_le.mp c; have e : (11 : Int32).toInt = 11 := rfl; omega))
    · split
      · exact num_P (P := fun T => Gd T n d) h (fun v a c => Gd_drag h ⟨a, i_le.mp c⟩)
      · exact h
theorem itmN_le {B : Nat → Int32} {t n s : Nat} (h : n ≤ 8) : itmN B t n s ≤ 8 := by
  unfold itmN; split
  · split <;> omega
  · exact h
theorem rd_G {B : Nat → Int32} {t : Nat} {d : Int} (hd : 0 ≤ d) : ∀ (f : Nat) (S : Nat → Int32) (n s it : Nat), Gd S n d → Gd (rdR B t f S n s it).2.1 (rdR B t f S n s it).2.2.2.1 d ∧ Hi S (rdR B t f S n s it).2.1 := by
  intro f
  induction f with
  | zero => intro S n s it h; exact ⟨h, Hi.rf S⟩
  | succ f ih =>
    intro S n s it h
    have g := itm_G (B := B) (t := t) (s := s) h hd
    have g2 := itm_Hi (B := B) (t := t) (s := s) (S := S) h.1
    rw [rdR]
    split
    · split
      · split
        · have := ih (itmR B t S n s).2.1 (itmN B t n s) (nx B t (itmR B t S n s).2.2) (it + 1) g
          exact ⟨this.1, g2.tr this.2⟩
        · exact ⟨g, g2⟩
      · exact ⟨g, g2⟩
    · exact ⟨g, g2⟩
theorem tx_G {B : Nat → Int32} {t n : Nat} {S : Nat → Int32} {d : Int} (h : Gd S n d) (hd : 0 ≤ d) : Gd (txS B t S n) (txN B t S n) d := by
  unfold txS txN
  split
  · exact (rd_G hd _ _ _ _ _ h).1
  · exact h
theorem tx_Hi {B : Nat → Int32} {t n : Nat} {S : Nat → Int32} {d : Int} (h : Gd S n d) (hd : 0 ≤ d) : Hi S (txS B t S n) := by
  unfold txS
  split
  · exact (rd_G hd _ _ _ _ _ h).2
  · exact Hi.rf S
/-- two banks that agree below 54 -/
def Ql (S T : Nat → Int32) : Prop := ∀ i, i < 54 → S i = T i
theorem Ql.uq {S T : Nat → Int32} (h : Ql S T) (j : Nat) (v : Int32) : Ql (upd S j v) (upd T j v) := by
  intro i hi; unfold upd; split
  · rfl
  · exact h i hi
def Q3 (r q : Bool × (Nat → Int32) × Nat) : Prop := r.1 = q.1 ∧ Ql r.2.1 q.2.1 ∧ r.2.2 = q.2.2
theorem thn_Q {r q : Bool × (Nat → Int32) × Nat} {f : (Nat → Int32) → Nat → Bool × (Nat → Int32) × Nat} (h : Q3 r q) (hf : ∀ S T s, Ql S T → Q3 (f S s) (f T s)) : Q3 (thn r f) (thn q f) := by
  obtain ⟨h1, h2, h3⟩ := h
  unfold thn
  rw [h1, h3]
  split
  · exact hf _ _ _ h2
  · exact ⟨h1, h2, h3⟩
theorem facR_Q {w : List Int32} {lo hi : Int32} {B : Nat → Int32} {t p k s : Nat} {S T : Nat → Int32} (h : Ql S T) : Q3 (facR w lo hi B t p k S s) (facR w lo hi B t p k T s) := by
  unfold facR
  split
  · split
    · exact ⟨rfl, h.uq _ _, rfl⟩
    · exact ⟨rfl, h, rfl⟩
  · exact ⟨rfl, h, rfl⟩
theorem itm_Q {B : Nat → Int32} {t n s : Nat} {S T : Nat → Int32} (h : Ql S T) : Q3 (itmR B t S n s) (itmR B t T n s) := by
  unfold itmR
  split
  · unfold pieR
    split
    · exact ⟨rfl, h, rfl⟩
    · unfold prtR
      refine thn_Q (thn_Q (facR_Q ?_) (fun S T s h => facR_Q h)) (fun S T s h => facR_Q h)
      unfold addS
      rw [h 1 (by decide)]
      exact ((((((h.uq _ _).uq _ _).uq _ _).uq _ _).uq _ _).uq _ _).uq _ _
  · have key : ∀ lo hi i s, Q3 (numR lo hi i B t S s) (numR lo hi i B t T s) := by
      intro lo hi i s
      unfold numR
      split
      · exact ⟨rfl, h.uq _ _, rfl⟩
      · exact ⟨rfl, h, rfl⟩
    split
    · exact key _ _ _ _
    · split
      · exact key _ _ _ _
      · exact ⟨rfl, h, rfl⟩
theorem rd_Q {B : Nat → Int32} {t : Nat} : ∀ (f : Nat) (S T : Nat → Int32) (n s it : Nat), Ql S T → (rdR B t f S n s it).1 = (rdR B t f T n s it).1 ∧ Ql (rdR B t f S n s it).2.1 (rdR B t f T n s it).2.1 ∧ (rdR B t f S n s it).2.2 = (rdR B t f T n s it).2.2 := by
  intro f
  induction f with
  | zero => intro S T n s it h; exact ⟨rfl, h, rfl⟩
  | succ f ih =>
    intro S T n s it h
    obtain ⟨h1, h2, h3⟩ := itm_Q (B := B) (t := t) (n := n) (s := s) h
    rw [rdR, rdR, ← h1, ← h3]
    split
    · split
      · split
        · exact ih _ _ _ _ _ h2
        · exact ⟨rfl, h2, rfl⟩
      · exact ⟨rfl, h2, rfl⟩
    · exact ⟨rfl, h2, rfl⟩
/-- what is read into a trial of all of S comes back as if it had been read into S itself -/
theorem tx_back {B : Nat → Int32} {t n : Nat} {S U : Nat → Int32} {d : Int} (h : Gd S n d) (hd : 0 ≤ d) (h64 : S 64 = 0) (hok : (txR B t (cpW S U) n).1 = true) : cpW (txR B t (cpW S U) n).2.1 S = txS B t S n ∧ txV B t (cpW S U) n = txV B t S n := by
  have hq : Ql (cpW S U) S := fun i hi => by unfold cpW; rw [if_neg (by omega), if_pos (by omega)]
  have hG : Gd (cpW S U) n d := by
    obtain ⟨g1, g2, g3, g4, g5, g6, g7, g8⟩ := h
    have e : ∀ i, i < 54 → cpW S U i = S i := hq
    exact ⟨g1, by rw [e 1 (by decide)]; exact g2, fun p w hp hw => by unfold pf; rw [e _ (by omega)]; exact g3 p w hp hw, by rw [e 3 (by decide)]; exact g4, by rw [e 4 (by decide)]; exact g5, by rw [e 0 (by decide)]; exact g6, by rw [e 2 (by decide)]; exact g7, trivial⟩
  obtain ⟨q1, q2, q3⟩ := rd_Q (B := B) (t := t) (t + 1) _ _ n (tS B t 0) 1 hq
  have hi1 := (rd_G (B := B) (t := t) hd (t + 1) _ n (tS B t 0) 1 hG).2
  have hi2 := (rd_G (B := B) (t := t) hd (t + 1) _ n (tS B t 0) 1 h).2
  have q1 : (txR B t (cpW S U) n).1 = (txR B t S n).1 := q1
  constructor
  · unfold txS
    rw [if_pos (by rw [← q1]; exact hok)]
    funext i
    by_cases h54 : i < 54
    · have e := q2 i h54
      unfold cpW
      rw [if_neg (by omega), if_pos (by omega)]
      exact e
    · have e1 := hi1 i (by omega)
      have e2 := hi2 i (by omega)
      have e2 : (txR B t S n).2.1 i = S i := e2
      rw [e2]
      by_cases h9 : i = 64
      · rw [h9, h64]; rfl
      · by_cases h10 : i < 64
        · have e3 : cpW (txR B t (cpW S U) n).2.1 S i = (txR B t (cpW S U) n).2.1 i := by
            show (if i = 64 then 0 else if i < 64 then _ else _) = _
            rw [if_neg h9, if_pos h10]
          rw [e3]
          have e1 : (txR B t (cpW S U) n).2.1 i = cpW S U i := e1
          rw [e1]
          unfold cpW; rw [if_neg h9, if_pos h10]
        · show (if i = 64 then 0 else if i < 64 then _ else _) = _
          rw [if_neg h9, if_neg h10]
  · unfold txV txA
    have q3 : (txR B t (cpW S U) n).2.2 = (txR B t S n).2.2 := q3
    rw [q1, q3]
theorem tx_bad {B : Nat → Int32} {t n : Nat} {S U : Nat → Int32} (hok : ¬ (txR B t (cpW S U) n).1 = true) : txS B t S n = S ∧ txV B t (cpW S U) n = txV B t S n := by
  have hq : Ql (cpW S U) S := fun i hi => by unfold cpW; rw [if_neg (by omega), if_pos (by omega)]
  obtain ⟨q1, q2, q3⟩ := rd_Q (B := B) (t := t) (t + 1) _ _ n (tS B t 0) 1 hq
  have q1 : (txR B t (cpW S U) n).1 = (txR B t S n).1 := q1
  have q3 : (txR B t (cpW S U) n).2.2 = (txR B t S n).2.2 := q3
  constructor
  · unfold txS; rw [if_neg (by rw [← q1]; exact hok)]
  · unfold txV txA; rw [q1, q3]
