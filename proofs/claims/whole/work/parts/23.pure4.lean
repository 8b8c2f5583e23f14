/-- the parts that days depend on are the same -/
def Bq (S T : Nat → Int32) : Prop := ∀ i, i ≠ 5 → i < 54 ∨ i = 64 → S i = T i
theorem Bq.rf (S : Nat → Int32) : Bq S S := fun _ _ _ => rfl
theorem Bq.sym {S T : Nat → Int32} (h : Bq S T) : Bq T S := fun i h1 h2 => (h i h1 h2).symm
theorem Bq.tr {S T U : Nat → Int32} (h : Bq S T) (g : Bq T U) : Bq S U := fun i h1 h2 => (h i h1 h2).trans (g i h1 h2)
theorem Bq.uq {S T : Nat → Int32} (h : Bq S T) (i : Nat) (v : Int32) : Bq (upd S i v) (upd T i v) := by
  intro j h1 h2; unfold upd; split
  · rfl
  · exact h j h1 h2
theorem Bq.pset {S T : Nat → Int32} (h : Bq S T) (p w : Nat) (v : Int32) : Bq (pset S p w v) (pset T p w v) := Bq.uq h _ v
theorem Bq.pf {S T : Nat → Int32} (h : Bq S T) {p w : Nat} (hp : p < 8) (hw : w < 6) : pf S p w = pf T p w := h _ (by omega) (by omega)
theorem bq_lng {S T : Nat → Int32} (h : Bq S T) {n : Nat} (hn : n ≤ 8) (q : Nat) : lngF S n q = lngF T n q := sumN_congr fun i hi => h.pf (by omega) (by decide)
theorem bq_pul {S T : Nat → Int32} (h : Bq S T) {p : Nat} (hp : p < 8) : pulF S p = pulF T p := by
  unfold pulF rwF bdF
  rw [h.pf hp (w := 0) (by decide), h.pf hp (w := 1) (by decide), h.pf hp (w := 2) (by decide), h.pf hp (w := 3) (by decide), h.pf hp (w := 4) (by decide), h 0 (by decide) (by decide), h 2 (by decide) (by decide)]
theorem bq_flt {S T : Nat → Int32} (h : Bq S T) {n p : Nat} (hn : n ≤ 8) (hp : p < 8) : fltF S n p = fltF T n p := by
  unfold fltF
  rw [h 64 (by decide) (by decide), bq_pul h hp, bq_lng h hn, h.pf hp (w := 3) (by decide), h.pf hp (w := 0) (by decide)]
theorem bq_up {S T : Nat → Int32} (h : Bq S T) {n : Nat} (hn : n ≤ 8) : upF S n = upF T n := sumN_congr fun p hp => by
  rw [h 2 (by decide) (by decide), h.pf (show p < 8 by omega) (w := 1) (by decide), bq_flt h hn (by omega)]
theorem bq_dn {S T : Nat → Int32} (h : Bq S T) {n : Nat} (hn : n ≤ 8) : dnF S n = dnF T n := sumN_congr fun p hp => by
  rw [h 2 (by decide) (by decide), h.pf (show p < 8 by omega) (w := 1) (by decide), bq_flt h hn (by omega)]
theorem bq_arr1 {S T : Nat → Int32} (h : Bq S T) {p : Nat} (hp : p < 8) : Bq (arr1 S p) (arr1 T p) := by
  unfold arr1
  rw [h 2 (by decide) (by decide), h.pf hp (w := 1) (by decide), h.pf hp (w := 5) (by decide), h.pf hp (w := 3) (by decide)]
  split
  · exact (h.pset _ _ _).pset _ _ _
  · exact h
theorem bq_arrN {S T : Nat → Int32} (h : Bq S T) : ∀ p, p ≤ 8 → Bq (arrN S p) (arrN T p) := by
  intro p; induction p with
  | zero => intro _; exact h
  | succ p ih => intro hp; exact bq_arr1 (ih (by omega)) (by omega)
theorem bq_ageN {S T : Nat → Int32} (h : Bq S T) : ∀ p, p ≤ 8 → Bq (ageN S p) (ageN T p) := by
  intro p; induction p with
  | zero => intro _; exact h
  | succ p ih =>
    intro hp
    have h2 := ih (by omega)
    unfold ageN age1
    rw [h2.pf (show p < 8 by omega) (w := 4) (by decide)]
    exact h2.pset _ _ _
theorem bq_halN {S T : Nat → Int32} (h : Bq S T) {a : Nat} : ∀ c, a + c ≤ 8 → Bq (halN S a c) (halN T a c) := by
  intro c; induction c with
  | zero => intro _; exact h
  | succ c ih =>
    intro hc
    have h2 := ih (by omega)
    unfold halN hal1
    rw [h2.pf (show a + c < 8 by omega) (w := 2) (by decide)]
    exact h2.pset _ _ _
theorem bq_due {S T : Nat → Int32} (h : Bq S T) {p : Nat} (hp : p < 8) : dueB S p = dueB T p := by
  unfold dueB; rw [h.pf hp (w := 0) (by decide), h.pf hp (w := 4) (by decide)]
theorem fstN_congr {c c' : Nat → Bool} : ∀ {n : Nat}, (∀ i, i < n → c i = c' i) → fstN c n = fstN c' n := by
  intro n; induction n with
  | zero => intro _; rfl
  | succ n ih => intro h; unfold fstN; rw [ih (fun i hi => h i (by omega)), h n (by omega)]
theorem bq_go {S T : Nat → Int32} (h : Bq S T) {n : Nat} (hn : n ≤ 8) : Bq (goF S n) (goF T n) := by
  unfold goF
  rw [fstN_congr (c := dueB S) (c' := dueB T) (n := n) fun i hi => bq_due h (by omega)]
  cases hf : fstN (dueB T) n with
  | none => exact h
  | some p =>
    have hp := fstN_lt hf
    show Bq (offF S n p) (offF T n p)
    unfold offF
    rw [h 4 (by decide) (by decide)]
    exact (bq_halN (h.pset _ _ _) _ (by omega)).uq _ _
theorem bq_mv {S T : Nat → Int32} (h : Bq S T) {n : Nat} (hn : n ≤ 8) : Bq (mvF S n) (mvF T n) := by
  unfold mvF
  rw [bq_up h hn, bq_dn h hn, h 3 (by decide) (by decide), h 2 (by decide) (by decide)]
  split
  · exact bq_arrN (h.uq _ _) _ hn
  · split
    · exact bq_arrN (h.uq _ _) _ hn
    · exact h
theorem bq_day {S T : Nat → Int32} (h : Bq S T) {n : Nat} (hn : n ≤ 8) : Bq (dayF S n) (dayF T n) := by
  unfold dayF
  rw [h 0 (by decide) (by decide)]
  exact (bq_go (bq_ageN (bq_mv h hn) _ hn) hn).uq _ _
theorem bq_days {S T : Nat → Int32} (h : Bq S T) {n : Nat} (hn : n ≤ 8) : ∀ c, Bq (daysF S n c) (daysF T n c) := by
  intro c; induction c with
  | zero => exact h
  | succ c ih => exact bq_day ih hn
theorem cpB_q (S T : Nat → Int32) (h : S 64 = 0) : Bq (cpB S T) S := by
  intro i h1 h2; unfold cpB
  rw [if_neg (by omega)]
  by_cases e : i = 64
  · rw [if_pos e, e, h]
  · rw [if_neg e, if_pos (by omega)]
theorem cpB_G {S T : Nat → Int32} {n : Nat} {d : Int} (h : Gd S n d) : Gd (cpB S T) n d := by
  obtain ⟨h1, h2, h3, h4, h5, h6, h7, h8⟩ := h
  refine ⟨h1, h2, fun p w hp hw => ?_, h4, h5, h6, h7, trivial⟩
  · have e : pf (cpB S T) p w = pf S p w := by unfold pf cpB; rw [if_neg (by omega), if_neg (by omega), if_pos (by omega)]
    rw [e]; exact h3 p w hp hw
-- what days leave
theorem arr1_hi {S : Nat → Int32} {p i : Nat} (hp : p < 8) (h : 54 ≤ i) : arr1 S p i = S i := by
  unfold arr1; split
  · rw [pset_hi hp (by decide) h, pset_hi hp (by decide) h]
  · rfl
theorem arrN_hi {S : Nat → Int32} {i : Nat} (h : 54 ≤ i) : ∀ p, p ≤ 8 → arrN S p i = S i := by
  intro p; induction p with
  | zero => intro _; rfl
  | succ p ih => intro hp; rw [arrN, arr1_hi (by omega) h, ih (by omega)]
theorem ageN_hi {S : Nat → Int32} {i : Nat} (h : 54 ≤ i) : ∀ p, p ≤ 8 → ageN S p i = S i := by
  intro p; induction p with
  | zero => intro _; rfl
  | succ p ih => intro hp; rw [ageN, age1, pset_hi (by omega) (by decide) h, ih (by omega)]
theorem halN_hi {S : Nat → Int32} {a i : Nat} (h : 54 ≤ i) : ∀ c, a + c ≤ 8 → halN S a c i = S i := by
  intro c; induction c with
  | zero => intro _; rfl
  | succ c ih => intro hp; rw [halN, hal1, pset_hi (by omega) (by decide) h, ih (by omega)]
theorem goF_hi {S : Nat → Int32} {n i : Nat} (hn : n ≤ 8) (h : 54 ≤ i) : goF S n i = S i := by
  unfold goF
  cases hf : fstN (dueB S) n with
  | none => rfl
  | some p =>
    have hp := fstN_lt hf
    show offF S n p i = S i
    unfold offF; rw [upd_n (by omega), halN_hi h _ (by omega), pset_hi (by omega) (by decide) h]
theorem mvF_hi {S : Nat → Int32} {n i : Nat} (hn : n ≤ 8) (h : 54 ≤ i) : mvF S n i = S i := by
  unfold mvF; split
  · rw [arrN_hi h _ hn, upd_n (by omega)]
  · split
    · rw [arrN_hi h _ hn, upd_n (by omega)]
    · rfl
theorem dayF_hi {S : Nat → Int32} {n i : Nat} (hn : n ≤ 8) (h : 54 ≤ i) : dayF S n i = S i := by
  unfold dayF; rw [upd_n (by omega), goF_hi hn h, ageN_hi h _ hn, mvF_hi hn h]
theorem dayF_5 {S : Nat → Int32} {n : Nat} : dayF S n 5 = S 5 := by
  unfold dayF; rw [upd_n (by decide)]
  have e : goF (ageN (mvF S n) n) n 5 = ageN (mvF S n) n 5 := by
    unfold goF
    cases fstN (dueB (ageN (mvF S n) n)) n with
    | none => rfl
    | some p => show offF _ n p 5 = _; unfold offF; rw [upd_n (by decide), halN_lo (by decide), pset_lo (by decide)]
  rw [e, ageN_lo (by decide), mvF_0 (by decide) (by decide)]
theorem daysF_hi {S : Nat → Int32} {n i : Nat} (hn : n ≤ 8) (h : 54 ≤ i) : ∀ c, daysF S n c i = S i := by
  intro c; induction c with
  | zero => rfl
  | succ c ih => rw [daysF, dayF_hi hn h, ih]
/-- the reference's trial is taken back whole -/
theorem back_eq {S T U : Nat → Int32} (h : ∀ i, 64 ≤ i → T i = S i) : cpN (cpN S U 64) T 64 = S := by
  funext i; unfold cpN
  by_cases hi : i < 64
  · rw [if_pos hi, if_pos hi]
  · rw [if_neg hi, h i (by omega)]
