def wghT (σ : Hp) (k : Nat) (u d : Int32) : Hp := bset σ (16 + k) (upd (upd (σ (16 + k)) 0 u) 1 d)
theorem wgh_k {σ : Hp} {k : Nat} {u d : Int32} (hk : k < 3) : wghT σ k u d k = σ k := bset_n (by omega)
theorem wgh_u {σ : Hp} {k : Nat} {u d : Int32} : wghT σ k u d (16 + k) 0 = u := by unfold wghT; rw [bset_s, upd_n (by decide), upd_s]
theorem wgh_d {σ : Hp} {k : Nat} {u d : Int32} : wghT σ k u d (16 + k) 1 = d := by unfold wghT; rw [bset_s, upd_s]
theorem wgh_up {σ : Hp} {k : Nat} {u d v : Int32} : hset (wghT σ k u d) (16 + k) 0 v = wghT σ k v d := by
  unfold wghT; rw [hset_e, bset_s, bset_bset]; congr 1; funext i; unfold upd; by_cases h0 : i = 0 <;> by_cases h1 : i = 1 <;> simp [h0, h1]
theorem wgh_dn {σ : Hp} {k : Nat} {u d v : Int32} : hset (wghT σ k u d) (16 + k) 1 v = wghT σ k u v := by
  unfold wghT; rw [hset_e, bset_s, bset_bset]; congr 1; funext i; unfold upd; by_cases h1 : i = 1 <;> simp [h1]
theorem wgh_0 {σ : Hp} {k : Nat} {u d : Int32} : hset (hset σ (16 + k) 0 u) (16 + k) 1 d = wghT σ k u d := by
  unfold wghT; rw [hset_e, hset_e, bset_s, bset_bset]
theorem wgh_b {σ : Hp} {k b : Nat} {u d : Int32} (h : b ≠ 16 + k) : wghT σ k u d b = σ b := bset_n h
def dayT (σ : Hp) (k n : Nat) : Hp := bset (wghT σ k (upF (σ k) n) (dnF (σ k) n)) k (dayF (σ k) n)
def daysT (σ : Hp) (k n : Nat) : Nat → Hp
  | 0 => σ
  | c + 1 => dayT (daysT σ k n c) k n
theorem daysT_k (σ : Hp) (k n : Nat) : ∀ c, daysT σ k n c k = daysF (σ k) n c := by
  intro c; induction c with
  | zero => rfl
  | succ c ih => rw [daysT, dayT, bset_s, ih]; rfl
theorem daysT_b (σ : Hp) (k n : Nat) {b : Nat} (h1 : b ≠ k) (h2 : b ≠ 16 + k) : ∀ c, daysT σ k n c b = σ b := by
  intro c; induction c with
  | zero => rfl
  | succ c ih => rw [daysT, dayT, bset_n h1, wgh_b h2, ih]
theorem min_held (y m : Int32) : (if y < m then y else m) = heldF y m := by
  unfold heldF
  by_cases h : y < m
  · rw [if_pos h, if_neg]; rw [i_lt] at h ⊢; omega
  · rw [if_neg h]
    by_cases h2 : m < y
    · rw [if_pos h2]
    · rw [if_neg h2, i_eq]; rw [i_lt] at h h2; omega
theorem fstN_first {c : Nat → Bool} {p : Nat} (h : fstN c p = none) (hc : c p = true) : ∀ d, fstN c (p + 1 + d) = some p := by
  intro d
  induction d with
  | zero => show fstN c (p + 1) = some p; rw [fstN, h]; simp [hc]
  | succ d ih => rw [show p + 1 + (d + 1) = (p + 1 + d) + 1 by omega, fstN, ih]
theorem fstN_none {c : Nat → Bool} {p : Nat} (h : fstN c p = none) (hc : c p = false) : fstN c (p + 1) = none := by rw [fstN, h]; simp [hc]
def oI : Option Nat → Int32
  | none => -1
  | some b => nI b
def mstN (S : Nat → Int32) (n : Nat) : Nat → Option Nat
  | 0 => none
  | j + 1 => match mstN S n j with
    | none => some j
    | some b => if fltF S n b < fltF S n j then some j else some b
theorem mstN_lt {S : Nat → Int32} {n : Nat} : ∀ {j b : Nat}, mstN S n j = some b → b < j := by
  intro j; induction j with
  | zero => intro b h; cases h
  | succ j ih =>
    intro b h
    unfold mstN at h
    split at h
    · cases h; omega
    · rename_i q hq
      have := ih hq
      split at h <;> cases h <;> omega
def plsN (S : Nat → Int32) : Nat → Int32
  | 0 => 0
  | p + 1 => plsN S p ||| ((1 : Int32) <<< (pf S p 1 &&& 31))
theorem mx0_rg (x : Int32) : 0 ≤ (mx0 x).toInt := by
  unfold mx0
  have e0 : (0 : Int32).toInt = 0 := rfl
  split
  · omega
  · rename_i h; rw [i_lt] at h; omega
theorem flt_rg (S : Nat → Int32) (n p : Nat) : 0 ≤ (fltF S n p).toInt := by
  unfold fltF; split
  · decide
  · exact mx0_rg _
theorem pul_0 {S : Nat → Int32} {p : Nat} (h : pf S p 0 = 0) : pulF S p = pf S p 2 := by unfold pulF; rw [h]; simp
theorem pul_1 {S : Nat → Int32} {p : Nat} (h : pf S p 0 = 1) : pulF S p = pf S p 2 + pf S p 4 := by unfold pulF; rw [h]; simp
theorem pul_2 {S : Nat → Int32} {p : Nat} (h : pf S p 0 = 2) : pulF S p = bdF S p := by unfold pulF; rw [h]; simp
theorem pul_3 {S : Nat → Int32} {p : Nat} (h : pf S p 0 = 3) : pulF S p = rwF S p := by unfold pulF; rw [h]; simp
theorem pul_4 {S : Nat → Int32} {p : Nat} (h : pf S p 0 = 4) : pulF S p = rwF S p + 5 * dst (pf S p 1) (S 2) := by unfold pulF; rw [h]; simp
theorem pul_5 {S : Nat → Int32} {p : Nat} (h : pf S p 0 = 5) : pulF S p = pf S p 2 / 2 := by unfold pulF; rw [h]; simp
theorem pul_6 {S : Nat → Int32} {p : Nat} (h : pf S p 0 = 6) : pulF S p = 2 * (pf S p 2 + pf S p 4) := by unfold pulF; rw [h]; simp
theorem wgh_id {σ : Hp} {k : Nat} {u d : Int32} (hk : k < 3) : bset (wghT σ k u d) k (σ k) = wghT σ k u d := by
  have h := bset_id (wghT σ k u d) k
  rw [wgh_k hk] at h
  exact h
