/-! ===== what the methods answer and do: plain functions of a bank S (0 DAY, 1 MANY, 2 BALL, 3 DRAG, 4 OFF, 5 z, 6.. PIECES of six, 54.. SPOTS, 64 loose) ===== -/
def bI (c : Prop) [Decidable c] : Int32 := if c then 1 else 0
theorem bI_t {c : Prop} [Decidable c] (h : c) : (1 : Int32) = bI c := (if_pos h).symm
theorem bI_f {c : Prop} [Decidable c] (h : ¬ c) : (0 : Int32) = bI c := (if_neg h).symm
theorem bI_nar (c : Prop) [Decidable c] : narrow .boolean (.int (bI c)) = .int (bI c) := by unfold bI; split <;> rfl
theorem bI_0 {c : Prop} [Decidable c] : bI c = 0 ↔ ¬ c := by unfold bI; split <;> simp_all
theorem bI_01 (c : Prop) [Decidable c] : bI c = 0 ∨ bI c = 1 := by unfold bI; split <;> simp
def pf (S : Nat → Int32) (p w : Nat) : Int32 := S (6 + (6 * p + w))
def sumN (f : Nat → Int32) : Nat → Int32
  | 0 => 0
  | n + 1 => sumN f n + f n
def mx0 (x : Int32) : Int32 := if x < 0 then 0 else x
def dst (a b : Int32) : Int32 := if a < b then b - a else a - b
def heldF (v m : Int32) : Int32 := if m < v then m else v
def lngF (S : Nat → Int32) (n p : Nat) : Int32 := sumN (fun i => pf S (p + i) 2) (n - p)
def bdF (S : Nat → Int32) (p : Nat) : Int32 := if S 0 - S 0 / 7 * 7 = 0 then 3 * pf S p 2 else pf S p 2
def rwF (S : Nat → Int32) (p : Nat) : Int32 := mx0 (bdF S p - pf S p 3)
def pulF (S : Nat → Int32) (p : Nat) : Int32 :=
  if pf S p 0 = 1 then pf S p 2 + pf S p 4
  else if pf S p 0 = 2 then bdF S p
  else if pf S p 0 = 3 then rwF S p
  else if pf S p 0 = 4 then rwF S p + 5 * dst (pf S p 1) (S 2)
  else if pf S p 0 = 5 then pf S p 2 / 2
  else if pf S p 0 = 6 then 2 * (pf S p 2 + pf S p 4)
  else pf S p 2
def lasF (k : Int32) : Int32 := if k = 1 then 30 else if k = 6 then 10 else 0
def givF (k : Int32) : Int32 := if k = 5 then 5 else if k = 3 then 2 else if k = 4 then 3 else 0
def fltF (S : Nat → Int32) (n p : Nat) : Int32 := if (S 64 >>> (nI p &&& 31)) &&& 1 = 1 then 0 else mx0 (pulF S p - lngF S n (p + 1) / 10 - mx0 (pf S p 3 - givF (pf S p 0)))
def upF (S : Nat → Int32) (n : Nat) : Int32 := sumN (fun p => if S 2 < pf S p 1 then fltF S n p else 0) n
def dnF (S : Nat → Int32) (n : Nat) : Int32 := sumN (fun p => if pf S p 1 < S 2 then fltF S n p else 0) n
def tooF (S : Nat → Int32) (n : Nat) (to : Int32) : Int32 := sumN (fun p => if pf S p 1 = to then fltF S n p else 0) n
def pset (S : Nat → Int32) (p w : Nat) (v : Int32) : Nat → Int32 := upd S (6 + (6 * p + w)) v
def arr1 (S : Nat → Int32) (p : Nat) : Nat → Int32 := if pf S p 1 = S 2 then pset (pset S p 5 (heldF (pf S p 5 + 1) 9999)) p 3 (heldF (pf S p 3 + 1) 9) else S
def arrN (S : Nat → Int32) : Nat → Nat → Int32
  | 0 => S
  | p + 1 => arr1 (arrN S p) p
def age1 (S : Nat → Int32) (p : Nat) : Nat → Int32 := pset S p 4 (heldF (pf S p 4 + 1) 9999)
def ageN (S : Nat → Int32) : Nat → Nat → Int32
  | 0 => S
  | p + 1 => age1 (ageN S p) p
def dueB (S : Nat → Int32) (p : Nat) : Bool := decide (0 < lasF (pf S p 0) ∧ lasF (pf S p 0) ≤ pf S p 4)
def fstN (c : Nat → Bool) : Nat → Option Nat
  | 0 => none
  | n + 1 => match fstN c n with
    | some p => some p
    | none => if c n then some n else none
def hal1 (S : Nat → Int32) (o : Nat) : Nat → Int32 := pset S o 2 (if pf S o 2 < 2 then 1 else pf S o 2 / 2)
def halN (S : Nat → Int32) (a : Nat) : Nat → Nat → Int32
  | 0 => S
  | c + 1 => hal1 (halN S a c) (a + c)
def offF (S : Nat → Int32) (n p : Nat) : Nat → Int32 := upd (halN (pset S p 4 0) (p + 1) (n - (p + 1))) 4 (heldF (S 4 + 1) 99999)
def goF (S : Nat → Int32) (n : Nat) : Nat → Int32 := match fstN (dueB S) n with
  | none => S
  | some p => offF S n p
def mvF (S : Nat → Int32) (n : Nat) : Nat → Int32 := if dnF S n + S 3 < upF S n then arrN (upd S 2 (S 2 + 1)) n else if upF S n + S 3 < dnF S n then arrN (upd S 2 (S 2 + -1)) n else S
def dayF (S : Nat → Int32) (n : Nat) : Nat → Int32 := upd (goF (ageN (mvF S n) n) n) 0 (S 0 + 1)
def daysF (S : Nat → Int32) (n : Nat) : Nat → Nat → Int32
  | 0 => S
  | d + 1 => dayF (daysF S n d) n
/-- what days depend on comes from another world; all of it (draws and spots, too) -/
def cpB (S T : Nat → Int32) : Nat → Int32 := fun i => if i = 5 ∨ 54 ≤ i ∧ i ≤ 63 then T i else if i = 64 then 0 else if i < 64 then S i else T i
def cpW (S T : Nat → Int32) : Nat → Int32 := fun i => if i = 64 then 0 else if i < 64 then S i else T i
def rg (x : Int32) (m : Int) : Prop := 0 ≤ x.toInt ∧ x.toInt ≤ m
def bnd (w : Nat) : Int := ([6, 11, 99, 9, 9999, 9999] : List Int).getD w 0
/-- what every bank keeps to: n PIECES, all numbers within their bounds, DAY at most d -/
def Gd (S : Nat → Int32) (n : Nat) (d : Int) : Prop := n ≤ 8 ∧ S 1 = nI n ∧ (∀ p w, p < 8 → w < 6 → rg (pf S p w) (bnd w)) ∧ rg (S 3) 99 ∧ rg (S 4) 99999 ∧ rg (S 0) d ∧ (-(d + 11) ≤ (S 2).toInt ∧ (S 2).toInt ≤ d + 11) ∧ True
def Sp (S : Nat → Int32) : Prop := ∀ i, i < 10 → -1 ≤ (S (54 + i)).toInt ∧ (S (54 + i)).toInt ≤ 7
-- numbers
theorem i_lt {a b : Int32} : a < b ↔ a.toInt < b.toInt := Int32.lt_iff_toInt_lt
theorem i_le {a b : Int32} : a ≤ b ↔ a.toInt ≤ b.toInt := Int32.le_iff_toInt_le
theorem i_eq {a b : Int32} : a = b ↔ a.toInt = b.toInt := ⟨fun h => by rw [h], fun h => Int32.toInt_inj.mp h⟩
theorem i_add {a b : Int32} (h1 : -2147483648 ≤ a.toInt + b.toInt) (h2 : a.toInt + b.toInt < 2147483648) : (a + b).toInt = a.toInt + b.toInt := by
  rw [Int32.toInt_add]; exact Int.bmod_eq_of_le (by omega) (by omega)
theorem i_sub {a b : Int32} (h1 : -2147483648 ≤ a.toInt - b.toInt) (h2 : a.toInt - b.toInt < 2147483648) : (a - b).toInt = a.toInt - b.toInt := by
  rw [Int32.toInt_sub]; exact Int.bmod_eq_of_le (by omega) (by omega)
theorem i_mul {a b : Int32} (h1 : -2147483648 ≤ a.toInt * b.toInt) (h2 : a.toInt * b.toInt < 2147483648) : (a * b).toInt = a.toInt * b.toInt := by
  rw [Int32.toInt_mul]; exact Int.bmod_eq_of_le (by omega) (by omega)
theorem i_n {n : Nat} (h : n < 2147483648) : (nI n).toInt = (n : Int) := nI_toInt (by omega)
theorem i_rng (a : Int32) : -2147483648 ≤ a.toInt ∧ a.toInt < 2147483648 := ⟨Int32.le_toInt a, Int32.toInt_lt a⟩
theorem mx0_max (x : Int32) : (if (0 : Int32) < x then x else 0) = mx0 x := by
  unfold mx0
  have h0 : (0 : Int32).toInt = 0 := rfl
  by_cases h : x < 0
  · rw [if_pos h, if_neg]; rw [i_lt] at h ⊢; omega
  · rw [if_neg h]
    by_cases h2 : (0 : Int32) < x
    · rw [if_pos h2]
    · rw [if_neg h2]; rw [i_lt] at h h2; rw [i_eq]; omega
theorem ix (p w : Nat) : nI p * 6 + nI w = nI (6 * p + w) := by
  rw [show (6 : Int32) = nI 6 from rfl, pk_mul, nI_add, Nat.mul_comm]
theorem hset_pf (σ : Hp) (k p w : Nat) (v : Int32) : hset σ k (6 + (6 * p + w)) v = bset σ k (pset (σ k) p w v) := rfl
theorem bI_n0 {c : Prop} [Decidable c] (h : ¬ bI c = 0) : (1 : Int32) = bI c := ((bI_01 c).resolve_left h).symm
theorem bI_no {c : Prop} [Decidable c] (h : ¬ bI c = 0) : c := Classical.not_not.mp fun n => h (bI_0.mpr n)
theorem bI_pos {c : Prop} [Decidable c] (h : c) : ¬ bI c = 0 := fun e => bI_0.mp e h
theorem bI_c {c d : Prop} [Decidable c] [Decidable d] (h : c ↔ d) : bI c = bI d := by unfold bI; by_cases hc : c <;> simp [hc, h.mp, ← h]
