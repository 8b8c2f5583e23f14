/-- sets: bits of v's that a test lets through -/
def setN (c : Nat → Bool) : Nat → Int32
  | 0 => 0
  | v + 1 => if c v = true then setN c v ||| ((1 : Int32) <<< (nI v &&& 31)) else setN c v
/-- the ways that a sheet tells, from place i on all others being so -/
def folB (S T : Nat → Int32) (n s z : Nat) : Bool := (fstN (fun i => decide (¬ (num T s i = -1 ∨ num T s i = daysF S n i 2))) z).isNone
def unwV (S : Nat → Int32) (n : Nat) (a : Int32) : Int32 := match fstN (fun p => decide (¬ (a >>> (nI p &&& 31)) &&& 1 = 0)) n with
  | some p => lngF S n p
  | none => 0
theorem and_split (x m : Int32) (h : x &&& ~~~m = 0) : x &&& m = x := by
  apply Int32.toBitVec_inj.mp
  have h2 : x.toBitVec &&& ~~~m.toBitVec = 0 := by have := congrArg Int32.toBitVec h; simpa using this
  rw [Int32.toBitVec_and]
  apply BitVec.eq_of_getLsbD_eq
  intro i hi
  have h3 := congrArg (fun b => BitVec.getLsbD b i) h2
  simp only [BitVec.getLsbD_and, BitVec.getLsbD_not, BitVec.getLsbD_zero, hi, decide_true, Bool.true_and] at h3 ⊢
  cases hx : x.toBitVec.getLsbD i <;> cases hm : m.toBitVec.getLsbD i <;> simp_all
theorem unw_m : ∀ n, n < 9 → -(nI (2 ^ n)) = ~~~(nI (2 ^ n) - 1) ∧ (nI (2 ^ n) - 1).toBitVec.toNat = 2 ^ n - 1 := by decide +kernel
theorem unw_0 : ∀ n, n < 9 → ∀ j, j < 2 ^ n → (nI j &&& -(nI (2 ^ n))) = 0 := by decide +kernel
theorem unw_c {a : Int32} {n : Nat} (hn : n ≤ 8) : (a &&& -(nI (2 ^ n))) = 0 ↔ (0 ≤ a ∧ a ≤ nI (2 ^ n) - 1) := by
  have hp := pw_le hn
  have hp0 : 0 < 2 ^ n := Nat.two_pow_pos n
  have e1 : nI (2 ^ n) - 1 = nI (2 ^ n - 1) := pk_sub (b := 1) (by omega)
  constructor
  · intro h
    obtain ⟨m1, m2⟩ := unw_m n (by omega)
    rw [m1] at h
    have h2 := and_split _ _ h
    obtain ⟨j, hj, e⟩ := pk_andE a (m := nI (2 ^ n) - 1) n m2
    rw [h2] at e
    rw [e, e1]
    exact ⟨nI_pos' (by omega), nI_le (by omega) (by omega)⟩
  · intro h
    rw [e1] at h
    obtain ⟨j, hj, rfl⟩ := nle (2 ^ n - 1) h (by omega)
    exact unw_0 n (by omega) j (by omega)
theorem lng_rg {S : Nat → Int32} {n : Nat} {d : Int} (h : Gd S n d) : ∀ e q, q + e = n → 0 ≤ (lngF S n q).toInt ∧ (lngF S n q).toInt ≤ 99 * e := by
  intro e
  have hn := h.1
  induction e with
  | zero => intro q hq; rw [show q = n by omega, lng_n]; exact ⟨by decide, by decide⟩
  | succ e ih =>
    intro q hq
    obtain ⟨a1, a2⟩ := ih (q + 1) (by omega)
    have hr : rg (pf S q 2) 99 := h.2.2.1 q 2 (by omega) (by decide)
    unfold rg at hr
    rw [lng_step S (by omega), i_add (by omega) (by omega)]; omega
theorem lng_mono {S : Nat → Int32} {n : Nat} {d : Int} (h : Gd S n d) {q : Nat} (hq : q < n) : (lngF S n (q + 1)).toInt ≤ (lngF S n q).toInt := by
  have hn := h.1
  obtain ⟨a1, a2⟩ := lng_rg h (n - (q + 1)) (q + 1) (by omega)
  have hr : rg (pf S q 2) 99 := h.2.2.1 q 2 (by omega) (by decide)
  unfold rg at hr
  rw [lng_step S hq, i_add (by omega) (by omega)]; omega
theorem lng_mono2 {S : Nat → Int32} {n : Nat} {d : Int} (h : Gd S n d) : ∀ e q, q + e ≤ n → (lngF S n (q + e)).toInt ≤ (lngF S n q).toInt := by
  intro e
  induction e with
  | zero => intro q _; exact Int.le_refl _
  | succ e ih =>
    intro q hq
    have h1 := ih q (by omega)
    have h2 := lng_mono h (q := q + e) (by omega)
    rw [show q + (e + 1) = q + e + 1 by omega]; omega
def hadO (S : Nat → Int32) (n : Nat) (v : Int32) (j : Nat) : Option Nat := fstN (fun i => decide (v < lngF S n (n - i - 1))) j
def hadV (j : Nat) : Option Nat → Nat
  | some q => q
  | none => j
-- kinds
def par (k : Nat) : Nat := ([0, 0, 0, 2, 3, 0, 1] : List Nat).getD k 0
def und : Nat → Nat → Nat → Bool
  | 0, k, w => decide (k = w)
  | f + 1, k, w => if k = w then true else if k = 0 then false else und f (par k) w
theorem par_lt : ∀ k, k < 7 → 0 < k → par k < k := by decide
theorem ka_par : ∀ k, k < 7 → 0 < k → kaT k = nI (par k) := by decide
-- bytes
def bytV (x : Int32) (i : Nat) : Int32 := nI (x.toBitVec.toNat / 2 ^ (8 * i) % 256)
theorem byt_u (x : Int32) (i : Nat) (hi : i < 4) : us x (8 * nI i) &&& 255 = bytV x i := by
  have key : ∀ s : Int32, ∀ k : Nat, ((s.toUInt32 &&& Int32.toUInt32 31).toBitVec % 32).toNat = k → us x s &&& 255 = nI (x.toBitVec.toNat / 2 ^ k % 256) := by
    intro s k hs
    rw [pk_and (us x s) (m := 255) 8 (by decide)]
    unfold us
    rw [pk_ushr x s k hs]
  rcases (show i = 0 ∨ i = 1 ∨ i = 2 ∨ i = 3 by omega) with rfl | rfl | rfl | rfl <;> exact key _ _ (by decide)
theorem byt_s (x : Int32) (i : Nat) (hi : i < 4) : (x >>> ((8 * nI i) &&& 31)) &&& 255 = bytV x i := by
  have key : ∀ s : Int32, ∀ k : Nat, k ≤ 24 → (s.toBitVec.smod 32).toNat = k → (x >>> s) &&& 255 = nI (x.toBitVec.toNat / 2 ^ k % 256) := by
    intro s k hk hs
    rw [pk_and (x >>> s) (m := 255) 8 (by decide)]
    have h1 := pk_shr x s k hs
    congr 1
    have h2 : ((x >>> s).toBitVec.toNat : Int) % 256 = (x >>> s).toInt % 256 := by
      have : (x >>> s).toInt = (x >>> s).toBitVec.toInt := rfl
      rw [this, BitVec.toInt_eq_toNat_cond]
      split <;> omega
    have h3 : x.toInt = (x.toBitVec.toNat : Int) ∨ x.toInt = (x.toBitVec.toNat : Int) - 4294967296 := by
      have : x.toInt = x.toBitVec.toInt := rfl
      rw [this, BitVec.toInt_eq_toNat_cond]
      split <;> simp
    rw [h1, Int.shiftRight_eq_div_pow] at h2
    have hp : (2 : Int) ^ k = ((2 ^ k : Nat) : Int) := by simp
    rw [show ((2 ^ k : Nat) : Int) = ((2 ^ k : Nat) : Int) from rfl] at h2
    have hfin : ((x.toBitVec.toNat / 2 ^ k : Nat) : Int) % 256 = (x.toInt / ((2 ^ k : Nat) : Int)) % 256 := by
      rcases h3 with h3 | h3
      · rw [h3]; simp
      · rw [h3]
        rcases (show k = 0 ∨ k = 1 ∨ k = 2 ∨ k = 3 ∨ k = 4 ∨ k = 5 ∨ k = 6 ∨ k = 7 ∨ k = 8 ∨ k = 9 ∨ k = 10 ∨ k = 11 ∨ k = 12 ∨ k = 13 ∨ k = 14 ∨ k = 15 ∨ k = 16 ∨ k = 17 ∨ k = 18 ∨ k = 19 ∨ k = 20 ∨ k = 21 ∨ k = 22 ∨ k = 23 ∨ k = 24 by omega) with rfl | rfl | rfl | rfl | rfl | rfl | rfl | rfl | rfl | rfl | rfl | rfl | rfl | rfl | rfl | rfl | rfl | rfl | rfl | rfl | rfl | rfl | rfl | rfl | rfl <;> simp <;> omega
    omega
  rcases (show i = 0 ∨ i = 1 ∨ i = 2 ∨ i = 3 by omega) with rfl | rfl | rfl | rfl <;> exact key _ _ (by decide) (by decide)
def fedN (B : Nat → Int32) (t : Nat) (x : Int32) (n : Nat) : Nat → Nat → Int32
  | 0 => B
  | j + 1 => upd (fedN B t x n j) (t + j) (bytV x (n - 1 - j))
-- odds
theorem or_n (a b : Nat) : nI a ||| nI b = nI (a ||| b) := by
  apply Int32.toBitVec_inj.mp
  rw [Int32.toBitVec_or]
  show BitVec.ofNat 32 a ||| BitVec.ofNat 32 b = BitVec.ofNat 32 (a ||| b)
  apply BitVec.eq_of_getLsbD_eq
  intro i hi
  simp [hi]
theorem pls_n {S : Nat → Int32} {n : Nat} {d : Int} (h : Gd S n d) : ∀ j, j ≤ n → ∃ m, m < 4096 ∧ plsN S j = nI m := by
  intro j
  induction j with
  | zero => intro _; exact ⟨0, by decide, rfl⟩
  | succ j ih =>
    intro hj
    have hn := h.1
    obtain ⟨m, h1, h2⟩ := ih (by omega)
    obtain ⟨t, h3, h4⟩ := rg_n (h.2.2.1 j 1 (by omega) (by decide)) (by decide)
    have h3 : (t : Int) ≤ 11 := h3
    refine ⟨m ||| 2 ^ t, ?_, ?_⟩
    · exact Nat.or_lt_two_pow (n := 12) h1 (Nat.pow_lt_pow_right (by decide) (by omega))
    · rw [plsN, h2, h4, shl_n t (by omega), or_n]
def lowC (m j : Nat) : Bool := decide (m % (12 - j) = 0 ∧ 12 % (12 - j) = 0)
def lowD (m : Nat) : Nat := 12 - (fstN (lowC m) 11).getD 11
theorem low_1 (m : Nat) : lowC m 11 = true := by unfold lowC; exact decide_eq_true ⟨Nat.mod_one m, by decide⟩
def powL (x : Int64) : Nat → Int64
  | 0 => 1
  | n + 1 => powL x n * x
theorem pcn12 (m : Nat) : pcn m ≤ 12 := by unfold pcn; omega
/-- a parcel: two draws, perhaps a piece draws elsewhere, a day -/
def prc1 (S : Nat → Int32) (n : Nat) : Nat → Int32 :=
  let z1 := S 5
  let p := drwV z1 - drwV z1 / 8 * 8
  let z2 := drwZ z1
  let t := drwV z2 - drwV z2 / 12 * 12
  let T := upd (upd S 5 z2) 5 (drwZ z2)
  dayF (if 0 ≤ p ∧ p < nI n then pset T p.toNatClampNeg 1 t else T) n
def prcN (S : Nat → Int32) (n : Nat) : Nat → Nat → Int32
  | 0 => S
  | c + 1 => prc1 (prcN S n c) n
theorem drw_n (z : Int32) : ∃ j, j < 16777216 ∧ drwV z = nI j := by
  refine ⟨(drwZ z).toBitVec.toNat / 256, ?_, ?_⟩
  · have := (drwZ z).toBitVec.isLt; omega
  · have h := pk_ushr (drwZ z) 8 8 (by decide)
    have hlt := (drwZ z).toBitVec.isLt
    apply Int32.toBitVec_inj.mp
    apply BitVec.eq_of_toNat_eq
    rw [pk_tn (by omega)]
    exact h
theorem drw_r (z : Int32) (k : Nat) (h0 : 0 < k) (hk : k < 100) : ∃ j, j < k ∧ drwV z - drwV z / nI k * nI k = nI j := by
  obtain ⟨j, h1, h2⟩ := drw_n z
  exact ⟨j % k, Nat.mod_lt _ h0, by rw [h2, pk_rem (by omega) h0 (by omega)]⟩
theorem Gd_5 {S : Nat → Int32} {n : Nat} {d : Int} {v : Int32} (h : Gd S n d) : Gd (upd S 5 v) n d := by
  obtain ⟨g1, g2, g3, g4, g5, g6, g7, g8⟩ := h
  exact ⟨g1, by rw [upd_n (by decide)]; exact g2, fun p w hp hw => by rw [pf_upd (by decide)]; exact g3 p w hp hw, by rw [upd_n (by decide)]; exact g4, by rw [upd_n (by decide)]; exact g5, by rw [upd_n (by decide)]; exact g6, by rw [upd_n (by decide)]; exact g7, trivial⟩
theorem prc_st {S : Nat → Int32} {n : Nat} {d : Int} (h : Gd S n d) : Gd (if 0 ≤ drwV (S 5) - drwV (S 5) / 8 * 8 ∧ drwV (S 5) - drwV (S 5) / 8 * 8 < nI n then pset (upd (upd S 5 (drwZ (S 5))) 5 (drwZ (drwZ (S 5)))) (drwV (S 5) - drwV (S 5) / 8 * 8).toNatClampNeg 1 (drwV (drwZ (S 5)) - drwV (drwZ (S 5)) / 12 * 12) else upd (upd S 5 (drwZ (S 5))) 5 (drwZ (drwZ (S 5)))) n d := by
  obtain ⟨p, hp, e1⟩ := drw_r (S 5) 8 (by decide) (by decide)
  obtain ⟨t, ht, e2⟩ := drw_r (drwZ (S 5)) 12 (by decide) (by decide)
  have e1 : drwV (S 5) - drwV (S 5) / 8 * 8 = nI p := e1
  have e2 : drwV (drwZ (S 5)) - drwV (drwZ (S 5)) / 12 * 12 = nI t := e2
  rw [e1, e2, nI_clamp (by omega)]
  split
  · exact Gd_pset (Gd_5 (Gd_5 h)) hp (by decide) (n_rg (show (t : Int) ≤ 11 by omega) (by decide))
  · exact Gd_5 (Gd_5 h)
theorem Gd_prc1 {S : Nat → Int32} {n : Nat} {d : Int} (h : Gd S n d) (hd : d < 1000000) : Gd (prc1 S n) n (d + 1) := Gd_dayF (prc_st h) hd
theorem Gd_prcN {S : Nat → Int32} {n : Nat} {d : Int} (h : Gd S n d) : ∀ c : Nat, d + c < 1000000 → Gd (prcN S n c) n (d + c) := by
  intro c
  induction c with
  | zero => intro _; rw [show d + ((0 : Nat) : Int) = d by omega]; exact h
  | succ c ih =>
    intro hc
    have := Gd_prc1 (ih (by omega)) (by omega)
    rw [show d + ((c + 1 : Nat) : Int) = d + (c : Int) + 1 by omega]
    exact this
theorem prc1_hi {S : Nat → Int32} {n i : Nat} (hn : n ≤ 8) (h : 54 ≤ i) : prc1 S n i = S i := by
  obtain ⟨p, hp, e1⟩ := drw_r (S 5) 8 (by decide) (by decide)
  have e1 : drwV (S 5) - drwV (S 5) / 8 * 8 = nI p := e1
  unfold prc1
  rw [dayF_hi hn h]
  show (if 0 ≤ drwV (S 5) - drwV (S 5) / 8 * 8 ∧ drwV (S 5) - drwV (S 5) / 8 * 8 < nI n then pset (upd (upd S 5 (drwZ (S 5))) 5 (drwZ (drwZ (S 5)))) (drwV (S 5) - drwV (S 5) / 8 * 8).toNatClampNeg 1 (drwV (drwZ (S 5)) - drwV (drwZ (S 5)) / 12 * 12) else upd (upd S 5 (drwZ (S 5))) 5 (drwZ (drwZ (S 5)))) i = S i
  rw [e1, nI_clamp (by omega)]
  split
  · rw [pset_hi hp (by decide) h, upd_n (by omega), upd_n (by omega)]
  · rw [upd_n (by omega), upd_n (by omega)]
theorem prcN_hi {S : Nat → Int32} {n i : Nat} (hn : n ≤ 8) (h : 54 ≤ i) : ∀ c, prcN S n c i = S i := by
  intro c; induction c with
  | zero => rfl
  | succ c ih => rw [prcN, prc1_hi hn h, ih]
theorem Eb.wday {σ : Hp} {k n : Nat} (hk : k = 0) : Eb (dayT σ k n) (bset σ k (dayF (σ k) n)) := by
  intro b h1 h2 h3 h4
  subst hk
  by_cases hb : b = 0
  · rw [hb, bset_s]; unfold dayT; rw [bset_s]
  · rw [bset_n hb]; unfold dayT; rw [bset_n hb, wgh_b (by omega)]
theorem fstN_c {c : Nat → Bool} : ∀ {n p : Nat}, fstN c n = some p → c p = true := by
  intro n
  induction n with
  | zero => intro p h; cases h
  | succ n ih =>
    intro p h
    unfold fstN at h
    split at h
    · rename_i q hq; cases h; exact ih hq
    · split at h
      · rename_i hc; cases h; exact hc
      · cases h
theorem Eb_b {σ' σ : Hp} {k : Nat} {Q X : Nat → Int32} (he : Eb σ' (bset σ k Q)) : Eb (bset σ' k X) (bset σ k X) := by
  intro b h1 h2 h3 h4
  by_cases hb : b = k
  · rw [hb, bset_s, bset_s]
  · rw [bset_n hb, bset_n hb, he b h1 h2 h3 h4, bset_n hb]
