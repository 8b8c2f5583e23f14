section GP
variable {cc : ByteArray} {own : String} {lev nL : Nat} {ro : Nat → Option (Nat × (Nat → Int32))} {G : Nat → List (Option Value) → List Value → Hp → Prop} {pc : Nat} {ls : List (Option Value)} {st : List Value} {σ : Hp}
theorem g_cvP (h : Rules cc own lev nL ro G) {y : MethodName} {bytes : ByteArray} {maxL n idx lev' : Nat} {ret : Option FieldType} {k ci : Nat} {q : vw_C} {fs : List Fl} {as stk : List Value} {v : Int32} {P : Hp → Prop} (cI : CIV y bytes maxL ret n) (hd : decode cc pc = .ok (.invokevirtual idx, 3)) (hlink : Cond.methodLink own idx y ∈ TW) (hlev : lev' + 1 ≤ lev) (hk : k < 29) (hl : lay k = .inl (ci, fs)) (hc : vwCl[ci]? = some q) (hq : q.1 = y.cls) (ct : CtP y (wsM y bytes maxL ret) lev' (.ref k :: as) σ v P) (hn : as.length = n) (hst : (st.map fun v => v.category).sum ≤ 8) (hs : stk = as.reverse ++ .ref k :: st) (kk : ∀ σ', P σ' → G (pc + 3) ls (.int v :: st) σ') : G pc ls stk σ := g_cv h cI hd hlink hlev hk hl hc hq ct hn hst hs (fun r σ' hp => by obtain ⟨rfl, hp⟩ := hp; exact kk σ' hp)
end GP
def us (x k : Int32) : Int32 := (x.toUInt32 >>> (k.toUInt32 &&& Int32.toUInt32 31)).toInt32
def bc1 (i : Int32) : Int32 := i - (us i 1 &&& 1431655765)
def bc2 (i : Int32) : Int32 := (i &&& 858993459) + (us i 2 &&& 858993459)
def bc3 (i : Int32) : Int32 := (i + us i 4) &&& 252645135
def bc4 (i : Int32) : Int32 := i + us i 8
def bc5 (i : Int32) : Int32 := i + us i 16
def bcF (i : Int32) : Int32 := bc5 (bc4 (bc3 (bc2 (bc1 i)))) &&& 63
def pcn (s : Nat) : Nat := s % 2 + s / 2 % 2 + s / 4 % 2 + s / 8 % 2 + s / 16 % 2 + s / 32 % 2 + s / 64 % 2 + s / 128 % 2 + s / 256 % 2 + s / 512 % 2 + s / 1024 % 2 + s / 2048 % 2
theorem bc_ok2 : ∀ a, a < 64 → ∀ b, b < 64 → bcF (nI (64 * a + b)) = nI (pcn (64 * a + b)) := by decide +kernel
theorem bc_ok (s : Nat) (h : s < 4096) : bcF (nI s) = nI (pcn s) := by
  have := bc_ok2 (s / 64) (by omega) (s % 64) (by omega)
  rwa [Nat.div_add_mod] at this
theorem on_ok2 : ∀ a, a < 64 → ∀ b, b < 64 → 0 < 64 * a + b → (nI (64 * a + b) &&& (nI (64 * a + b) - 1)) = nI ((64 * a + b) &&& (64 * a + b - 1)) ∧ pcn ((64 * a + b) &&& (64 * a + b - 1)) + 1 = pcn (64 * a + b) ∧ ((64 * a + b) &&& (64 * a + b - 1)) < 64 * a + b := by decide +kernel
theorem on_ok (s : Nat) (h : s < 4096) (h0 : 0 < s) : (nI s &&& (nI s - 1)) = nI (s &&& (s - 1)) ∧ pcn (s &&& (s - 1)) + 1 = pcn s ∧ (s &&& (s - 1)) < s := by
  have := on_ok2 (s / 64) (by omega) (s % 64) (by omega)
  rw [Nat.div_add_mod] at this
  exact this h0
theorem pcn_le : ∀ n, n ≤ 8 → ∀ s, s < 2 ^ n → pcn s ≤ n := by
  have h : ∀ n, n < 9 → ∀ s, s < 2 ^ n → pcn s ≤ n := by decide +kernel
  exact fun n hn => h n (by omega)
theorem pcn_0 : pcn 0 = 0 := rfl
theorem shl_n : ∀ n, n < 12 → (1 : Int32) <<< (nI n &&& 31) = nI (2 ^ n) := by decide +kernel
theorem pw_le {n : Nat} (h : n ≤ 8) : 2 ^ n ≤ 256 := by
  have := Nat.pow_le_pow_right (show 0 < 2 by decide) h; simpa using this
def lsnM (c : Nat → Bool) : Nat → Option Nat
  | 0 => none
  | s + 1 => match lsnM c s with
    | none => if c s then some s else none
    | some b => if pcn s < pcn b ∧ c s = true then some s else some b
def lsnP (c : Nat → Bool) (N : Nat) : Option Nat → Prop
  | none => ∀ s, s < N → c s = false
  | some b => b < N ∧ c b = true ∧ (∀ s, s < N → c s = true → pcn b ≤ pcn s) ∧ ∀ s, s < b → c s = true → pcn b < pcn s
theorem lsn_spec (c : Nat → Bool) : ∀ N, lsnP c N (lsnM c N) := by
  intro N
  induction N with
  | zero => intro s h; omega
  | succ N ih =>
    unfold lsnM
    cases hm : lsnM c N with
    | none =>
      rw [hm] at ih
      have ih : ∀ s, s < N → c s = false := ih
      show lsnP c (N + 1) (if c N = true then some N else none)
      by_cases hc : c N = true
      · rw [if_pos hc]
        refine ⟨by omega, hc, fun s hs h => ?_, fun s hs h => ?_⟩
        · by_cases e : s = N
          · rw [e]; exact Nat.le_refl _
          · rw [ih s (by omega)] at h; cases h
        · rw [ih s hs] at h; cases h
      · rw [if_neg hc]
        intro s hs
        by_cases e : s = N
        · rw [e]; simpa using hc
        · exact ih s (by omega)
    | some b =>
      rw [hm] at ih
      obtain ⟨h1, h2, h3, h4⟩ : b < N ∧ c b = true ∧ (∀ s, s < N → c s = true → pcn b ≤ pcn s) ∧ ∀ s, s < b → c s = true → pcn b < pcn s := ih
      show lsnP c (N + 1) (if pcn N < pcn b ∧ c N = true then some N else some b)
      by_cases hc : pcn N < pcn b ∧ c N = true
      · rw [if_pos hc]
        refine ⟨by omega, hc.2, fun s hs h => ?_, fun s hs h => ?_⟩
        · by_cases e : s = N
          · rw [e]; exact Nat.le_refl _
          · have := h3 s (by omega) h; omega
        · have := h3 s hs h; omega
      · rw [if_neg hc]
        refine ⟨by omega, h2, fun s hs h => ?_, h4⟩
        by_cases e : s = N
        · subst e
          have : ¬ pcn s < pcn b := fun q => hc ⟨q, h⟩
          omega
        · exact h3 s (by omega) h
theorem lsn_is {c : Nat → Bool} {N s : Nat} (hs : s < N) (hc : c s = true) (h1 : ∀ t, t < N → c t = true → pcn s ≤ pcn t) (h2 : ∀ t, t < s → pcn t = pcn s → c t = false) : lsnM c N = some s := by
  have h := lsn_spec c N
  cases hm : lsnM c N with
  | none => rw [hm] at h; rw [h s hs] at hc; cases hc
  | some b =>
    rw [hm] at h
    obtain ⟨g1, g2, g3, g4⟩ : b < N ∧ c b = true ∧ (∀ s, s < N → c s = true → pcn b ≤ pcn s) ∧ ∀ s, s < b → c s = true → pcn b < pcn s := h
    have e1 := g3 s hs hc
    have e2 := h1 b g1 g2
    rcases Nat.lt_trichotomy b s with q | q | q
    · rw [h2 b q (by omega)] at g2; cases g2
    · rw [q]
    · have := g4 s q hc; omega
theorem lsn_none {c : Nat → Bool} {N : Nat} (h : ∀ s, s < N → c s = false) : lsnM c N = none := by
  have h0 := lsn_spec c N
  cases hm : lsnM c N with
  | none => rfl
  | some b => rw [hm] at h0; have := h b h0.1; rw [h0.2.1] at this; cases this
theorem lsnM_lt {c : Nat → Bool} {N b : Nat} (h : lsnM c N = some b) : b < N := by
  have h0 := lsn_spec c N; rw [h] at h0; exact h0.1
def lgV : Option Nat → Int32
  | some j => nI (j + 1)
  | none => -1000004
def dgV : Option Nat → Int32
  | some j => nI (99 - j)
  | none => -1000004
theorem Eb_tri (σ : Hp) (i : Nat) (v : Int32) (U T : Nat → Int32) : Eb (bset (bset (hset σ 4 i v) 7 U) 4 T) (bset σ 4 T) := by
  intro b h1 h2 h3 h4
  by_cases hb : b = 4
  · rw [hb, bset_s, bset_s]
  · rw [bset_n hb, bset_n h3, hset_e, bset_n hb, bset_n hb]
