/-! ===== the state as banks of ints; the fixed layout of the 29 cells; a method's judgement G over it ===== -/
abbrev Hp : Type := Nat → Nat → Int32
def bset (σ : Hp) (b : Nat) (S : Nat → Int32) : Hp := fun b' => if b' = b then S else σ b'
def hset (σ : Hp) (b i : Nat) (v : Int32) : Hp := bset σ b (upd (σ b) i v)
theorem bset_s (σ : Hp) (b : Nat) (S : Nat → Int32) : bset σ b S b = S := if_pos rfl
theorem bset_n {σ : Hp} {b b' : Nat} {S : Nat → Int32} (h : b' ≠ b) : bset σ b S b' = σ b' := if_neg h
theorem bset_bset (σ : Hp) (b : Nat) (S T : Nat → Int32) : bset (bset σ b S) b T = bset σ b T := by
  funext b'; unfold bset; by_cases h : b' = b <;> simp [h]
theorem bset_id (σ : Hp) (b : Nat) : bset σ b (σ b) = σ := by
  funext b'; unfold bset; by_cases h : b' = b <;> simp [h]
theorem bset_comm {σ : Hp} {b c : Nat} {S T : Nat → Int32} (h : b ≠ c) : bset (bset σ b S) c T = bset (bset σ c T) b S := by
  funext x; unfold bset
  by_cases h1 : x = c
  · by_cases h2 : x = b
    · exact absurd (h2.symm.trans h1) h
    · simp [h1, h2]; intro h3; exact absurd h3.symm h
  · by_cases h2 : x = b
    · subst h2; simp [h]
    · simp [h1, h2]
theorem hset_e (σ : Hp) (b i : Nat) (v : Int32) : hset σ b i v = bset σ b (upd (σ b) i v) := rfl
theorem hset_at (σ : Hp) (b i b' i' : Nat) (v : Int32) : hset σ b i v b' i' = if b' = b ∧ i' = i then v else σ b' i' := by
  unfold hset bset upd
  by_cases h : b' = b
  · subst h; by_cases h2 : i' = i <;> simp [h2]
  · simp [h]
abbrev Fl : Type := Nat ⊕ (Nat × Nat)
def layW (k : Nat) : List Fl := [.inr (k, 2), .inr (k, 3), .inr (k, 0), .inr (k, 4), .inr (k, 5), .inr (k, 1), .inr (k, 64), .inr (16 + k, 0), .inr (16 + k, 1), .inl (3 * k + 2), .inl (3 * k + 3)]
/-- a cell: an object (its class's number, its fields: another cell, or an int by bank and place), or an array of ints (bank, first place, length) -/
def lay : Nat → (Nat × List Fl) ⊕ (Nat × Nat × Nat)
  | 0 => .inl (4, [.inl 1, .inl 4, .inl 7, .inr (3, 0), .inl 10, .inl 12, .inl 13, .inl 17])
  | 1 => .inl (3, layW 0)
  | 2 => .inr (0, 6, 48)
  | 3 => .inr (0, 54, 10)
  | 4 => .inl (3, layW 1)
  | 5 => .inr (1, 6, 48)
  | 6 => .inr (1, 54, 10)
  | 7 => .inl (3, layW 2)
  | 8 => .inr (2, 6, 48)
  | 9 => .inr (2, 54, 10)
  | 10 => .inl (1, [.inr (3, 1), .inl 11])
  | 11 => .inr (9, 0, 120)
  | 12 => .inl (2, [.inl 10, .inl 4, .inr (20, 0), .inr (20, 1), .inr (20, 2), .inr (20, 3)])
  | 13 => .inl (0, [.inl 14, .inl 15, .inl 16])
  | 14 => .inr (11, 0, 4)
  | 15 => .inr (11, 4, 4)
  | 16 => .inr (11, 8, 160)
  | 17 => .inr (13, 0, 7)
  | 18 => .inl (5, [.inl 19, .inl 20, .inl 21, .inl 22, .inl 23, .inr (8, 0), .inr (4, 64), .inl 24, .inr (8, 1), .inr (19, 0), .inr (19, 1), .inr (19, 2), .inr (19, 3), .inl 25, .inl 26, .inl 27, .inl 28])
  | 19 => .inr (4, 0, 64)
  | 20 => .inr (5, 0, 64)
  | 21 => .inr (6, 0, 64)
  | 22 => .inr (7, 0, 64)
  | 23 => .inr (14, 0, 7)
  | 24 => .inr (10, 0, 120)
  | 25 => .inr (12, 0, 4)
  | 26 => .inr (12, 4, 4)
  | 27 => .inr (12, 8, 160)
  | _ => .inr (15, 0, 40)
theorem lay_w {k : Nat} (hk : k < 3) : lay (3 * k + 1) = .inl (3, layW k) := by
  rcases (show k = 0 ∨ k = 1 ∨ k = 2 by omega) with rfl | rfl | rfl <;> rfl
theorem lay_f {k : Nat} (hk : k < 3) : lay (3 * k + 2) = .inr (k, 6, 48) := by
  rcases (show k = 0 ∨ k = 1 ∨ k = 2 by omega) with rfl | rfl | rfl <;> rfl
theorem lay_s {k : Nat} (hk : k < 3) : lay (3 * k + 3) = .inr (k, 54, 10) := by
  rcases (show k = 0 ∨ k = 1 ∨ k = 2 by omega) with rfl | rfl | rfl <;> rfl
def reg1 : Fl → Option (Nat × Nat × Nat)
  | .inl _ => none
  | .inr (b, i) => some (b, i, 1)
def regs (k : Nat) : List (Nat × Nat × Nat) := match lay k with
  | .inl (_, fs) => fs.filterMap reg1
  | .inr r => [r]
def sepB (r q : Nat × Nat × Nat) : Bool := r.1 != q.1 || decide (r.2.1 + r.2.2 ≤ q.2.1) || decide (q.2.1 + q.2.2 ≤ r.2.1)
def sepAll : Bool := (List.range 29).all fun k => (List.range 29).all fun k' => k == k' || (regs k).all fun r => (regs k').all fun q => sepB r q
theorem sepAll_ok : sepAll = true := by decide +kernel
def dupNone : Bool := (List.range 29).all fun k => match lay k with
  | .inl (_, fs) => (List.range fs.length).all fun i => (List.range fs.length).all fun j => i == j || !(decide (fs[i]? = fs[j]?))
  | .inr _ => true
theorem dupNone_ok : dupNone = true := by decide +kernel
theorem lay_sep {k k' : Nat} (hk : k < 29) (hk' : k' < 29) (hn : k ≠ k') {r q : Nat × Nat × Nat} (hr : r ∈ regs k) (hq : q ∈ regs k') : sepB r q = true := by
  have h := List.all_eq_true.mp (List.all_eq_true.mp sepAll_ok k (List.mem_range.mpr hk)) k' (List.mem_range.mpr hk')
  rcases Bool.or_eq_true _ _ ▸ h with h | h
  · exact absurd (by simpa using h) hn
  · exact List.all_eq_true.mp (List.all_eq_true.mp h r hr) q hq
theorem lay_dup {k ci : Nat} {fs : List Fl} (hk : k < 29) (hl : lay k = .inl (ci, fs)) {i j : Nat} {x : Fl} (hi : fs[i]? = some x) (hj : fs[j]? = some x) : i = j := by
  have h := List.all_eq_true.mp dupNone_ok k (List.mem_range.mpr hk)
  rw [hl] at h
  have hi' := (List.getElem?_eq_some_iff.mp hi).1
  have hj' := (List.getElem?_eq_some_iff.mp hj).1
  have h2 := List.all_eq_true.mp (List.all_eq_true.mp h i (List.mem_range.mpr hi')) j (List.mem_range.mpr hj')
  rcases Bool.or_eq_true _ _ ▸ h2 with h2 | h2
  · simpa using h2
  · rw [hi, hj] at h2; simp at h2
def evF (ad : Nat → Nat) (σ : Hp) : Fl → Value
  | .inl c => .ref (ad c)
  | .inr (b, i) => .int (σ b i)
def arF (σ : Hp) (b o n : Nat) : Nat → Int32 := fun j => if j < n then σ b (o + j) else 0
def cellE (ad : Nat → Nat) (cA : ClassId) (σ : Hp) (k : Nat) : va_E := match lay k with
  | .inl (c, fs) => .inr (c, fs.map (evF ad σ))
  | .inr (b, o, n) => .inl (cA, n, .inl (arF σ b o n))
def wsOf (ad : Nat → Nat) (cA : ClassId) (σ : Hp) : va_W := (List.range 29).map fun k => (ad k, cellE ad cA σ k)
theorem ws_at {ad : Nat → Nat} {cA : ClassId} {σ : Hp} {k : Nat} (hk : k < 29) : (wsOf ad cA σ)[k]? = some (ad k, cellE ad cA σ k) := by
  simp [wsOf, hk]
theorem cell_o {ad : Nat → Nat} {cA : ClassId} {σ : Hp} {k ci : Nat} {fs : List Fl} (h : lay k = .inl (ci, fs)) : cellE ad cA σ k = .inr (ci, fs.map (evF ad σ)) := by
  unfold cellE; rw [h]
theorem cell_a {ad : Nat → Nat} {cA : ClassId} {σ : Hp} {k b o n : Nat} (h : lay k = .inr (b, o, n)) : cellE ad cA σ k = .inl (cA, n, .inl (arF σ b o n)) := by
  unfold cellE; rw [h]
theorem ws_set {ad : Nat → Nat} {cA : ClassId} {σ τ : Hp} {k : Nat} {c : va_E} (hk : k < 29) (hc : c = cellE ad cA τ k) (h : ∀ k', k' < 29 → k' ≠ k → cellE ad cA τ k' = cellE ad cA σ k') : (wsOf ad cA σ).set k (ad k, c) = wsOf ad cA τ := by
  apply List.ext_getElem?
  intro i
  rw [List.getElem?_set]
  by_cases hi : i < 29
  · rw [ws_at hi, ws_at hi]
    by_cases h2 : k = i
    · subst h2; rw [if_pos rfl, if_pos (by simp [wsOf, hk]), hc]
    · rw [if_neg h2, h i hi (fun e => h2 e.symm)]
  · have e1 : (wsOf ad cA σ)[i]? = none := by simp [wsOf]; omega
    have e2 : (wsOf ad cA τ)[i]? = none := by simp [wsOf]; omega
    rw [e1, e2, if_neg (by omega)]
/-- a write at a place of a region leaves what lies apart from it -/
theorem cell_keep {ad : Nat → Nat} {cA : ClassId} {σ : Hp} {k k' b i : Nat} {v : Int32} {r : Nat × Nat × Nat} (hk : k < 29) (hk' : k' < 29) (hn : k' ≠ k) (hr : r ∈ regs k) (hb : r.1 = b) (h1 : r.2.1 ≤ i) (h2 : i < r.2.1 + r.2.2) : cellE ad cA (hset σ b i v) k' = cellE ad cA σ k' := by
  have hs : ∀ q ∈ regs k', sepB r q = true := fun q hq => lay_sep hk hk' (fun e => hn e.symm) hr hq
  unfold cellE
  unfold regs at hs
  split
  · rename_i c fs hl
    rw [hl] at hs
    refine congrArg (fun l => Sum.inr (c, l)) (List.map_congr_left fun x hx => ?_)
    match x, hx with
    | .inl _, _ => rfl
    | .inr (b', i'), hx =>
      have h3 := hs (b', i', 1) (List.mem_filterMap.mpr ⟨_, hx, rfl⟩)
      simp only [evF, hset_at]
      rw [if_neg]
      rintro ⟨e1, e2⟩
      simp [sepB] at h3
      omega
  · rename_i b' o n hl
    rw [hl] at hs
    have h3 := hs (b', o, n) List.mem_cons_self
    refine congrArg (fun f => Sum.inl (cA, n, Sum.inl f)) ?_
    funext j
    unfold arF
    by_cases hj : j < n
    · rw [if_pos hj, if_pos hj, hset_at, if_neg]
      rintro ⟨e1, e2⟩
      simp [sepB] at h3
      omega
    · rw [if_neg hj, if_neg hj]
theorem ws_put {ad : Nat → Nat} {cA : ClassId} {σ : Hp} {k ci b i j : Nat} {fs : List Fl} {v : Int32} (hk : k < 29) (hl : lay k = .inl (ci, fs)) (hj : fs[j]? = some (.inr (b, i))) : (wsOf ad cA σ).set k (ad k, .inr (ci, (fs.map (evF ad σ)).set j (.int v))) = wsOf ad cA (hset σ b i v) := by
  have hr : (b, i, 1) ∈ regs k := by
    unfold regs; rw [hl]
    exact List.mem_filterMap.mpr ⟨_, List.mem_of_getElem? hj, rfl⟩
  refine ws_set hk ?_ (fun k' hk' hn => cell_keep hk hk' hn hr rfl (Nat.le_refl _) (Nat.lt_succ_self _))
  rw [cell_o hl]
  refine congrArg (fun l => Sum.inr (ci, l)) ?_
  apply List.ext_getElem?
  intro x
  rw [List.getElem?_set, List.getElem?_map, List.getElem?_map]
  by_cases h2 : j = x
  · subst h2
    have hj' := (List.getElem?_eq_some_iff.mp hj).1
    rw [if_pos rfl, if_pos (by simpa using hj'), hj]
    simp [evF, hset_at]
  · rw [if_neg h2]
    cases hx : fs[x]? with
    | none => rfl
    | some y =>
      simp only [Option.map_some]
      match y, hx with
      | .inl _, _ => rfl
      | .inr (b', i'), hx =>
        simp only [evF, hset_at]
        rw [if_neg]
        rintro ⟨e1, e2⟩
        subst e1; subst e2
        exact h2 (lay_dup hk hl hj hx)
theorem ws_ast {ad : Nat → Nat} {cA : ClassId} {σ : Hp} {k b o n j : Nat} {v : Int32} (hk : k < 29) (hl : lay k = .inr (b, o, n)) (hj : j < n) : (wsOf ad cA σ).set k (ad k, .inl (cA, n, .inl (upd (arF σ b o n) j v))) = wsOf ad cA (hset σ b (o + j) v) := by
  have hr : (b, o, n) ∈ regs k := by
    unfold regs; rw [hl]; exact List.mem_cons_self
  refine ws_set hk ?_ (fun k' hk' hn => cell_keep hk hk' hn hr rfl (Nat.le_add_right _ _) (by show o + j < o + n; omega))
  rw [cell_a hl]
  refine congrArg (fun f => Sum.inl (cA, n, Sum.inl f)) ?_
  funext x
  unfold upd arF
  by_cases h1 : x = j
  · subst h1; simp [hj, hset_at]
  · rw [if_neg h1]
    by_cases h2 : x < n
    · rw [if_pos h2, if_pos h2, hset_at, if_neg]; rintro ⟨-, e⟩; omega
    · rw [if_neg h2, if_neg h2]
/-- a run of places of a bank gets new values (arraycopy) -/
def rset (σ : Hp) (b o n : Nat) (f : Nat → Int32) : Hp := bset σ b (fun i => if o ≤ i ∧ i < o + n then f (i - o) else σ b i)
theorem rset_at (σ : Hp) (b o n b' i' : Nat) (f : Nat → Int32) : rset σ b o n f b' i' = if b' = b ∧ o ≤ i' ∧ i' < o + n then f (i' - o) else σ b' i' := by
  unfold rset bset
  by_cases h : b' = b
  · subst h; by_cases h2 : o ≤ i' ∧ i' < o + n <;> simp [h2]
  · simp [h]
theorem cell_keepR {ad : Nat → Nat} {cA : ClassId} {σ : Hp} {k k' b o n : Nat} {f : Nat → Int32} {r : Nat × Nat × Nat} (hk : k < 29) (hk' : k' < 29) (hn : k' ≠ k) (hr : r ∈ regs k) (hb : r.1 = b) (h1 : r.2.1 ≤ o) (h2 : o + n ≤ r.2.1 + r.2.2) : cellE ad cA (rset σ b o n f) k' = cellE ad cA σ k' := by
  have hs : ∀ q ∈ regs k', sepB r q = true := fun q hq => lay_sep hk hk' (fun e => hn e.symm) hr hq
  unfold cellE
  unfold regs at hs
  split
  · rename_i c fs hl
    rw [hl] at hs
    refine congrArg (fun l => Sum.inr (c, l)) (List.map_congr_left fun x hx => ?_)
    match x, hx with
    | .inl _, _ => rfl
    | .inr (b', i'), hx =>
      have h3 := hs (b', i', 1) (List.mem_filterMap.mpr ⟨_, hx, rfl⟩)
      simp only [evF, rset_at]
      rw [if_neg]
      rintro ⟨e1, e2, e3⟩
      simp [sepB] at h3
      omega
  · rename_i b' o' n' hl
    rw [hl] at hs
    have h3 := hs (b', o', n') List.mem_cons_self
    refine congrArg (fun f => Sum.inl (cA, n', Sum.inl f)) ?_
    funext j
    unfold arF
    by_cases hj : j < n'
    · rw [if_pos hj, if_pos hj, rset_at, if_neg]
      rintro ⟨e1, e2, e3⟩
      simp [sepB] at h3
      omega
    · rw [if_neg hj, if_neg hj]
theorem ws_cpy {ad : Nat → Nat} {cA : ClassId} {σ : Hp} {k b o N d n : Nat} {f : Nat → Int32} (hk : k < 29) (hl : lay k = .inr (b, o, N)) (hd : d + n ≤ N) {g : Nat → Int32} (hg : ∀ j, g j = if d ≤ j ∧ j < d + n then f (j - d) else arF σ b o N j) : (wsOf ad cA σ).set k (ad k, .inl (cA, N, .inl g)) = wsOf ad cA (rset σ b (o + d) n f) := by
  have hr : (b, o, N) ∈ regs k := by
    unfold regs; rw [hl]; exact List.mem_cons_self
  refine ws_set hk ?_ (fun k' hk' hn => cell_keepR hk hk' hn hr rfl (Nat.le_add_right _ _) (by show o + d + n ≤ o + N; omega))
  rw [cell_a hl]
  refine congrArg (fun f => Sum.inl (cA, N, Sum.inl f)) ?_
  funext x
  rw [hg x]
  unfold arF
  by_cases h2 : x < N
  · rw [if_pos h2, if_pos h2, rset_at]
    by_cases h1 : d ≤ x ∧ x < d + n
    · rw [if_pos h1, if_pos ⟨rfl, by omega, by omega⟩]; congr 1; omega
    · rw [if_neg h1, if_neg]; rintro ⟨-, e1, e2⟩; omega
  · rw [if_neg h2, if_neg h2, if_neg (by omega)]
