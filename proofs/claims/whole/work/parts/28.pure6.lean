/-- what a method leaves of the state, as far as it is ever asked for -/
def Eb (σ τ : Hp) : Prop := ∀ b, b ≠ 1 → b ≠ 6 → b ≠ 7 → b < 15 → σ b = τ b
theorem Eb.rf (σ : Hp) : Eb σ σ := fun _ _ _ _ _ => rfl
theorem Eb.tr {σ τ υ : Hp} (h : Eb σ τ) (g : Eb τ υ) : Eb σ υ := fun b h1 h2 h3 h4 => (h b h1 h2 h3 h4).trans (g b h1 h2 h3 h4)
theorem Eb.bs {σ τ : Hp} (h : Eb σ τ) (b : Nat) {S T : Nat → Int32} (e : S = T) : Eb (bset σ b S) (bset τ b T) := by
  intro b' h1 h2 h3 h4; subst e
  by_cases hb : b' = b
  · rw [hb, bset_s, bset_s]
  · rw [bset_n hb, bset_n hb]; exact h b' h1 h2 h3 h4
theorem Eb.fn {σ τ : Hp} (h : Eb σ τ) {f : Nat} (j : Nat) (h1 : f ≠ 1) (h2 : f ≠ 6) (h3 : f ≠ 7) (h4 : f < 15) : Eb (fnd σ f j) (fnd τ f j) := Eb.bs h f (by rw [h f h1 h2 h3 h4])
theorem Eb.trial (σ : Hp) (T : Nat → Int32) : Eb (bset σ 1 T) σ := fun b h1 _ _ _ => bset_n h1
theorem Eb.aside (σ : Hp) (T : Nat → Int32) : Eb (bset σ 7 T) σ := fun b _ _ h3 _ => bset_n h3
theorem Eb.days {σ : Hp} (n c : Nat) : Eb (daysT σ 1 n c) σ := fun b h1 _ _ h4 => daysT_b σ 1 n h1 (by omega) c
theorem Eb.day {σ : Hp} (n : Nat) : Eb (dayT σ 1 n) σ := Eb.days n 1
theorem Eb.wgh {σ : Hp} {u d : Int32} : Eb (wghT σ 0 u d) σ := fun b _ _ _ h4 => wgh_b (by omega)
theorem tr_v {σ : Hp} {T S : Nat → Int32} {n c i : Nat} (hq : Bq T S) (hn : n ≤ 8) (h1 : i ≠ 5) (h2 : i < 54 ∨ i = 64) : daysT (bset σ 1 T) 1 n c 1 i = daysF S n c i := by
  rw [daysT_k, bset_s]; exact bq_days hq hn c i h1 h2
theorem tr_pf {σ : Hp} {T S : Nat → Int32} {n c p w : Nat} (hq : Bq T S) (hn : n ≤ 8) (hp : p < 8) (hw : w < 6) : pf (daysT (bset σ 1 T) 1 n c 1) p w = pf (daysF S n c) p w := tr_v hq hn (by omega) (by omega)
theorem tr_flt {σ : Hp} {T S : Nat → Int32} {n c p : Nat} (hq : Bq T S) (hn : n ≤ 8) (hp : p < 8) : fltF (daysT (bset σ 1 T) 1 n c 1) n p = fltF (daysF S n c) n p := by
  rw [daysT_k, bset_s]; exact bq_flt (bq_days hq hn c) hn hp
def rsV : Option Nat → Int32
  | some j => nI j
  | none => -1000004
def rsT (σ : Hp) (f : Nat) : Option Nat → Hp
  | some _ => σ
  | none => fnd σ f 3
theorem abs_dst2 {a b : Int32} (ha : -2000000 ≤ a.toInt ∧ a.toInt ≤ 2000000) (hb : rg b 11) : (if 0 ≤ a - b then a - b else 0 - (a - b)) = dst a b := by
  unfold rg at hb
  have e0 : (0 : Int32).toInt = 0 := rfl
  have e : (a - b).toInt = a.toInt - b.toInt := i_sub (by omega) (by omega)
  have e2 : (b - a).toInt = b.toInt - a.toInt := i_sub (by omega) (by omega)
  unfold dst
  by_cases h : a < b
  · rw [if_pos h, if_neg (by rw [i_le]; rw [i_lt] at h; omega), i_eq, i_sub (by omega) (by omega)]; omega
  · rw [if_neg h, if_pos (by rw [i_le]; rw [i_lt] at h; omega)]
def amin (f : Nat → Int32) : Nat → Int32 × Int32
  | 0 => (0, 12)
  | v + 1 => if f v < (amin f v).2 then (nI v, f v) else amin f v
def amax (f : Nat → Int32) : Nat → Int32 × Int32
  | 0 => (0, -1)
  | v + 1 => if (amax f v).2 < f v then (nI v, f v) else amax f v
theorem Gd_drag {S : Nat → Int32} {n : Nat} {d : Int} {v : Int32} (h : Gd S n d) (hv : rg v 99) : Gd (upd S 3 v) n d := by
  obtain ⟨g1, g2, g3, g4, g5, g6, g7, g8⟩ := h
  exact ⟨g1, by rw [upd_n (by decide)]; exact g2, fun p w hp hw => by rw [pf_upd (by decide)]; exact g3 p w hp hw, by rw [upd_s]; exact hv, by rw [upd_n (by decide)]; exact g5, by rw [upd_n (by decide)]; exact g6, by rw [upd_n (by decide)]; exact g7, trivial⟩
theorem Gd_loose {S : Nat → Int32} {n : Nat} {d : Int} {v : Int32} (h : Gd S n d) : Gd (upd S 64 v) n d := by
  obtain ⟨g1, g2, g3, g4, g5, g6, g7, g8⟩ := h
  exact ⟨g1, by rw [upd_n (by decide)]; exact g2, fun p w hp hw => by unfold pf; rw [upd_n (by omega)]; exact g3 p w hp hw, by rw [upd_n (by decide)]; exact g4, by rw [upd_n (by decide)]; exact g5, by rw [upd_n (by decide)]; exact g6, by rw [upd_n (by decide)]; exact g7, trivial⟩
theorem Ct.mono {y : MethodName} {ws : List Cond} {lev : Nat} {as : List Value} {σ : Hp} {post post' : Option Value → Hp → Prop} (h : Ct y ws lev as σ post) (hp : ∀ r σ', post r σ' → post' r σ') : Ct y ws lev as σ post' := by
  intro l ad D cA p e h1 h2 h3 s m args below hf ha hP hK
  obtain ⟨n, o, a, b, c, ⟨⟨r, σ', e1, e2, e3⟩, e4⟩, e5⟩ := h l ad D cA p e h1 h2 h3 s m args below hf ha hP hK
  exact ⟨n, o, a, b, c, ⟨⟨r, σ', e1, hp r σ' e2, e3⟩, e4⟩, e5⟩
theorem CtI.p {y : MethodName} {ws : List Cond} {lev : Nat} {as : List Value} {σ τ : Hp} {v : Int32} (h : CtI y ws lev as σ v τ) : CtP y ws lev as σ v (fun σ' => Eb σ' τ) := Ct.mono h (fun r σ' q => ⟨q.1, by rw [q.2]; exact Eb.rf τ⟩)
