/-! ===== the law's invariant over the banks: both sides tell the same; what the calls do to it ===== -/
def Jw (σ : Hp) (n t nk : Nat) (d : Int) : Prop :=
  (Gd (σ 0) n d ∧ Sp (σ 0) ∧ σ 0 64 = 0) ∧ σ 4 = σ 0 ∧ (Gd (σ 2) nk d ∧ Sp (σ 2) ∧ (σ 3 0 = 0 ∨ ∀ i, i < 64 → σ 5 i = σ 2 i)) ∧ (σ 8 0 = σ 3 0 ∧ σ 3 1 = nI t ∧ σ 8 1 = nI t ∧ t ≤ 120) ∧ (σ 10 = σ 9 ∧ ∀ i, 0 ≤ (σ 9 i).toInt) ∧ (σ 12 = σ 11 ∧ Sh (σ 11)) ∧ σ 14 = σ 13
def Jx (σ : Hp) (d : Int) : Prop := ∃ n t nk, Jw σ n t nk d
theorem Jw.eb {σ τ : Hp} {n t nk : Nat} {d : Int} (he : Eb τ σ) (h : Jw σ n t nk d) : Jw τ n t nk d := by
  unfold Jw
  rw [he 0 (by decide) (by decide) (by decide) (by decide), he 2 (by decide) (by decide) (by decide) (by decide), he 3 (by decide) (by decide) (by decide) (by decide), he 4 (by decide) (by decide) (by decide) (by decide), he 5 (by decide) (by decide) (by decide) (by decide), he 8 (by decide) (by decide) (by decide) (by decide), he 9 (by decide) (by decide) (by decide) (by decide), he 10 (by decide) (by decide) (by decide) (by decide), he 11 (by decide) (by decide) (by decide) (by decide), he 12 (by decide) (by decide) (by decide) (by decide), he 13 (by decide) (by decide) (by decide) (by decide), he 14 (by decide) (by decide) (by decide) (by decide)]
  exact h
theorem Jx.eb {σ τ : Hp} {d : Int} (he : Eb τ σ) (h : Jx σ d) : Jx τ d := by
  obtain ⟨n, t, nk, h⟩ := h; exact ⟨n, t, nk, h.eb he⟩
theorem Jw.up {σ : Hp} {n t nk : Nat} {d d' : Int} (h : Jw σ n t nk d) (hd : d ≤ d') : Jw σ n t nk d' :=
  ⟨⟨Gd_mono h.1.1 hd, h.1.2⟩, h.2.1, ⟨Gd_mono h.2.2.1.1 hd, h.2.2.1.2⟩, h.2.2.2⟩
theorem fin_A {σ σ1 : Hp} {n t nk : Nat} {d : Int} (h : Jw σ n t nk d) (he : Eb σ1 σ) : Jx σ1 (d + 60) := ⟨n, t, nk, (h.eb he).up (by omega)⟩
theorem fin_F {σ σ1 : Hp} {n t nk : Nat} {d : Int} (j : Nat) (h : Jw σ n t nk d) (he : Eb σ1 (fnd σ 13 j)) : Jx (fnd σ1 14 j) (d + 60) := by
  refine Jx.eb (he.fn (f := 14) j (by decide) (by decide) (by decide) (by decide)) ⟨n, t, nk, Jw.up (d := d) ?_ (by omega)⟩
  have b : ∀ b, b ≠ 13 → b ≠ 14 → fnd (fnd σ 13 j) 14 j b = σ b := fun b h1 h2 => by unfold fnd; rw [bset_n h2, bset_n h1]
  unfold Jw
  rw [b 0 (by decide) (by decide), b 2 (by decide) (by decide), b 3 (by decide) (by decide), b 4 (by decide) (by decide), b 5 (by decide) (by decide), b 8 (by decide) (by decide), b 9 (by decide) (by decide), b 10 (by decide) (by decide), b 11 (by decide) (by decide), b 12 (by decide) (by decide)]
  refine ⟨h.1, h.2.1, h.2.2.1, h.2.2.2.1, h.2.2.2.2.1, h.2.2.2.2.2.1, ?_⟩
  have h14 : σ 14 = σ 13 := h.2.2.2.2.2.2
  unfold fnd
  rw [bset_s, bset_n (show 14 ≠ 13 by decide), bset_n (show 13 ≠ 14 by decide), bset_s, h14]
theorem fin_S {σ σ1 : Hp} {n n' t nk : Nat} {d : Int} {S : Nat → Int32} (h : Jw σ n t nk d) (hG : Gd S n' (d + 60)) (hSp : Sp S) (h64 : S 64 = 0) (he : Eb σ1 (bset σ 0 S)) : Jx (bset σ1 4 S) (d + 60) := by
  refine Jx.eb (he.bs 4 rfl) ⟨n', t, nk, ?_⟩
  have h := h.up (d' := d + 60) (by omega)
  have b : ∀ b, b ≠ 0 → b ≠ 4 → bset (bset σ 0 S) 4 S b = σ b := fun b h1 h2 => by rw [bset_n h2, bset_n h1]
  have b0 : bset (bset σ 0 S) 4 S 0 = S := by rw [bset_n (by decide), bset_s]
  unfold Jw
  rw [b0, bset_s, b 2 (by decide) (by decide), b 3 (by decide) (by decide), b 5 (by decide) (by decide), b 8 (by decide) (by decide), b 9 (by decide) (by decide), b 10 (by decide) (by decide), b 11 (by decide) (by decide), b 12 (by decide) (by decide), b 13 (by decide) (by decide), b 14 (by decide) (by decide)]
  exact ⟨⟨hG, hSp, h64⟩, rfl, h.2.2⟩
theorem Sp_hi {S T : Nat → Int32} (h : Hi S T) (hs : Sp S) : Sp T := fun i hi => by rw [h _ (by omega)]; exact hs i hi
theorem fin_H {σ σ1 : Hp} {n n' t nk : Nat} {d : Int} {S : Nat → Int32} (h : Jw σ n t nk d) (hG : Gd S n' (d + 60)) (hH : Hi (σ 0) S) (he : Eb σ1 (bset σ 0 S)) : Jx (bset σ1 4 S) (d + 60) :=
  fin_S h hG (Sp_hi hH h.1.2.1) (by rw [hH 64 (by decide)]; exact h.1.2.2) he
theorem fin_R {σ σ1 : Hp} {n t nk : Nat} {d : Int} {o : Option Nat} (h : Jw σ n t nk d) (he : Eb σ1 (rsT σ 13 o)) : Jx (rsT σ1 14 o) (d + 60) := by
  cases o with
  | some j => exact fin_A h he
  | none => exact fin_F 3 h he
/-- sheets -/
theorem fin_T {σ σ1 : Hp} {n t nk : Nat} {d : Int} {T : Nat → Int32} (h : Jw σ n t nk d) (hT : Sh T) (he : Eb σ1 (bset σ 11 T)) : Jx (bset σ1 12 T) (d + 60) := by
  refine Jx.eb (he.bs 12 rfl) ⟨n, t, nk, ?_⟩
  have h := h.up (d' := d + 60) (by omega)
  have b : ∀ b, b ≠ 11 → b ≠ 12 → bset (bset σ 11 T) 12 T b = σ b := fun b h1 h2 => by rw [bset_n h2, bset_n h1]
  have b0 : bset (bset σ 11 T) 12 T 11 = T := by rw [bset_n (by decide), bset_s]
  unfold Jw
  rw [b0, bset_s, b 0 (by decide) (by decide), b 2 (by decide) (by decide), b 3 (by decide) (by decide), b 4 (by decide) (by decide), b 5 (by decide) (by decide), b 8 (by decide) (by decide), b 9 (by decide) (by decide), b 10 (by decide) (by decide), b 13 (by decide) (by decide), b 14 (by decide) (by decide)]
  exact ⟨h.1, h.2.1, h.2.2.1, h.2.2.2.1, h.2.2.2.2.1, ⟨rfl, hT⟩, h.2.2.2.2.2.2⟩
/-- the tape -/
theorem fin_B {σ σ1 : Hp} {n t t' nk : Nat} {d : Int} {B : Nat → Int32} {S : Nat → Int32} {n' : Nat} (h : Jw σ n t nk d) (ht : t' ≤ 120) (hB : ∀ i, 0 ≤ (B i).toInt) (hG : Gd S n' (d + 60)) (hH : Hi (σ 0) S) (he : Eb σ1 (bset (bset (bset σ 9 B) 3 (upd (σ 3) 1 (nI t'))) 0 S)) : Jx (bset (bset (bset σ1 10 B) 8 (upd (σ1 8) 1 (nI t'))) 4 S) (d + 60) := by
  have e8 : σ1 8 = σ 8 := by rw [he 8 (by decide) (by decide) (by decide) (by decide), bset_n (by decide), bset_n (by decide), bset_n (by decide)]
  rw [e8]
  refine Jx.eb (((he.bs 10 rfl).bs 8 rfl).bs 4 rfl) ⟨n', t', nk, ?_⟩
  have h := h.up (d' := d + 60) (by omega)
  generalize hX : bset (bset (bset (bset (bset (bset σ 9 B) 3 (upd (σ 3) 1 (nI t'))) 0 S) 10 B) 8 (upd (σ 8) 1 (nI t'))) 4 S = X
  have b : ∀ b, b ≠ 0 → b ≠ 3 → b ≠ 4 → b ≠ 8 → b ≠ 9 → b ≠ 10 → X b = σ b := fun b h1 h2 h3 h4 h5 h6 => by rw [← hX, bset_n h3, bset_n h4, bset_n h6, bset_n h1, bset_n h2, bset_n h5]
  have b0 : X 0 = S := by rw [← hX, bset_n (by decide), bset_n (by decide), bset_n (by decide), bset_s]
  have b3 : X 3 = upd (σ 3) 1 (nI t') := by rw [← hX, bset_n (by decide), bset_n (by decide), bset_n (by decide), bset_n (by decide), bset_s]
  have b4 : X 4 = S := by rw [← hX, bset_s]
  have b8 : X 8 = upd (σ 8) 1 (nI t') := by rw [← hX, bset_n (by decide), bset_s]
  have b9 : X 9 = B := by rw [← hX, bset_n (by decide), bset_n (by decide), bset_n (by decide), bset_n (by decide), bset_n (by decide), bset_s]
  have b10 : X 10 = B := by rw [← hX, bset_n (by decide), bset_n (by decide), bset_s]
  unfold Jw
  rw [b0, b3, b4, b8, b9, b10, b 2 (by decide) (by decide) (by decide) (by decide) (by decide) (by decide), b 5 (by decide) (by decide) (by decide) (by decide) (by decide) (by decide), b 11 (by decide) (by decide) (by decide) (by decide) (by decide) (by decide), b 12 (by decide) (by decide) (by decide) (by decide) (by decide) (by decide), b 13 (by decide) (by decide) (by decide) (by decide) (by decide) (by decide), b 14 (by decide) (by decide) (by decide) (by decide) (by decide) (by decide)]
  refine ⟨⟨hG, Sp_hi hH h.1.2.1, by rw [hH 64 (by decide)]; exact h.1.2.2⟩, rfl, ⟨h.2.2.1.1, h.2.2.1.2.1, by rw [upd_n (by decide)]; exact h.2.2.1.2.2⟩, ⟨?_, upd_s _ _ _, upd_s _ _ _, ht⟩, ⟨rfl, hB⟩, h.2.2.2.2.2⟩
  rw [upd_n (by decide), upd_n (by decide)]; exact h.2.2.2.1.1
-- the calls' own
theorem cpW_lo {S T : Nat → Int32} {i : Nat} (h : i < 64) : cpW S T i = S i := by unfold cpW; rw [if_neg (by omega), if_pos h]
theorem Gd_lo {S T : Nat → Int32} {n : Nat} {d : Int} (h : Gd S n d) (e : ∀ i, i < 54 → T i = S i) : Gd T n d := by
  obtain ⟨g1, g2, g3, g4, g5, g6, g7, g8⟩ := h
  exact ⟨g1, by rw [e 1 (by decide)]; exact g2, fun p w hp hw => by unfold pf; rw [e _ (by omega)]; exact g3 p w hp hw, by rw [e 3 (by decide)]; exact g4, by rw [e 4 (by decide)]; exact g5, by rw [e 0 (by decide)]; exact g6, by rw [e 2 (by decide)]; exact g7, trivial⟩
theorem fin_image {σ σ1 : Hp} {n t nk : Nat} {d : Int} (h : Jw σ n t nk d) (he : Eb σ1 (bset (bset σ 2 (cpW (σ 0) (σ 2))) 3 (upd (σ 3) 0 1))) : Jx (bset (bset σ1 5 (cpN (σ1 4) (σ1 5) 64)) 8 (upd (σ1 8) 0 1)) (d + 60) := by
  have e : ∀ b, b ≠ 2 → b ≠ 3 → b ≠ 1 → b ≠ 6 → b ≠ 7 → b < 15 → σ1 b = σ b := fun b h1 h2 h3 h4 h5 h6 => by rw [he b h3 h4 h5 h6, bset_n h2, bset_n h1]
  rw [e 4 (by decide) (by decide) (by decide) (by decide) (by decide) (by decide), e 5 (by decide) (by decide) (by decide) (by decide) (by decide) (by decide), e 8 (by decide) (by decide) (by decide) (by decide) (by decide) (by decide)]
  refine Jx.eb ((he.bs 5 rfl).bs 8 rfl) ⟨n, t, n, ?_⟩
  have h := h.up (d' := d + 60) (by omega)
  generalize hX : bset (bset (bset (bset σ 2 (cpW (σ 0) (σ 2))) 3 (upd (σ 3) 0 1)) 5 (cpN (σ 4) (σ 5) 64)) 8 (upd (σ 8) 0 1) = X
  have b : ∀ b, b ≠ 2 → b ≠ 3 → b ≠ 5 → b ≠ 8 → X b = σ b := fun b h1 h2 h3 h4 => by rw [← hX, bset_n h4, bset_n h3, bset_n h2, bset_n h1]
  have b2 : X 2 = cpW (σ 0) (σ 2) := by rw [← hX, bset_n (by decide), bset_n (by decide), bset_n (by decide), bset_s]
  have b3 : X 3 = upd (σ 3) 0 1 := by rw [← hX, bset_n (by decide), bset_n (by decide), bset_s]
  have b5 : X 5 = cpN (σ 4) (σ 5) 64 := by rw [← hX, bset_n (by decide), bset_s]
  have b8 : X 8 = upd (σ 8) 0 1 := by rw [← hX, bset_s]
  unfold Jw
  rw [b2, b3, b5, b8, b 0 (by decide) (by decide) (by decide) (by decide), b 4 (by decide) (by decide) (by decide) (by decide), b 9 (by decide) (by decide) (by decide) (by decide), b 10 (by decide) (by decide) (by decide) (by decide), b 11 (by decide) (by decide) (by decide) (by decide), b 12 (by decide) (by decide) (by decide) (by decide), b 13 (by decide) (by decide) (by decide) (by decide), b 14 (by decide) (by decide) (by decide) (by decide)]
  refine ⟨h.1, h.2.1, ⟨Gd_lo h.1.1 (fun i hi => cpW_lo (by omega)), fun i hi => by rw [cpW_lo (by omega)]; exact h.1.2.1 i hi, Or.inr (fun i hi => ?_)⟩, ⟨by rw [upd_s, upd_s], by rw [upd_n (by decide)]; exact h.2.2.2.1.2.1, by rw [upd_n (by decide)]; exact h.2.2.2.1.2.2.1, h.2.2.2.1.2.2.2⟩, h.2.2.2.2⟩
  rw [cpW_lo hi]
  unfold cpN
  rw [if_pos hi, h.2.1]
theorem fin_undo {σ σ1 : Hp} {n t nk : Nat} {d : Int} (h : Jw σ n t nk d) (hk : ∀ i, i < 64 → σ 5 i = σ 2 i) (he : Eb σ1 (bset σ 0 (cpW (σ 2) (σ 0)))) : Jx (bset σ1 4 (cpN (σ1 5) (σ1 4) 64)) (d + 60) := by
  have e : ∀ b, b ≠ 0 → b ≠ 1 → b ≠ 6 → b ≠ 7 → b < 15 → σ1 b = σ b := fun b h1 h3 h4 h5 h6 => by rw [he b h3 h4 h5 h6, bset_n h1]
  have key : cpN (σ1 5) (σ1 4) 64 = cpW (σ 2) (σ 0) := by
    rw [e 5 (by decide) (by decide) (by decide) (by decide) (by decide), e 4 (by decide) (by decide) (by decide) (by decide) (by decide), h.2.1]
    funext i
    unfold cpN cpW
    by_cases h1 : i < 64
    · rw [if_pos h1, if_neg (by omega), if_pos h1]; exact hk i h1
    · rw [if_neg h1]
      by_cases h2 : i = 64
      · rw [if_pos h2, h2]; exact h.1.2.2
      · rw [if_neg h2, if_neg h1]
  rw [key]
  have h0 := h.up (d' := d + 60) (by omega)
  exact fin_S h (Gd_lo h0.2.2.1.1 (fun i hi => cpW_lo (by omega))) (fun i hi => by rw [cpW_lo (by omega)]; exact h.2.2.1.2.1 i hi) rfl he
theorem fin_tear {σ σ1 : Hp} {n t nk : Nat} {d : Int} (h : Jw σ n t nk d) (he : Eb σ1 (bset σ 3 (upd (σ 3) 0 0))) : Jx (bset σ1 8 (upd (σ1 8) 0 0)) (d + 60) := by
  have e8 : σ1 8 = σ 8 := by rw [he 8 (by decide) (by decide) (by decide) (by decide), bset_n (by decide)]
  rw [e8]
  refine Jx.eb (he.bs 8 rfl) ⟨n, t, nk, ?_⟩
  have h := h.up (d' := d + 60) (by omega)
  have b : ∀ b, b ≠ 3 → b ≠ 8 → bset (bset σ 3 (upd (σ 3) 0 0)) 8 (upd (σ 8) 0 0) b = σ b := fun b h1 h2 => by rw [bset_n h2, bset_n h1]
  have b3 : bset (bset σ 3 (upd (σ 3) 0 0)) 8 (upd (σ 8) 0 0) 3 = upd (σ 3) 0 0 := by rw [bset_n (by decide), bset_s]
  unfold Jw
  rw [b3, bset_s, b 0 (by decide) (by decide), b 2 (by decide) (by decide), b 4 (by decide) (by decide), b 5 (by decide) (by decide), b 9 (by decide) (by decide), b 10 (by decide) (by decide), b 11 (by decide) (by decide), b 12 (by decide) (by decide), b 13 (by decide) (by decide), b 14 (by decide) (by decide)]
  exact ⟨h.1, h.2.1, ⟨h.2.2.1.1, h.2.2.1.2.1, Or.inl (upd_s _ _ _)⟩, ⟨by rw [upd_s, upd_s], by rw [upd_n (by decide)]; exact h.2.2.2.1.2.1, by rw [upd_n (by decide)]; exact h.2.2.2.1.2.2.1, h.2.2.2.1.2.2.2⟩, h.2.2.2.2⟩
-- banks of single calls
theorem Hi_days {S : Nat → Int32} {n : Nat} (hn : n ≤ 8) (c : Nat) : Hi S (daysF S n c) := fun i hi => daysF_hi hn hi c
theorem Hi_prc {S : Nat → Int32} {n : Nat} (hn : n ≤ 8) (c : Nat) : Hi S (prcN S n c) := fun i hi => prcN_hi hn hi c
theorem Gd_lod {S T : Nat → Int32} {s n : Nat} {d : Int} (h : Gd S n d) : ∀ M j, j ≤ lodN T s M → M ≤ 8 → Gd (lodS S T s j) n d ∧ Hi S (lodS S T s j) := by
  have hb : ∀ M j, j < lodN T s M → lodB T s j = true := by
    intro M
    induction M with
    | zero => intro j hj; have hj : j < 0 := hj; omega
    | succ M ih =>
      intro j hj
      rw [lodN] at hj
      split at hj
      · rename_i hc
        by_cases e : j = M
        · rw [e]; exact hc.2
        · exact ih j (by rw [hc.1]; omega)
      · exact ih j hj
  have hle : ∀ M, lodN T s M ≤ M := by
    intro M
    induction M with
    | zero => exact Nat.le_refl _
    | succ M ih => rw [lodN]; split <;> omega
  intro M j
  induction j with
  | zero => intro _ _; exact ⟨h, Hi.rf S⟩
  | succ j ih =>
    intro hj hM
    have := hle M
    have e := ih (by omega) hM
    have hc := of_decide_eq_true (hb M j (by omega))
    have h1 := i_le.mp hc.1
    have h2 := i_le.mp hc.2
    have e1 : (flT 2).toInt = 1 := rfl
    have e2 : (fmT 2).toInt = 99 := rfl
    exact ⟨Gd_pset e.1 (by omega) (by decide) ⟨by omega, by show _ ≤ (99 : Int); omega⟩, e.2.pset (by omega) (by decide)⟩
theorem lodM_le {T : Nat → Int32} {s n : Nat} (hn : n ≤ 8) : lodM T s n ≤ 8 := by unfold lodM; split <;> omega
theorem Gd_cut {S : Nat → Int32} {n : Nat} {d : Int} {v : Int32} (h : Gd S (n + 1) d) (hSp : Sp S) (h1 : 1 ≤ v) : (∃ n', Gd (cutS S n v) n' d) ∧ Sp (cutS S n v) ∧ cutS S n v 64 = S 64 := by
  have hn := h.1
  unfold cutS
  by_cases hc : v < pf S n 2
  · rw [if_pos hc]
    have hr := h.2.2.1 n 2 (by omega) (by decide)
    unfold rg at hr
    have e1 : (1 : Int32).toInt = 1 := rfl
    have a1 := i_le.mp h1
    have a2 := i_lt.mp hc
    have hb : bnd 2 = 99 := rfl
    refine ⟨⟨n + 1, Gd_pset h (by omega) (by decide) ?_⟩, fun i hi => by rw [pset_hi (by omega) (by decide) (by omega)]; exact hSp i hi, pset_hi (by omega) (by decide) (by decide)⟩
    unfold rg
    rw [i_sub (by omega) (by omega)]; omega
  · rw [if_neg hc]
    have key : ∀ j, j ≤ 10 → Gd (espN (upd S 1 (nI n)) (nI n) j) n d ∧ Sp (espN (upd S 1 (nI n)) (nI n) j) ∧ espN (upd S 1 (nI n)) (nI n) j 64 = S 64 := by
      intro j
      induction j with
      | zero =>
        intro _
        obtain ⟨g1, g2, g3, g4, g5, g6, g7, g8⟩ := h
        show Gd (upd S 1 (nI n)) n d ∧ Sp (upd S 1 (nI n)) ∧ upd S 1 (nI n) 64 = S 64
        exact ⟨⟨by omega, upd_s _ _ _, fun p w hp hw => by rw [pf_upd (by decide)]; exact g3 p w hp hw, by rw [upd_n (by decide)]; exact g4, by rw [upd_n (by decide)]; exact g5, by rw [upd_n (by decide)]; exact g6, by rw [upd_n (by decide)]; exact g7, trivial⟩, fun i hi => by rw [upd_n (by omega)]; exact hSp i hi, upd_n (by decide)⟩
      | succ j ih =>
        intro hj
        obtain ⟨a, b, c⟩ := ih (by omega)
        rw [espN, esp1]
        split
        · refine ⟨Gd_lo a (fun i hi => upd_n (by omega)), fun i hi => ?_, by rw [upd_n (by omega)]; exact c⟩
          by_cases e : 54 + i = 54 + j
          · rw [e, upd_s]; exact ⟨by decide, by decide⟩
          · rw [upd_n e]; exact b i hi
        · exact ⟨a, b, c⟩
    have k := key 10 (by decide)
    exact ⟨⟨n, k.1⟩, k.2.1, k.2.2⟩
theorem Sh_lay {T : Nat → Int32} {s : Nat} {b z : Int32} (h : Sh T) (hs : s < 4) (hb : b = 0 ∨ b = 8 ∨ b = 16 ∨ b = 32) (hz : ∃ k, k ≤ 40 ∧ z = nI k) : Sh (laySh T s b z) := by
  intro q hq
  have e : ∀ i, i < 8 → laySh T s b z i = upd (upd T s b) (4 + s) z i := fun i hi => by unfold laySh zerS; rw [if_neg (by omega)]
  rw [e (4 + q) (by omega), e q (by omega)]
  obtain ⟨h1, h2⟩ := h q hq
  constructor
  · by_cases e2 : q = s
    · rw [e2, upd_s]; obtain ⟨k, hk, ez⟩ := hz; exact ⟨k, hk, ez⟩
    · rw [upd_n (by omega), upd_n (by omega)]; exact h1
  · rw [upd_n (by omega)]
    by_cases e2 : q = s
    · rw [e2, upd_s]; exact hb
    · rw [upd_n e2]; exact h2
theorem Sh_num {T U : Nat → Int32} (h : Sh T) (e : ∀ i, i < 8 → U i = T i) : Sh U := by
  intro q hq
  rw [e (4 + q) (by omega), e q (by omega)]; exact h q hq
theorem fed_pos {B : Nat → Int32} {t n : Nat} {x : Int32} (h : ∀ i, 0 ≤ (B i).toInt) : ∀ j i, 0 ≤ (fedN B t x n j i).toInt := by
  intro j
  induction j with
  | zero => exact h
  | succ j ih =>
    intro i
    rw [fedN]
    by_cases e : i = t + j
    · rw [e, upd_s]
      unfold bytV
      rw [i_n (by have := Nat.mod_lt (x.toBitVec.toNat / 2 ^ (8 * (n - 1 - j))) (show 0 < 256 by decide); omega)]
      omega
    · rw [upd_n e]; exact ih i
theorem cntN_congr {c e : Nat → Bool} {n : Nat} (h : ∀ i, i < n → c i = e i) : cntN c n = cntN e n := by
  induction n with
  | zero => rfl
  | succ n ih => rw [cntN, cntN, ih (fun i hi => h i (by omega)), h n (by omega)]
theorem spot_c {x : Int32} (h : -1 ≤ x.toInt) : (decide (¬ x = -1)) = decide (¬ x < 0) := by
  have e0 : (0 : Int32).toInt = 0 := rfl
  have em : (-1 : Int32).toInt = -1 := rfl
  congr 1
  rw [i_eq, i_lt, e0, em]
  apply propext; omega
theorem Eb_go {σ : Hp} {n c : Nat} : Eb (daysT σ 0 n c) (bset σ 0 (daysF (σ 0) n c)) := by
  intro b h1 _ _ h4
  by_cases hb : b = 0
  · rw [hb, daysT_k, bset_s]
  · rw [daysT_b σ 0 n hb (by omega), bset_n hb]
def OpP (yx : MethodName) (wx : List Cond) (lx : Nat) (ym : MethodName) (wm : List Cond) (lm : Nat) (as : List Value) (σ : Hp) (d : Int) : Prop :=
  ∃ (v : Int32) (X : Hp), CtP yx wx lx (.ref 0 :: as) σ v (fun σ' => Eb σ' X) ∧ ∀ σ1, Eb σ1 X → ∃ M : Hp, CtP ym wm lm (.ref 18 :: as) σ1 v (fun σ' => Eb σ' M) ∧ Jx M (d + 60)
theorem op_mk {yx ym : MethodName} {wx wm : List Cond} {lx lm : Nat} {as : List Value} {σ X : Hp} {d : Int} {v : Int32} (c : CtP yx wx lx (.ref 0 :: as) σ v (fun σ' => Eb σ' X)) (h : ∀ σ1, Eb σ1 X → ∃ M : Hp, CtP ym wm lm (.ref 18 :: as) σ1 v (fun σ' => Eb σ' M) ∧ Jx M (d + 60)) : OpP yx wx lx ym wm lm as σ d := ⟨v, X, c, h⟩
theorem mb {σ1 X : Hp} (he : Eb σ1 X) (b : Nat) (h1 : b ≠ 1) (h2 : b ≠ 6) (h3 : b ≠ 7) (h4 : b < 15) {T : Nat → Int32} (hX : X b = T) : σ1 b = T := (he b h1 h2 h3 h4).trans hX
theorem CtP.eb {y : MethodName} {ws : List Cond} {lev : Nat} {as : List Value} {σ X Y : Hp} {v : Int32} (h : CtP y ws lev as σ v (fun σ' => Eb σ' X)) (e : Eb X Y) : CtP y ws lev as σ v (fun σ' => Eb σ' Y) := Ct.mono h (fun r σ' q => ⟨q.1, q.2.tr e⟩)
