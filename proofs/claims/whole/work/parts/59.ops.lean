theorem rsT_n {σ : Hp} {o : Option Nat} {b : Nat} (h : b ≠ 13) : rsT σ 13 o b = σ b := by
  cases o with
  | some j => rfl
  | none => exact bset_n h
theorem bset_self {σ : Hp} {b : Nat} {S : Nat → Int32} (h : σ b = S) : bset σ b S = σ := by rw [← h, bset_id]
theorem fin_W {σ σ1 : Hp} {n t t' nk : Nat} {d : Int} {B : Nat → Int32} (h : Jw σ n t nk d) (ht : t' ≤ 120) (hB : ∀ i, 0 ≤ (B i).toInt) (he : Eb σ1 (bset (bset σ 9 B) 3 (upd (σ 3) 1 (nI t')))) : Jx (bset (bset σ1 10 B) 8 (upd (σ1 8) 1 (nI t'))) (d + 60) := by
  have m4 : σ1 4 = σ 0 := by rw [he 4 (by decide) (by decide) (by decide) (by decide), bset_n (by decide), bset_n (by decide)]; exact h.2.1
  have k := fin_B (S := σ 0) (n' := n) h ht hB (Gd_mono h.1.1 (by omega)) (Hi.rf _) (by rw [bset_self (by rw [bset_n (by decide), bset_n (by decide)])]; exact he)
  rw [bset_self (by rw [bset_n (by decide), bset_n (by decide)]; exact m4)] at k
  exact k
def OpL (yx : MethodName) (wx : List Cond) (lx : Nat) (ym : MethodName) (wm : List Cond) (lm : Nat) (as : List Value) (σ : Hp) (d : Int) : Prop :=
  ∃ (v : Int64) (X : Hp), Ct yx wx lx (.ref 0 :: as) σ (fun r σ' => r = some (.long v) ∧ Eb σ' X) ∧ ∀ σ1, Eb σ1 X → ∃ M : Hp, Ct ym wm lm (.ref 18 :: as) σ1 (fun r σ' => r = some (.long v) ∧ Eb σ' M) ∧ Jx M (d + 60)
theorem CtL.p {y : MethodName} {ws : List Cond} {lev : Nat} {as : List Value} {σ τ : Hp} {v : Int64} (h : CtL y ws lev as σ v τ) : Ct y ws lev as σ (fun r σ' => r = some (.long v) ∧ Eb σ' τ) := Ct.mono h (fun r σ' q => ⟨q.1, by rw [q.2]; exact Eb.rf τ⟩)
theorem flT_pos : ∀ {w : Nat}, w < 6 → 0 ≤ (flT w).toInt := by
  intro w h
  rcases (show w = 0 ∨ w = 1 ∨ w = 2 ∨ w = 3 ∨ w = 4 ∨ w = 5 by omega) with rfl | rfl | rfl | rfl | rfl | rfl <;> decide
set_option maxHeartbeats 1000000 in
theorem op_ball (a : Int32) {σ : Hp} {d : Int} (h : Jx σ d) (hd0 : 0 ≤ d) (hd : d ≤ 30720) : OpP yX4_ball wX4_ball 2 yX5_ball wX5_ball 2 [.int a] σ d := by
  obtain ⟨n, t, nk, J⟩ := h
  have hG := J.1.1
  have hSp := J.1.2.1
  have h64 := J.1.2.2
  have hn8 := hG.1
  have hn : σ 0 1 = nI n := hG.2.1
  have e4 : σ 4 = σ 0 := J.2.1
  have e80 : σ 8 0 = σ 3 0 := J.2.2.2.1.1
  have hT : σ 3 1 = nI t := J.2.2.2.1.2.1
  have hT8 : σ 8 1 = nI t := J.2.2.2.1.2.2.1
  have ht : t ≤ 120 := J.2.2.2.1.2.2.2
  have e10 : σ 10 = σ 9 := J.2.2.2.2.1.1
  have hB := J.2.2.2.2.1.2
  have e12 : σ 12 = σ 11 := J.2.2.2.2.2.1.1
  have hSh : Sh (σ 11) := J.2.2.2.2.2.1.2
  have e14 : σ 14 = σ 13 := J.2.2.2.2.2.2
  have cx := (cx_ball a σ).p
  by_cases c1 : 0 ≤ a ∧ a ≤ 11
  · rw [if_pos c1, if_pos c1] at cx
    refine op_mk cx (fun σ1 he => ?_)
    have m4 : σ1 4 = σ 0 := mb he 4 (by decide) (by decide) (by decide) (by decide) (by first | exact e4 | exact (bset_n (by decide)).trans e4 | exact (rsT_n (by decide)).trans e4 | exact ((bset_n (by decide)).trans (bset_n (by decide))).trans e4 | exact (daysT_b σ 0 n (by decide) (by decide) _).trans e4)
    have cm := (cm_ball a σ1).p
    rw [m4] at cm
    rw [if_pos c1, if_pos c1] at cm
    exact ⟨_, cm, fin_H J (Gd_ball (Gd_mono hG (by omega)) (by have := i_le.mp c1.1; have e0 : (0 : Int32).toInt = 0 := rfl; omega) (by have := i_le.mp c1.2; have e11 : (11 : Int32).toInt = 11 := rfl; omega)) ((Hi.rf _).uq (by decide)) he⟩
  · rw [if_neg c1, if_neg c1] at cx
    refine op_mk cx (fun σ1 he => ?_)
    have m4 : σ1 4 = σ 0 := mb he 4 (by decide) (by decide) (by decide) (by decide) (by first | exact e4 | exact (bset_n (by decide)).trans e4 | exact (rsT_n (by decide)).trans e4 | exact ((bset_n (by decide)).trans (bset_n (by decide))).trans e4 | exact (daysT_b σ 0 n (by decide) (by decide) _).trans e4)
    have cm := (cm_ball a σ1).p
    rw [m4] at cm
    rw [if_neg c1, if_neg c1] at cm
    exact ⟨_, cm, fin_F 0 J he⟩
set_option maxHeartbeats 1000000 in
theorem op_drag (a : Int32) {σ : Hp} {d : Int} (h : Jx σ d) (hd0 : 0 ≤ d) (hd : d ≤ 30720) : OpP yX4_drag wX4_drag 1 yX5_drag wX5_drag 1 [.int a] σ d := by
  obtain ⟨n, t, nk, J⟩ := h
  have hG := J.1.1
  have hSp := J.1.2.1
  have h64 := J.1.2.2
  have hn8 := hG.1
  have hn : σ 0 1 = nI n := hG.2.1
  have e4 : σ 4 = σ 0 := J.2.1
  have e80 : σ 8 0 = σ 3 0 := J.2.2.2.1.1
  have hT : σ 3 1 = nI t := J.2.2.2.1.2.1
  have hT8 : σ 8 1 = nI t := J.2.2.2.1.2.2.1
  have ht : t ≤ 120 := J.2.2.2.1.2.2.2
  have e10 : σ 10 = σ 9 := J.2.2.2.2.1.1
  have hB := J.2.2.2.2.1.2
  have e12 : σ 12 = σ 11 := J.2.2.2.2.2.1.1
  have hSh : Sh (σ 11) := J.2.2.2.2.2.1.2
  have e14 : σ 14 = σ 13 := J.2.2.2.2.2.2
  have cx := (cx_drag a σ).p
  by_cases c1 : 0 ≤ a ∧ a ≤ 99
  · rw [if_pos c1, if_pos c1] at cx
    refine op_mk cx (fun σ1 he => ?_)
    have m4 : σ1 4 = σ 0 := mb he 4 (by decide) (by decide) (by decide) (by decide) (by first | exact e4 | exact (bset_n (by decide)).trans e4 | exact (rsT_n (by decide)).trans e4 | exact ((bset_n (by decide)).trans (bset_n (by decide))).trans e4 | exact (daysT_b σ 0 n (by decide) (by decide) _).trans e4)
    have cm := (cm_drag a σ1).p
    rw [m4] at cm
    rw [if_pos c1, if_pos c1] at cm
    exact ⟨_, cm, fin_H J (Gd_drag (Gd_mono hG (by omega)) ⟨i_le.mp c1.1, i_le.mp c1.2⟩) ((Hi.rf _).uq (by decide)) he⟩
  · rw [if_neg c1, if_neg c1] at cx
    refine op_mk cx (fun σ1 he => ?_)
    have m4 : σ1 4 = σ 0 := mb he 4 (by decide) (by decide) (by decide) (by decide) (by first | exact e4 | exact (bset_n (by decide)).trans e4 | exact (rsT_n (by decide)).trans e4 | exact ((bset_n (by decide)).trans (bset_n (by decide))).trans e4 | exact (daysT_b σ 0 n (by decide) (by decide) _).trans e4)
    have cm := (cm_drag a σ1).p
    rw [m4] at cm
    rw [if_neg c1, if_neg c1] at cm
    exact ⟨_, cm, fin_F 0 J he⟩
set_option maxHeartbeats 1000000 in
theorem op_wind (a b : Int32) {σ : Hp} {d : Int} (h : Jx σ d) (hd0 : 0 ≤ d) (hd : d ≤ 30720) : OpP yX4_wind wX4_wind 2 yX5_wind wX5_wind 2 [.int a, .int b] σ d := by
  obtain ⟨n, t, nk, J⟩ := h
  have hG := J.1.1
  have hSp := J.1.2.1
  have h64 := J.1.2.2
  have hn8 := hG.1
  have hn : σ 0 1 = nI n := hG.2.1
  have e4 : σ 4 = σ 0 := J.2.1
  have e80 : σ 8 0 = σ 3 0 := J.2.2.2.1.1
  have hT : σ 3 1 = nI t := J.2.2.2.1.2.1
  have hT8 : σ 8 1 = nI t := J.2.2.2.1.2.2.1
  have ht : t ≤ 120 := J.2.2.2.1.2.2.2
  have e10 : σ 10 = σ 9 := J.2.2.2.2.1.1
  have hB := J.2.2.2.2.1.2
  have e12 : σ 12 = σ 11 := J.2.2.2.2.2.1.1
  have hSh : Sh (σ 11) := J.2.2.2.2.2.1.2
  have e14 : σ 14 = σ 13 := J.2.2.2.2.2.2
  have cx := (cx_wind (n := n) a b σ hn8 hn).p
  by_cases c1 : (0 ≤ a ∧ a ≤ 6) ∧ 0 ≤ b ∧ b ≤ 11
  · rw [if_pos c1, if_pos c1] at cx
    by_cases c2 : n = 8
    · rw [if_pos c2, if_pos c2] at cx
      refine op_mk cx (fun σ1 he => ?_)
      have m4 : σ1 4 = σ 0 := mb he 4 (by decide) (by decide) (by decide) (by decide) (by first | exact e4 | exact (bset_n (by decide)).trans e4 | exact (rsT_n (by decide)).trans e4 | exact ((bset_n (by decide)).trans (bset_n (by decide))).trans e4 | exact (daysT_b σ 0 n (by decide) (by decide) _).trans e4)
      have cm := (cm_wind (n := n) a b σ1 hn8 (by rw [m4]; exact hn)).p
      rw [m4] at cm
      rw [if_pos c1, if_pos c1] at cm
      rw [if_pos c2, if_pos c2] at cm
      exact ⟨_, cm, fin_F 1 J he⟩
    · rw [if_neg c2, if_neg c2] at cx
      refine op_mk cx (fun σ1 he => ?_)
      have m4 : σ1 4 = σ 0 := mb he 4 (by decide) (by decide) (by decide) (by decide) (by first | exact e4 | exact (bset_n (by decide)).trans e4 | exact (rsT_n (by decide)).trans e4 | exact ((bset_n (by decide)).trans (bset_n (by decide))).trans e4 | exact (daysT_b σ 0 n (by decide) (by decide) _).trans e4)
      have cm := (cm_wind (n := n) a b σ1 hn8 (by rw [m4]; exact hn)).p
      rw [m4] at cm
      rw [if_pos c1, if_pos c1] at cm
      rw [if_neg c2, if_neg c2] at cm
      exact ⟨_, cm, fin_H J (Gd_addS (Gd_mono hG (by omega)) (by omega) ⟨i_le.mp c1.1.1, i_le.mp c1.1.2⟩ ⟨i_le.mp c1.2.1, i_le.mp c1.2.2⟩) (Hi_addS _ _ _ (by omega)) he⟩
  · rw [if_neg c1, if_neg c1] at cx
    refine op_mk cx (fun σ1 he => ?_)
    have m4 : σ1 4 = σ 0 := mb he 4 (by decide) (by decide) (by decide) (by decide) (by first | exact e4 | exact (bset_n (by decide)).trans e4 | exact (rsT_n (by decide)).trans e4 | exact ((bset_n (by decide)).trans (bset_n (by decide))).trans e4 | exact (daysT_b σ 0 n (by decide) (by decide) _).trans e4)
    have cm := (cm_wind (n := n) a b σ1 hn8 (by rw [m4]; exact hn)).p
    rw [m4] at cm
    rw [if_neg c1, if_neg c1] at cm
    exact ⟨_, cm, fin_F 0 J he⟩
set_option maxHeartbeats 1000000 in
theorem op_of (a b : Int32) {σ : Hp} {d : Int} (h : Jx σ d) (hd0 : 0 ≤ d) (hd : d ≤ 30720) : OpP yX4_of wX4_of 4 yX5_of wX5_of 4 [.int a, .int b] σ d := by
  obtain ⟨n, t, nk, J⟩ := h
  have hG := J.1.1
  have hSp := J.1.2.1
  have h64 := J.1.2.2
  have hn8 := hG.1
  have hn : σ 0 1 = nI n := hG.2.1
  have e4 : σ 4 = σ 0 := J.2.1
  have e80 : σ 8 0 = σ 3 0 := J.2.2.2.1.1
  have hT : σ 3 1 = nI t := J.2.2.2.1.2.1
  have hT8 : σ 8 1 = nI t := J.2.2.2.1.2.2.1
  have ht : t ≤ 120 := J.2.2.2.1.2.2.2
  have e10 : σ 10 = σ 9 := J.2.2.2.2.1.1
  have hB := J.2.2.2.2.1.2
  have e12 : σ 12 = σ 11 := J.2.2.2.2.2.1.1
  have hSh : Sh (σ 11) := J.2.2.2.2.2.1.2
  have e14 : σ 14 = σ 13 := J.2.2.2.2.2.2
  have cx := (cx_of a b σ hG (by omega)).p
  by_cases c1 : (0 ≤ a ∧ a < σ 0 1) ∧ 0 ≤ b ∧ b ≤ 9
  · rw [if_pos c1, if_pos c1] at cx
    refine op_mk cx (fun σ1 he => ?_)
    have m4 : σ1 4 = σ 0 := mb he 4 (by decide) (by decide) (by decide) (by decide) (by first | exact e4 | exact (bset_n (by decide)).trans e4 | exact (rsT_n (by decide)).trans e4 | exact ((bset_n (by decide)).trans (bset_n (by decide))).trans e4 | exact (daysT_b σ 0 n (by decide) (by decide) _).trans e4)
    have cm := (cm_of (n := n) (d := d) a b σ1 (by rw [m4]; exact hG)).p
    rw [m4] at cm
    rw [if_pos c1, if_pos c1] at cm
    exact ⟨_, cm, fin_A J he⟩
  · rw [if_neg c1, if_neg c1] at cx
    refine op_mk cx (fun σ1 he => ?_)
    have m4 : σ1 4 = σ 0 := mb he 4 (by decide) (by decide) (by decide) (by decide) (by first | exact e4 | exact (bset_n (by decide)).trans e4 | exact (rsT_n (by decide)).trans e4 | exact ((bset_n (by decide)).trans (bset_n (by decide))).trans e4 | exact (daysT_b σ 0 n (by decide) (by decide) _).trans e4)
    have cm := (cm_of (n := n) (d := d) a b σ1 (by rw [m4]; exact hG)).p
    rw [m4] at cm
    rw [if_neg c1, if_neg c1] at cm
    exact ⟨_, cm, fin_F 0 J he⟩
set_option maxHeartbeats 1000000 in
theorem op_change (a b v : Int32) {σ : Hp} {d : Int} (h : Jx σ d) (hd0 : 0 ≤ d) (hd : d ≤ 30720) : OpP yX4_change wX4_change 2 yX5_change wX5_change 3 [.int a, .int b, .int v] σ d := by
  obtain ⟨n, t, nk, J⟩ := h
  have hG := J.1.1
  have hSp := J.1.2.1
  have h64 := J.1.2.2
  have hn8 := hG.1
  have hn : σ 0 1 = nI n := hG.2.1
  have e4 : σ 4 = σ 0 := J.2.1
  have e80 : σ 8 0 = σ 3 0 := J.2.2.2.1.1
  have hT : σ 3 1 = nI t := J.2.2.2.1.2.1
  have hT8 : σ 8 1 = nI t := J.2.2.2.1.2.2.1
  have ht : t ≤ 120 := J.2.2.2.1.2.2.2
  have e10 : σ 10 = σ 9 := J.2.2.2.2.1.1
  have hB := J.2.2.2.2.1.2
  have e12 : σ 12 = σ 11 := J.2.2.2.2.2.1.1
  have hSh : Sh (σ 11) := J.2.2.2.2.2.1.2
  have e14 : σ 14 = σ 13 := J.2.2.2.2.2.2
  have cx := (cx_change a b v σ hG).p
  by_cases c1 : (0 ≤ a ∧ a < σ 0 1) ∧ (0 ≤ b ∧ b ≤ 5) ∧ flT b.toNatClampNeg ≤ v ∧ v ≤ fmT b.toNatClampNeg
  · rw [if_pos c1, if_pos c1] at cx
    refine op_mk cx (fun σ1 he => ?_)
    have m4 : σ1 4 = σ 0 := mb he 4 (by decide) (by decide) (by decide) (by decide) (by first | exact e4 | exact (bset_n (by decide)).trans e4 | exact (rsT_n (by decide)).trans e4 | exact ((bset_n (by decide)).trans (bset_n (by decide))).trans e4 | exact (daysT_b σ 0 n (by decide) (by decide) _).trans e4)
    obtain ⟨p, hp, ep⟩ := nlt (n := n) (by rw [← hn]; exact c1.1) (by omega)
    obtain ⟨w, hw, ew⟩ := nle 5 c1.2.1 (by decide)
    have hp6 : a.toNatClampNeg < 8 := by rw [ep, nI_clamp (by omega)]; omega
    have hw6 : b.toNatClampNeg < 6 := by rw [ew, nI_clamp (by omega)]; omega
    have hv6 : rg v (bnd b.toNatClampNeg) := by
      rw [← fmT_bnd hw6]
      refine ⟨?_, i_le.mp c1.2.2.2⟩
      have k1 := i_le.mp c1.2.2.1
      have k2 : 0 ≤ (flT b.toNatClampNeg).toInt := flT_pos hw6
      omega
    have cm := (cm_change (n := n) (d := d) a b v σ1 (by rw [m4]; exact hG)).p
    rw [m4] at cm
    rw [if_pos c1, if_pos c1] at cm
    exact ⟨_, cm, fin_H J (Gd_pset (Gd_mono hG (by omega)) hp6 hw6 hv6) ((Hi.rf _).pset hp6 hw6) he⟩
  · rw [if_neg c1, if_neg c1] at cx
    refine op_mk cx (fun σ1 he => ?_)
    have m4 : σ1 4 = σ 0 := mb he 4 (by decide) (by decide) (by decide) (by decide) (by first | exact e4 | exact (bset_n (by decide)).trans e4 | exact (rsT_n (by decide)).trans e4 | exact ((bset_n (by decide)).trans (bset_n (by decide))).trans e4 | exact (daysT_b σ 0 n (by decide) (by decide) _).trans e4)
    have cm := (cm_change (n := n) (d := d) a b v σ1 (by rw [m4]; exact hG)).p
    rw [m4] at cm
    rw [if_neg c1, if_neg c1] at cm
    exact ⟨_, cm, fin_F 0 J he⟩
set_option maxHeartbeats 1000000 in
theorem op_lend (a : Int32) {σ : Hp} {d : Int} (h : Jx σ d) (hd0 : 0 ≤ d) (hd : d ≤ 30720) : OpP yX4_lend wX4_lend 2 yX5_lend wX5_lend 2 [.int a] σ d := by
  obtain ⟨n, t, nk, J⟩ := h
  have hG := J.1.1
  have hSp := J.1.2.1
  have h64 := J.1.2.2
  have hn8 := hG.1
  have hn : σ 0 1 = nI n := hG.2.1
  have e4 : σ 4 = σ 0 := J.2.1
  have e80 : σ 8 0 = σ 3 0 := J.2.2.2.1.1
  have hT : σ 3 1 = nI t := J.2.2.2.1.2.1
  have hT8 : σ 8 1 = nI t := J.2.2.2.1.2.2.1
  have ht : t ≤ 120 := J.2.2.2.1.2.2.2
  have e10 : σ 10 = σ 9 := J.2.2.2.2.1.1
  have hB := J.2.2.2.2.1.2
  have e12 : σ 12 = σ 11 := J.2.2.2.2.2.1.1
  have hSh : Sh (σ 11) := J.2.2.2.2.2.1.2
  have e14 : σ 14 = σ 13 := J.2.2.2.2.2.2
  have cx := (cx_lend a σ hG).p
  by_cases c1 : 1 ≤ a ∧ a ≤ 99
  · rw [if_pos c1, if_pos c1] at cx
    by_cases c2 : n = 0
    · rw [if_pos c2, if_pos c2] at cx
      refine op_mk cx (fun σ1 he => ?_)
      have m4 : σ1 4 = σ 0 := mb he 4 (by decide) (by decide) (by decide) (by decide) (by first | exact e4 | exact (bset_n (by decide)).trans e4 | exact (rsT_n (by decide)).trans e4 | exact ((bset_n (by decide)).trans (bset_n (by decide))).trans e4 | exact (daysT_b σ 0 n (by decide) (by decide) _).trans e4)
      have cm := (cm_lend (n := n) (d := d) a σ1 (by rw [m4]; exact hG)).p
      rw [m4] at cm
      rw [if_pos c1, if_pos c1] at cm
      rw [if_pos c2, if_pos c2] at cm
      exact ⟨_, cm, fin_F 4 J he⟩
    · rw [if_neg c2, if_neg c2] at cx
      refine op_mk cx (fun σ1 he => ?_)
      have m4 : σ1 4 = σ 0 := mb he 4 (by decide) (by decide) (by decide) (by decide) (by first | exact e4 | exact (bset_n (by decide)).trans e4 | exact (rsT_n (by decide)).trans e4 | exact ((bset_n (by decide)).trans (bset_n (by decide))).trans e4 | exact (daysT_b σ 0 n (by decide) (by decide) _).trans e4)
      obtain ⟨⟨n', k1⟩, k2, k3⟩ := Gd_cut (n := n - 1) (v := a) (by rw [show n - 1 + 1 = n by omega]; exact Gd_mono hG (show d ≤ d + 60 by omega)) hSp c1.1
      have cm := (cm_lend (n := n) (d := d) a σ1 (by rw [m4]; exact hG)).p
      rw [m4] at cm
      rw [if_pos c1, if_pos c1] at cm
      rw [if_neg c2, if_neg c2] at cm
      exact ⟨_, cm, fin_S J k1 k2 (k3.trans h64) he⟩
  · rw [if_neg c1, if_neg c1] at cx
    refine op_mk cx (fun σ1 he => ?_)
    have m4 : σ1 4 = σ 0 := mb he 4 (by decide) (by decide) (by decide) (by decide) (by first | exact e4 | exact (bset_n (by decide)).trans e4 | exact (rsT_n (by decide)).trans e4 | exact ((bset_n (by decide)).trans (bset_n (by decide))).trans e4 | exact (daysT_b σ 0 n (by decide) (by decide) _).trans e4)
    have cm := (cm_lend (n := n) (d := d) a σ1 (by rw [m4]; exact hG)).p
    rw [m4] at cm
    rw [if_neg c1, if_neg c1] at cm
    exact ⟨_, cm, fin_F 0 J he⟩
set_option maxHeartbeats 1000000 in
theorem op_felt (a : Int32) {σ : Hp} {d : Int} (h : Jx σ d) (hd0 : 0 ≤ d) (hd : d ≤ 30720) : OpP yX4_felt wX4_felt 5 yX5_felt wX5_felt 5 [.int a] σ d := by
  obtain ⟨n, t, nk, J⟩ := h
  have hG := J.1.1
  have hSp := J.1.2.1
  have h64 := J.1.2.2
  have hn8 := hG.1
  have hn : σ 0 1 = nI n := hG.2.1
  have e4 : σ 4 = σ 0 := J.2.1
  have e80 : σ 8 0 = σ 3 0 := J.2.2.2.1.1
  have hT : σ 3 1 = nI t := J.2.2.2.1.2.1
  have hT8 : σ 8 1 = nI t := J.2.2.2.1.2.2.1
  have ht : t ≤ 120 := J.2.2.2.1.2.2.2
  have e10 : σ 10 = σ 9 := J.2.2.2.2.1.1
  have hB := J.2.2.2.2.1.2
  have e12 : σ 12 = σ 11 := J.2.2.2.2.2.1.1
  have hSh : Sh (σ 11) := J.2.2.2.2.2.1.2
  have e14 : σ 14 = σ 13 := J.2.2.2.2.2.2
  have cx := (cx_felt a σ hG (by omega)).p
  by_cases c1 : 0 ≤ a ∧ a ≤ 11
  · rw [if_pos c1, if_pos c1] at cx
    refine op_mk cx (fun σ1 he => ?_)
    have m4 : σ1 4 = σ 0 := mb he 4 (by decide) (by decide) (by decide) (by decide) (by first | exact e4 | exact (bset_n (by decide)).trans e4 | exact (rsT_n (by decide)).trans e4 | exact ((bset_n (by decide)).trans (bset_n (by decide))).trans e4 | exact (daysT_b σ 0 n (by decide) (by decide) _).trans e4)
    have cm := (cm_felt (n := n) (d := d) a σ1 (by rw [m4]; exact hG)).p
    rw [m4] at cm
    rw [if_pos c1, if_pos c1] at cm
    exact ⟨_, cm, fin_A J he⟩
  · rw [if_neg c1, if_neg c1] at cx
    refine op_mk cx (fun σ1 he => ?_)
    have m4 : σ1 4 = σ 0 := mb he 4 (by decide) (by decide) (by decide) (by decide) (by first | exact e4 | exact (bset_n (by decide)).trans e4 | exact (rsT_n (by decide)).trans e4 | exact ((bset_n (by decide)).trans (bset_n (by decide))).trans e4 | exact (daysT_b σ 0 n (by decide) (by decide) _).trans e4)
    have cm := (cm_felt (n := n) (d := d) a σ1 (by rw [m4]; exact hG)).p
    rw [m4] at cm
    rw [if_neg c1, if_neg c1] at cm
    exact ⟨_, cm, fin_F 0 J he⟩
set_option maxHeartbeats 1000000 in
theorem op_go (a : Int32) {σ : Hp} {d : Int} (h : Jx σ d) (hd0 : 0 ≤ d) (hd : d ≤ 30720) : OpP yX4_go wX4_go 6 yX5_go wX5_go 7 [.int a] σ d := by
  obtain ⟨n, t, nk, J⟩ := h
  have hG := J.1.1
  have hSp := J.1.2.1
  have h64 := J.1.2.2
  have hn8 := hG.1
  have hn : σ 0 1 = nI n := hG.2.1
  have e4 : σ 4 = σ 0 := J.2.1
  have e80 : σ 8 0 = σ 3 0 := J.2.2.2.1.1
  have hT : σ 3 1 = nI t := J.2.2.2.1.2.1
  have hT8 : σ 8 1 = nI t := J.2.2.2.1.2.2.1
  have ht : t ≤ 120 := J.2.2.2.1.2.2.2
  have e10 : σ 10 = σ 9 := J.2.2.2.2.1.1
  have hB := J.2.2.2.2.1.2
  have e12 : σ 12 = σ 11 := J.2.2.2.2.2.1.1
  have hSh : Sh (σ 11) := J.2.2.2.2.2.1.2
  have e14 : σ 14 = σ 13 := J.2.2.2.2.2.2
  have cx := (cx_go a σ hG (by omega)).p
  by_cases c1 : 1 ≤ a ∧ a ≤ 60
  · rw [if_pos c1, if_pos c1] at cx
    refine op_mk cx (fun σ1 he => ?_)
    have m4 : σ1 4 = σ 0 := mb he 4 (by decide) (by decide) (by decide) (by decide) (by first | exact e4 | exact (bset_n (by decide)).trans e4 | exact (rsT_n (by decide)).trans e4 | exact ((bset_n (by decide)).trans (bset_n (by decide))).trans e4 | exact (daysT_b σ 0 n (by decide) (by decide) _).trans e4)
    have hg : Gd (daysF (σ 0) n a.toNatClampNeg) n (d + 60) := by
      obtain ⟨c, hc, ec⟩ := nle 60 ⟨Int32.le_trans (by decide) c1.1, c1.2⟩ (by decide)
      rw [ec, nI_clamp (by omega)]
      exact Gd_mono (Gd_daysF hG c (by omega)) (by omega)
    have cm := (cm_go (n := n) (d := d) a σ1 (by rw [m4]; exact hG) (by omega)).p
    rw [m4] at cm
    rw [if_pos c1, if_pos c1] at cm
    exact ⟨_, cm, fin_H J hg (Hi_days hn8 _) (he.tr Eb_go)⟩
  · rw [if_neg c1, if_neg c1] at cx
    refine op_mk cx (fun σ1 he => ?_)
    have m4 : σ1 4 = σ 0 := mb he 4 (by decide) (by decide) (by decide) (by decide) (by first | exact e4 | exact (bset_n (by decide)).trans e4 | exact (rsT_n (by decide)).trans e4 | exact ((bset_n (by decide)).trans (bset_n (by decide))).trans e4 | exact (daysT_b σ 0 n (by decide) (by decide) _).trans e4)
    have cm := (cm_go (n := n) (d := d) a σ1 (by rw [m4]; exact hG) (by omega)).p
    rw [m4] at cm
    rw [if_neg c1, if_neg c1] at cm
    exact ⟨_, cm, fin_F 0 J he⟩
set_option maxHeartbeats 1000000 in
theorem op_now (a : Int32) {σ : Hp} {d : Int} (h : Jx σ d) (hd0 : 0 ≤ d) (hd : d ≤ 30720) : OpP yX4_now wX4_now 5 yX5_now wX5_now 5 [.int a] σ d := by
  obtain ⟨n, t, nk, J⟩ := h
  have hG := J.1.1
  have e4 : σ 4 = σ 0 := J.2.1
  have cx := (cx_now a σ hG (by omega)).p
  have cx : CtP yX4_now wX4_now 5 (.ref 0 :: [.int a]) σ (nowV (σ 0) n a) (fun σ' => Eb σ' (if 0 ≤ a ∧ a ≤ 7 then σ else fnd σ 13 0)) := by
    refine cx.eb ?_
    by_cases h2 : a = 2 ∨ a = 3
    · rw [if_pos h2, if_pos (by rcases h2 with rfl | rfl <;> decide)]; exact Eb.wgh
    · rw [if_neg h2]; exact Eb.rf _
  by_cases c1 : 0 ≤ a ∧ a ≤ 7
  · rw [if_pos c1] at cx
    refine op_mk cx (fun σ1 he => ?_)
    have m4 : σ1 4 = σ 0 := mb he 4 (by decide) (by decide) (by decide) (by decide) e4
    have cm := (cm_now (n := n) (d := d) a σ1 (by rw [m4]; exact hG) (by omega)).p
    rw [m4, if_pos c1] at cm
    exact ⟨_, cm, fin_A J he⟩
  · rw [if_neg c1] at cx
    refine op_mk cx (fun σ1 he => ?_)
    have m4 : σ1 4 = σ 0 := mb he 4 (by decide) (by decide) (by decide) (by decide) ((bset_n (by decide)).trans e4)
    have cm := (cm_now (n := n) (d := d) a σ1 (by rw [m4]; exact hG) (by omega)).p
    rw [m4, if_neg c1] at cm
    exact ⟨_, cm, fin_F 0 J he⟩
set_option maxHeartbeats 1000000 in
theorem op_ahead (a b v : Int32) {σ : Hp} {d : Int} (h : Jx σ d) (hd0 : 0 ≤ d) (hd : d ≤ 30720) : OpP yX4_ahead wX4_ahead 6 yX5_ahead wX5_ahead 7 [.int a, .int b, .int v] σ d := by
  obtain ⟨n, t, nk, J⟩ := h
  have hG := J.1.1
  have hSp := J.1.2.1
  have h64 := J.1.2.2
  have hn8 := hG.1
  have hn : σ 0 1 = nI n := hG.2.1
  have e4 : σ 4 = σ 0 := J.2.1
  have e80 : σ 8 0 = σ 3 0 := J.2.2.2.1.1
  have hT : σ 3 1 = nI t := J.2.2.2.1.2.1
  have hT8 : σ 8 1 = nI t := J.2.2.2.1.2.2.1
  have ht : t ≤ 120 := J.2.2.2.1.2.2.2
  have e10 : σ 10 = σ 9 := J.2.2.2.2.1.1
  have hB := J.2.2.2.2.1.2
  have e12 : σ 12 = σ 11 := J.2.2.2.2.2.1.1
  have hSh : Sh (σ 11) := J.2.2.2.2.2.1.2
  have e14 : σ 14 = σ 13 := J.2.2.2.2.2.2
  have cx := (cx_ahead a b v σ hG (by omega) h64)
  by_cases c1 : (0 ≤ a ∧ a < σ 0 1) ∧ (2 ≤ b ∧ b ≤ 5 ∨ b = 9) ∧ 0 ≤ v ∧ v ≤ 100
  · rw [if_pos c1, if_pos c1] at cx
    refine op_mk cx (fun σ1 he => ?_)
    have m4 : σ1 4 = σ 0 := mb he 4 (by decide) (by decide) (by decide) (by decide) (by first | exact e4 | exact (bset_n (by decide)).trans e4 | exact (rsT_n (by decide)).trans e4 | exact ((bset_n (by decide)).trans (bset_n (by decide))).trans e4 | exact (daysT_b σ 0 n (by decide) (by decide) _).trans e4)
    have cm := (cm_ahead (n := n) (d := d) a b v σ1 (by rw [m4]; exact hG) (by omega))
    rw [m4] at cm
    rw [if_pos c1, if_pos c1] at cm
    exact ⟨_, cm, fin_A J he⟩
  · rw [if_neg c1, if_neg c1] at cx
    refine op_mk cx (fun σ1 he => ?_)
    have m4 : σ1 4 = σ 0 := mb he 4 (by decide) (by decide) (by decide) (by decide) (by first | exact e4 | exact (bset_n (by decide)).trans e4 | exact (rsT_n (by decide)).trans e4 | exact ((bset_n (by decide)).trans (bset_n (by decide))).trans e4 | exact (daysT_b σ 0 n (by decide) (by decide) _).trans e4)
    have cm := (cm_ahead (n := n) (d := d) a b v σ1 (by rw [m4]; exact hG) (by omega))
    rw [m4] at cm
    rw [if_neg c1, if_neg c1] at cm
    exact ⟨_, cm, fin_F 0 J he⟩
set_option maxHeartbeats 1000000 in
theorem op_where (a : Int32) {σ : Hp} {d : Int} (h : Jx σ d) (hd0 : 0 ≤ d) (hd : d ≤ 30720) : OpP yX4_where wX4_where 6 yX5_where wX5_where 8 [.int a] σ d := by
  obtain ⟨n, t, nk, J⟩ := h
  have hG := J.1.1
  have hSp := J.1.2.1
  have h64 := J.1.2.2
  have hn8 := hG.1
  have hn : σ 0 1 = nI n := hG.2.1
  have e4 : σ 4 = σ 0 := J.2.1
  have e80 : σ 8 0 = σ 3 0 := J.2.2.2.1.1
  have hT : σ 3 1 = nI t := J.2.2.2.1.2.1
  have hT8 : σ 8 1 = nI t := J.2.2.2.1.2.2.1
  have ht : t ≤ 120 := J.2.2.2.1.2.2.2
  have e10 : σ 10 = σ 9 := J.2.2.2.2.1.1
  have hB := J.2.2.2.2.1.2
  have e12 : σ 12 = σ 11 := J.2.2.2.2.2.1.1
  have hSh : Sh (σ 11) := J.2.2.2.2.2.1.2
  have e14 : σ 14 = σ 13 := J.2.2.2.2.2.2
  have cx := (cx_where a σ hG (by omega) h64)
  by_cases c1 : 0 ≤ a ∧ a ≤ 100
  · rw [if_pos c1, if_pos c1] at cx
    refine op_mk cx (fun σ1 he => ?_)
    have m4 : σ1 4 = σ 0 := mb he 4 (by decide) (by decide) (by decide) (by decide) (by first | exact e4 | exact (bset_n (by decide)).trans e4 | exact (rsT_n (by decide)).trans e4 | exact ((bset_n (by decide)).trans (bset_n (by decide))).trans e4 | exact (daysT_b σ 0 n (by decide) (by decide) _).trans e4)
    have cm := (cm_where (n := n) (d := d) a σ1 (by rw [m4]; exact hG) (by omega))
    rw [m4] at cm
    rw [if_pos c1, if_pos c1] at cm
    exact ⟨_, cm, fin_A J he⟩
  · rw [if_neg c1, if_neg c1] at cx
    refine op_mk cx (fun σ1 he => ?_)
    have m4 : σ1 4 = σ 0 := mb he 4 (by decide) (by decide) (by decide) (by decide) (by first | exact e4 | exact (bset_n (by decide)).trans e4 | exact (rsT_n (by decide)).trans e4 | exact ((bset_n (by decide)).trans (bset_n (by decide))).trans e4 | exact (daysT_b σ 0 n (by decide) (by decide) _).trans e4)
    have cm := (cm_where (n := n) (d := d) a σ1 (by rw [m4]; exact hG) (by omega))
    rw [m4] at cm
    rw [if_neg c1, if_neg c1] at cm
    exact ⟨_, cm, fin_F 0 J he⟩
set_option maxHeartbeats 1000000 in
theorem op_when (a : Int32) {σ : Hp} {d : Int} (h : Jx σ d) (hd0 : 0 ≤ d) (hd : d ≤ 30720) : OpP yX4_when wX4_when 5 yX5_when wX5_when 6 [.int a] σ d := by
  obtain ⟨n, t, nk, J⟩ := h
  have hG := J.1.1
  have hSp := J.1.2.1
  have h64 := J.1.2.2
  have hn8 := hG.1
  have hn : σ 0 1 = nI n := hG.2.1
  have e4 : σ 4 = σ 0 := J.2.1
  have e80 : σ 8 0 = σ 3 0 := J.2.2.2.1.1
  have hT : σ 3 1 = nI t := J.2.2.2.1.2.1
  have hT8 : σ 8 1 = nI t := J.2.2.2.1.2.2.1
  have ht : t ≤ 120 := J.2.2.2.1.2.2.2
  have e10 : σ 10 = σ 9 := J.2.2.2.2.1.1
  have hB := J.2.2.2.2.1.2
  have e12 : σ 12 = σ 11 := J.2.2.2.2.2.1.1
  have hSh : Sh (σ 11) := J.2.2.2.2.2.1.2
  have e14 : σ 14 = σ 13 := J.2.2.2.2.2.2
  have cx := (cx_when a σ hG (by omega) h64)
  by_cases c1 : 0 ≤ a ∧ a ≤ 11
  · rw [if_pos c1, if_pos c1] at cx
    refine op_mk cx (fun σ1 he => ?_)
    have m4 : σ1 4 = σ 0 := mb he 4 (by decide) (by decide) (by decide) (by decide) ((rsT_n (by decide)).trans e4)
    have cm := (cm_when (n := n) (d := d) a σ1 (by rw [m4]; exact hG) (by omega) )
    rw [m4] at cm
    rw [if_pos c1, if_pos c1] at cm
    exact ⟨_, cm, fin_R J he⟩
  · rw [if_neg c1, if_neg c1] at cx
    refine op_mk cx (fun σ1 he => ?_)
    have m4 : σ1 4 = σ 0 := mb he 4 (by decide) (by decide) (by decide) (by decide) (by first | exact e4 | exact (bset_n (by decide)).trans e4 | exact (rsT_n (by decide)).trans e4 | exact ((bset_n (by decide)).trans (bset_n (by decide))).trans e4 | exact (daysT_b σ 0 n (by decide) (by decide) _).trans e4)
    have cm := (cm_when (n := n) (d := d) a σ1 (by rw [m4]; exact hG) (by omega) )
    rw [m4] at cm
    rw [if_neg c1, if_neg c1] at cm
    exact ⟨_, cm, fin_F 0 J he⟩
set_option maxHeartbeats 1000000 in
theorem op_comes (a : Int32) {σ : Hp} {d : Int} (h : Jx σ d) (hd0 : 0 ≤ d) (hd : d ≤ 30720) : OpP yX4_comes wX4_comes 5 yX5_comes wX5_comes 7 [.int a] σ d := by
  obtain ⟨n, t, nk, J⟩ := h
  have hG := J.1.1
  have hSp := J.1.2.1
  have h64 := J.1.2.2
  have hn8 := hG.1
  have hn : σ 0 1 = nI n := hG.2.1
  have e4 : σ 4 = σ 0 := J.2.1
  have e80 : σ 8 0 = σ 3 0 := J.2.2.2.1.1
  have hT : σ 3 1 = nI t := J.2.2.2.1.2.1
  have hT8 : σ 8 1 = nI t := J.2.2.2.1.2.2.1
  have ht : t ≤ 120 := J.2.2.2.1.2.2.2
  have e10 : σ 10 = σ 9 := J.2.2.2.2.1.1
  have hB := J.2.2.2.2.1.2
  have e12 : σ 12 = σ 11 := J.2.2.2.2.2.1.1
  have hSh : Sh (σ 11) := J.2.2.2.2.2.1.2
  have e14 : σ 14 = σ 13 := J.2.2.2.2.2.2
  have cx := (cx_comes a σ hG (by omega) h64)
  by_cases c1 : 0 ≤ a ∧ a < σ 0 1
  · rw [if_pos c1, if_pos c1] at cx
    refine op_mk cx (fun σ1 he => ?_)
    have m4 : σ1 4 = σ 0 := mb he 4 (by decide) (by decide) (by decide) (by decide) ((rsT_n (by decide)).trans e4)
    have cm := (cm_comes (n := n) (d := d) a σ1 (by rw [m4]; exact hG) (by omega) )
    rw [m4] at cm
    rw [if_pos c1, if_pos c1] at cm
    exact ⟨_, cm, fin_R J he⟩
  · rw [if_neg c1, if_neg c1] at cx
    refine op_mk cx (fun σ1 he => ?_)
    have m4 : σ1 4 = σ 0 := mb he 4 (by decide) (by decide) (by decide) (by decide) (by first | exact e4 | exact (bset_n (by decide)).trans e4 | exact (rsT_n (by decide)).trans e4 | exact ((bset_n (by decide)).trans (bset_n (by decide))).trans e4 | exact (daysT_b σ 0 n (by decide) (by decide) _).trans e4)
    have cm := (cm_comes (n := n) (d := d) a σ1 (by rw [m4]; exact hG) (by omega) )
    rw [m4] at cm
    rw [if_neg c1, if_neg c1] at cm
    exact ⟨_, cm, fin_F 0 J he⟩
set_option maxHeartbeats 1000000 in
theorem op_off {σ : Hp} {d : Int} (h : Jx σ d) (hd0 : 0 ≤ d) (hd : d ≤ 30720) : OpP yX4_off wX4_off 5 yX5_off wX5_off 7 [] σ d := by
  obtain ⟨n, t, nk, J⟩ := h
  have hG := J.1.1
  have hSp := J.1.2.1
  have h64 := J.1.2.2
  have hn8 := hG.1
  have hn : σ 0 1 = nI n := hG.2.1
  have e4 : σ 4 = σ 0 := J.2.1
  have e80 : σ 8 0 = σ 3 0 := J.2.2.2.1.1
  have hT : σ 3 1 = nI t := J.2.2.2.1.2.1
  have hT8 : σ 8 1 = nI t := J.2.2.2.1.2.2.1
  have ht : t ≤ 120 := J.2.2.2.1.2.2.2
  have e10 : σ 10 = σ 9 := J.2.2.2.2.1.1
  have hB := J.2.2.2.2.1.2
  have e12 : σ 12 = σ 11 := J.2.2.2.2.2.1.1
  have hSh : Sh (σ 11) := J.2.2.2.2.2.1.2
  have e14 : σ 14 = σ 13 := J.2.2.2.2.2.2
  have cx := (cx_off σ hG (by omega) h64)
  refine op_mk cx (fun σ1 he => ?_)
  have m4 : σ1 4 = σ 0 := mb he 4 (by decide) (by decide) (by decide) (by decide) ((rsT_n (by decide)).trans e4)
  have cm := (cm_off (n := n) (d := d) σ1 (by rw [m4]; exact hG) (by omega))
  rw [m4] at cm
  exact ⟨_, cm, fin_R J he⟩
set_option maxHeartbeats 1000000 in
theorem op_unwind (a : Int32) {σ : Hp} {d : Int} (h : Jx σ d) (hd0 : 0 ≤ d) (hd : d ≤ 30720) : OpP yX4_unwind wX4_unwind 2 yX5_unwind wX5_unwind 3 [.int a] σ d := by
  obtain ⟨n, t, nk, J⟩ := h
  have hG := J.1.1
  have hSp := J.1.2.1
  have h64 := J.1.2.2
  have hn8 := hG.1
  have hn : σ 0 1 = nI n := hG.2.1
  have e4 : σ 4 = σ 0 := J.2.1
  have e80 : σ 8 0 = σ 3 0 := J.2.2.2.1.1
  have hT : σ 3 1 = nI t := J.2.2.2.1.2.1
  have hT8 : σ 8 1 = nI t := J.2.2.2.1.2.2.1
  have ht : t ≤ 120 := J.2.2.2.1.2.2.2
  have e10 : σ 10 = σ 9 := J.2.2.2.2.1.1
  have hB := J.2.2.2.2.1.2
  have e12 : σ 12 = σ 11 := J.2.2.2.2.2.1.1
  have hSh : Sh (σ 11) := J.2.2.2.2.2.1.2
  have e14 : σ 14 = σ 13 := J.2.2.2.2.2.2
  have cx := (cx_unwind a σ hG).p
  by_cases c1 : 0 ≤ a ∧ a ≤ nI (2 ^ n) - 1
  · rw [if_pos c1, if_pos c1] at cx
    refine op_mk cx (fun σ1 he => ?_)
    have m4 : σ1 4 = σ 0 := mb he 4 (by decide) (by decide) (by decide) (by decide) (by first | exact e4 | exact (bset_n (by decide)).trans e4 | exact (rsT_n (by decide)).trans e4 | exact ((bset_n (by decide)).trans (bset_n (by decide))).trans e4 | exact (daysT_b σ 0 n (by decide) (by decide) _).trans e4)
    have cm := (cm_unwind (n := n) (d := d) a σ1 (by rw [m4]; exact hG)).p
    rw [m4] at cm
    rw [if_pos c1, if_pos c1] at cm
    exact ⟨_, cm, fin_A J he⟩
  · rw [if_neg c1, if_neg c1] at cx
    refine op_mk cx (fun σ1 he => ?_)
    have m4 : σ1 4 = σ 0 := mb he 4 (by decide) (by decide) (by decide) (by decide) (by first | exact e4 | exact (bset_n (by decide)).trans e4 | exact (rsT_n (by decide)).trans e4 | exact ((bset_n (by decide)).trans (bset_n (by decide))).trans e4 | exact (daysT_b σ 0 n (by decide) (by decide) _).trans e4)
    have cm := (cm_unwind (n := n) (d := d) a σ1 (by rw [m4]; exact hG)).p
    rw [m4] at cm
    rw [if_neg c1, if_neg c1] at cm
    exact ⟨_, cm, fin_F 0 J he⟩
set_option maxHeartbeats 1000000 in
theorem op_had (a : Int32) {σ : Hp} {d : Int} (h : Jx σ d) (hd0 : 0 ≤ d) (hd : d ≤ 30720) : OpP yX4_had wX4_had 2 yX5_had wX5_had 3 [.int a] σ d := by
  obtain ⟨n, t, nk, J⟩ := h
  have hG := J.1.1
  have hSp := J.1.2.1
  have h64 := J.1.2.2
  have hn8 := hG.1
  have hn : σ 0 1 = nI n := hG.2.1
  have e4 : σ 4 = σ 0 := J.2.1
  have e80 : σ 8 0 = σ 3 0 := J.2.2.2.1.1
  have hT : σ 3 1 = nI t := J.2.2.2.1.2.1
  have hT8 : σ 8 1 = nI t := J.2.2.2.1.2.2.1
  have ht : t ≤ 120 := J.2.2.2.1.2.2.2
  have e10 : σ 10 = σ 9 := J.2.2.2.2.1.1
  have hB := J.2.2.2.2.1.2
  have e12 : σ 12 = σ 11 := J.2.2.2.2.2.1.1
  have hSh : Sh (σ 11) := J.2.2.2.2.2.1.2
  have e14 : σ 14 = σ 13 := J.2.2.2.2.2.2
  have cx := (cx_had a σ hG).p
  by_cases c1 : 0 ≤ a ∧ a ≤ 999
  · rw [if_pos c1, if_pos c1] at cx
    refine op_mk cx (fun σ1 he => ?_)
    have m4 : σ1 4 = σ 0 := mb he 4 (by decide) (by decide) (by decide) (by decide) (by first | exact e4 | exact (bset_n (by decide)).trans e4 | exact (rsT_n (by decide)).trans e4 | exact ((bset_n (by decide)).trans (bset_n (by decide))).trans e4 | exact (daysT_b σ 0 n (by decide) (by decide) _).trans e4)
    have cm := (cm_had (n := n) (d := d) a σ1 (by rw [m4]; exact hG)).p
    rw [m4] at cm
    rw [if_pos c1, if_pos c1] at cm
    exact ⟨_, cm, fin_A J he⟩
  · rw [if_neg c1, if_neg c1] at cx
    refine op_mk cx (fun σ1 he => ?_)
    have m4 : σ1 4 = σ 0 := mb he 4 (by decide) (by decide) (by decide) (by decide) (by first | exact e4 | exact (bset_n (by decide)).trans e4 | exact (rsT_n (by decide)).trans e4 | exact ((bset_n (by decide)).trans (bset_n (by decide))).trans e4 | exact (daysT_b σ 0 n (by decide) (by decide) _).trans e4)
    have cm := (cm_had (n := n) (d := d) a σ1 (by rw [m4]; exact hG)).p
    rw [m4] at cm
    rw [if_neg c1, if_neg c1] at cm
    exact ⟨_, cm, fin_F 0 J he⟩
set_option maxHeartbeats 1000000 in
theorem op_drawTo (a b v : Int32) {σ : Hp} {d : Int} (h : Jx σ d) (hd0 : 0 ≤ d) (hd : d ≤ 30720) : OpP yX4_drawTo wX4_drawTo 6 yX5_drawTo wX5_drawTo 8 [.int a, .int b, .int v] σ d := by
  obtain ⟨n, t, nk, J⟩ := h
  have hG := J.1.1
  have hSp := J.1.2.1
  have h64 := J.1.2.2
  have hn8 := hG.1
  have hn : σ 0 1 = nI n := hG.2.1
  have e4 : σ 4 = σ 0 := J.2.1
  have e80 : σ 8 0 = σ 3 0 := J.2.2.2.1.1
  have hT : σ 3 1 = nI t := J.2.2.2.1.2.1
  have hT8 : σ 8 1 = nI t := J.2.2.2.1.2.2.1
  have ht : t ≤ 120 := J.2.2.2.1.2.2.2
  have e10 : σ 10 = σ 9 := J.2.2.2.2.1.1
  have hB := J.2.2.2.2.1.2
  have e12 : σ 12 = σ 11 := J.2.2.2.2.2.1.1
  have hSh : Sh (σ 11) := J.2.2.2.2.2.1.2
  have e14 : σ 14 = σ 13 := J.2.2.2.2.2.2
  have cx := (cx_drawTo a b v σ hG (by omega) h64)
  by_cases c1 : (0 ≤ a ∧ a < σ 0 1) ∧ (0 ≤ b ∧ b ≤ 11) ∧ 0 ≤ v ∧ v ≤ 40
  · rw [if_pos c1, if_pos c1] at cx
    refine op_mk cx (fun σ1 he => ?_)
    have m4 : σ1 4 = σ 0 := mb he 4 (by decide) (by decide) (by decide) (by decide) (by first | exact e4 | exact (bset_n (by decide)).trans e4 | exact (rsT_n (by decide)).trans e4 | exact ((bset_n (by decide)).trans (bset_n (by decide))).trans e4 | exact (daysT_b σ 0 n (by decide) (by decide) _).trans e4)
    have cm := (cm_drawTo (n := n) (d := d) a b v σ1 (by rw [m4]; exact hG) (by omega))
    rw [m4] at cm
    rw [if_pos c1, if_pos c1] at cm
    exact ⟨_, cm, fin_A J he⟩
  · rw [if_neg c1, if_neg c1] at cx
    refine op_mk cx (fun σ1 he => ?_)
    have m4 : σ1 4 = σ 0 := mb he 4 (by decide) (by decide) (by decide) (by decide) (by first | exact e4 | exact (bset_n (by decide)).trans e4 | exact (rsT_n (by decide)).trans e4 | exact ((bset_n (by decide)).trans (bset_n (by decide))).trans e4 | exact (daysT_b σ 0 n (by decide) (by decide) _).trans e4)
    have cm := (cm_drawTo (n := n) (d := d) a b v σ1 (by rw [m4]; exact hG) (by omega))
    rw [m4] at cm
    rw [if_neg c1, if_neg c1] at cm
    exact ⟨_, cm, fin_F 0 J he⟩
set_option maxHeartbeats 1000000 in
theorem op_longFor (a b v : Int32) {σ : Hp} {d : Int} (h : Jx σ d) (hd0 : 0 ≤ d) (hd : d ≤ 30720) : OpP yX4_longFor wX4_longFor 6 yX5_longFor wX5_longFor 8 [.int a, .int b, .int v] σ d := by
  obtain ⟨n, t, nk, J⟩ := h
  have hG := J.1.1
  have hSp := J.1.2.1
  have h64 := J.1.2.2
  have hn8 := hG.1
  have hn : σ 0 1 = nI n := hG.2.1
  have e4 : σ 4 = σ 0 := J.2.1
  have e80 : σ 8 0 = σ 3 0 := J.2.2.2.1.1
  have hT : σ 3 1 = nI t := J.2.2.2.1.2.1
  have hT8 : σ 8 1 = nI t := J.2.2.2.1.2.2.1
  have ht : t ≤ 120 := J.2.2.2.1.2.2.2
  have e10 : σ 10 = σ 9 := J.2.2.2.2.1.1
  have hB := J.2.2.2.2.1.2
  have e12 : σ 12 = σ 11 := J.2.2.2.2.2.1.1
  have hSh : Sh (σ 11) := J.2.2.2.2.2.1.2
  have e14 : σ 14 = σ 13 := J.2.2.2.2.2.2
  have cx := (cx_longFor a b v σ hG (by omega) h64)
  by_cases c1 : (0 ≤ a ∧ a < σ 0 1) ∧ (0 ≤ b ∧ b ≤ 11) ∧ 0 ≤ v ∧ v ≤ 40
  · rw [if_pos c1, if_pos c1] at cx
    refine op_mk cx (fun σ1 he => ?_)
    have m4 : σ1 4 = σ 0 := mb he 4 (by decide) (by decide) (by decide) (by decide) ((rsT_n (by decide)).trans e4)
    have cm := (cm_longFor (n := n) (d := d) a b v σ1 (by rw [m4]; exact hG) (by omega) )
    rw [m4] at cm
    rw [if_pos c1, if_pos c1] at cm
    exact ⟨_, cm, fin_R J he⟩
  · rw [if_neg c1, if_neg c1] at cx
    refine op_mk cx (fun σ1 he => ?_)
    have m4 : σ1 4 = σ 0 := mb he 4 (by decide) (by decide) (by decide) (by decide) (by first | exact e4 | exact (bset_n (by decide)).trans e4 | exact (rsT_n (by decide)).trans e4 | exact ((bset_n (by decide)).trans (bset_n (by decide))).trans e4 | exact (daysT_b σ 0 n (by decide) (by decide) _).trans e4)
    have cm := (cm_longFor (n := n) (d := d) a b v σ1 (by rw [m4]; exact hG) (by omega) )
    rw [m4] at cm
    rw [if_neg c1, if_neg c1] at cm
    exact ⟨_, cm, fin_F 0 J he⟩
set_option maxHeartbeats 1000000 in
theorem op_kindFor (a v : Int32) {σ : Hp} {d : Int} (h : Jx σ d) (hd0 : 0 ≤ d) (hd : d ≤ 30720) : OpP yX4_kindFor wX4_kindFor 6 yX5_kindFor wX5_kindFor 8 [.int a, .int v] σ d := by
  obtain ⟨n, t, nk, J⟩ := h
  have hG := J.1.1
  have hSp := J.1.2.1
  have h64 := J.1.2.2
  have hn8 := hG.1
  have hn : σ 0 1 = nI n := hG.2.1
  have e4 : σ 4 = σ 0 := J.2.1
  have e80 : σ 8 0 = σ 3 0 := J.2.2.2.1.1
  have hT : σ 3 1 = nI t := J.2.2.2.1.2.1
  have hT8 : σ 8 1 = nI t := J.2.2.2.1.2.2.1
  have ht : t ≤ 120 := J.2.2.2.1.2.2.2
  have e10 : σ 10 = σ 9 := J.2.2.2.2.1.1
  have hB := J.2.2.2.2.1.2
  have e12 : σ 12 = σ 11 := J.2.2.2.2.2.1.1
  have hSh : Sh (σ 11) := J.2.2.2.2.2.1.2
  have e14 : σ 14 = σ 13 := J.2.2.2.2.2.2
  have cx := (cx_kindFor a v σ hG (by omega) h64)
  by_cases c1 : (0 ≤ a ∧ a < σ 0 1) ∧ 0 ≤ v ∧ v ≤ 40
  · rw [if_pos c1, if_pos c1] at cx
    refine op_mk cx (fun σ1 he => ?_)
    have m4 : σ1 4 = σ 0 := mb he 4 (by decide) (by decide) (by decide) (by decide) (by first | exact e4 | exact (bset_n (by decide)).trans e4 | exact (rsT_n (by decide)).trans e4 | exact ((bset_n (by decide)).trans (bset_n (by decide))).trans e4 | exact (daysT_b σ 0 n (by decide) (by decide) _).trans e4)
    have cm := (cm_kindFor (n := n) (d := d) a v σ1 (by rw [m4]; exact hG) (by omega))
    rw [m4] at cm
    rw [if_pos c1, if_pos c1] at cm
    exact ⟨_, cm, fin_A J he⟩
  · rw [if_neg c1, if_neg c1] at cx
    refine op_mk cx (fun σ1 he => ?_)
    have m4 : σ1 4 = σ 0 := mb he 4 (by decide) (by decide) (by decide) (by decide) (by first | exact e4 | exact (bset_n (by decide)).trans e4 | exact (rsT_n (by decide)).trans e4 | exact ((bset_n (by decide)).trans (bset_n (by decide))).trans e4 | exact (daysT_b σ 0 n (by decide) (by decide) _).trans e4)
    have cm := (cm_kindFor (n := n) (d := d) a v σ1 (by rw [m4]; exact hG) (by omega))
    rw [m4] at cm
    rw [if_neg c1, if_neg c1] at cm
    exact ⟨_, cm, fin_F 0 J he⟩
set_option maxHeartbeats 1000000 in
theorem op_dragFor (b v : Int32) {σ : Hp} {d : Int} (h : Jx σ d) (hd0 : 0 ≤ d) (hd : d ≤ 30720) : OpP yX4_dragFor wX4_dragFor 6 yX5_dragFor wX5_dragFor 8 [.int b, .int v] σ d := by
  obtain ⟨n, t, nk, J⟩ := h
  have hG := J.1.1
  have hSp := J.1.2.1
  have h64 := J.1.2.2
  have hn8 := hG.1
  have hn : σ 0 1 = nI n := hG.2.1
  have e4 : σ 4 = σ 0 := J.2.1
  have e80 : σ 8 0 = σ 3 0 := J.2.2.2.1.1
  have hT : σ 3 1 = nI t := J.2.2.2.1.2.1
  have hT8 : σ 8 1 = nI t := J.2.2.2.1.2.2.1
  have ht : t ≤ 120 := J.2.2.2.1.2.2.2
  have e10 : σ 10 = σ 9 := J.2.2.2.2.1.1
  have hB := J.2.2.2.2.1.2
  have e12 : σ 12 = σ 11 := J.2.2.2.2.2.1.1
  have hSh : Sh (σ 11) := J.2.2.2.2.2.1.2
  have e14 : σ 14 = σ 13 := J.2.2.2.2.2.2
  have cx := (cx_dragFor b v σ hG (by omega) h64)
  by_cases c1 : (0 ≤ b ∧ b ≤ 11) ∧ 0 ≤ v ∧ v ≤ 40
  · rw [if_pos c1, if_pos c1] at cx
    refine op_mk cx (fun σ1 he => ?_)
    have m4 : σ1 4 = σ 0 := mb he 4 (by decide) (by decide) (by decide) (by decide) ((rsT_n (by decide)).trans e4)
    have cm := (cm_dragFor (n := n) (d := d) b v σ1 (by rw [m4]; exact hG) (by omega) )
    rw [m4] at cm
    rw [if_pos c1, if_pos c1] at cm
    exact ⟨_, cm, fin_R J he⟩
  · rw [if_neg c1, if_neg c1] at cx
    refine op_mk cx (fun σ1 he => ?_)
    have m4 : σ1 4 = σ 0 := mb he 4 (by decide) (by decide) (by decide) (by decide) (by first | exact e4 | exact (bset_n (by decide)).trans e4 | exact (rsT_n (by decide)).trans e4 | exact ((bset_n (by decide)).trans (bset_n (by decide))).trans e4 | exact (daysT_b σ 0 n (by decide) (by decide) _).trans e4)
    have cm := (cm_dragFor (n := n) (d := d) b v σ1 (by rw [m4]; exact hG) (by omega) )
    rw [m4] at cm
    rw [if_neg c1, if_neg c1] at cm
    exact ⟨_, cm, fin_F 0 J he⟩
set_option maxHeartbeats 1000000 in
theorem op_loosen (b v : Int32) {σ : Hp} {d : Int} (h : Jx σ d) (hd0 : 0 ≤ d) (hd : d ≤ 30720) : OpP yX4_loosen wX4_loosen 6 yX5_loosen wX5_loosen 8 [.int b, .int v] σ d := by
  obtain ⟨n, t, nk, J⟩ := h
  have hG := J.1.1
  have hSp := J.1.2.1
  have h64 := J.1.2.2
  have hn8 := hG.1
  have hn : σ 0 1 = nI n := hG.2.1
  have e4 : σ 4 = σ 0 := J.2.1
  have e80 : σ 8 0 = σ 3 0 := J.2.2.2.1.1
  have hT : σ 3 1 = nI t := J.2.2.2.1.2.1
  have hT8 : σ 8 1 = nI t := J.2.2.2.1.2.2.1
  have ht : t ≤ 120 := J.2.2.2.1.2.2.2
  have e10 : σ 10 = σ 9 := J.2.2.2.2.1.1
  have hB := J.2.2.2.2.1.2
  have e12 : σ 12 = σ 11 := J.2.2.2.2.2.1.1
  have hSh : Sh (σ 11) := J.2.2.2.2.2.1.2
  have e14 : σ 14 = σ 13 := J.2.2.2.2.2.2
  have cx := (cx_loosen b v σ hG (by omega) h64)
  by_cases c1 : (0 ≤ b ∧ b ≤ 11) ∧ 0 ≤ v ∧ v ≤ 20
  · rw [if_pos c1, if_pos c1] at cx
    refine op_mk cx (fun σ1 he => ?_)
    have m4 : σ1 4 = σ 0 := mb he 4 (by decide) (by decide) (by decide) (by decide) ((rsT_n (by decide)).trans e4)
    have cm := (cm_loosen (n := n) (d := d) b v σ1 (by rw [m4]; exact hG) (by omega) (by rw [m4]; exact h64))
    rw [m4] at cm
    rw [if_pos c1, if_pos c1] at cm
    exact ⟨_, cm, fin_R J he⟩
  · rw [if_neg c1, if_neg c1] at cx
    refine op_mk cx (fun σ1 he => ?_)
    have m4 : σ1 4 = σ 0 := mb he 4 (by decide) (by decide) (by decide) (by decide) (by first | exact e4 | exact (bset_n (by decide)).trans e4 | exact (rsT_n (by decide)).trans e4 | exact ((bset_n (by decide)).trans (bset_n (by decide))).trans e4 | exact (daysT_b σ 0 n (by decide) (by decide) _).trans e4)
    have cm := (cm_loosen (n := n) (d := d) b v σ1 (by rw [m4]; exact hG) (by omega) (by rw [m4]; exact h64))
    rw [m4] at cm
    rw [if_neg c1, if_neg c1] at cm
    exact ⟨_, cm, fin_F 0 J he⟩
set_option maxHeartbeats 1000000 in
theorem op_fits (a b : Int32) {σ : Hp} {d : Int} (h : Jx σ d) (hd0 : 0 ≤ d) (hd : d ≤ 30720) : OpP yX4_fits wX4_fits 7 yX5_fits wX5_fits 8 [.int a, .int b] σ d := by
  obtain ⟨n, t, nk, J⟩ := h
  have hG := J.1.1
  have hSp := J.1.2.1
  have h64 := J.1.2.2
  have hn8 := hG.1
  have hn : σ 0 1 = nI n := hG.2.1
  have e4 : σ 4 = σ 0 := J.2.1
  have e80 : σ 8 0 = σ 3 0 := J.2.2.2.1.1
  have hT : σ 3 1 = nI t := J.2.2.2.1.2.1
  have hT8 : σ 8 1 = nI t := J.2.2.2.1.2.2.1
  have ht : t ≤ 120 := J.2.2.2.1.2.2.2
  have e10 : σ 10 = σ 9 := J.2.2.2.2.1.1
  have hB := J.2.2.2.2.1.2
  have e12 : σ 12 = σ 11 := J.2.2.2.2.2.1.1
  have hSh : Sh (σ 11) := J.2.2.2.2.2.1.2
  have e14 : σ 14 = σ 13 := J.2.2.2.2.2.2
  have cx := (cx_fits a b σ hG (by omega) h64 hSh)
  by_cases c1 : 0 ≤ a ∧ a ≤ 3
  · rw [if_pos c1, if_pos c1] at cx
    by_cases c2 : σ 11 a.toNatClampNeg = 0
    · rw [if_pos c2, if_pos c2] at cx
      refine op_mk cx (fun σ1 he => ?_)
      have m4 : σ1 4 = σ 0 := mb he 4 (by decide) (by decide) (by decide) (by decide) (by first | exact e4 | exact (bset_n (by decide)).trans e4 | exact (rsT_n (by decide)).trans e4 | exact ((bset_n (by decide)).trans (bset_n (by decide))).trans e4 | exact (daysT_b σ 0 n (by decide) (by decide) _).trans e4)
      have m12 : σ1 12 = σ 11 := mb he 12 (by decide) (by decide) (by decide) (by decide) (by first | exact e12 | exact (bset_n (by decide)).trans e12 | exact (rsT_n (by decide)).trans e12 | exact ((bset_n (by decide)).trans (bset_n (by decide))).trans e12)
      have cm := (cm_fits (n := n) (d := d) a b σ1 (by rw [m4]; exact hG) (by omega) (by rw [m12]; exact hSh))
      rw [m4, m12] at cm
      rw [if_pos c1, if_pos c1] at cm
      rw [if_pos c2, if_pos c2] at cm
      exact ⟨_, cm, fin_F 5 J he⟩
    · rw [if_neg c2, if_neg c2] at cx
      by_cases c3 : 0 ≤ b ∧ b < σ 0 1
      · rw [if_pos c3, if_pos c3] at cx
        refine op_mk cx (fun σ1 he => ?_)
        have m4 : σ1 4 = σ 0 := mb he 4 (by decide) (by decide) (by decide) (by decide) (by first | exact e4 | exact (bset_n (by decide)).trans e4 | exact (rsT_n (by decide)).trans e4 | exact ((bset_n (by decide)).trans (bset_n (by decide))).trans e4 | exact (daysT_b σ 0 n (by decide) (by decide) _).trans e4)
        have m12 : σ1 12 = σ 11 := mb he 12 (by decide) (by decide) (by decide) (by decide) (by first | exact e12 | exact (bset_n (by decide)).trans e12 | exact (rsT_n (by decide)).trans e12 | exact ((bset_n (by decide)).trans (bset_n (by decide))).trans e12)
        have cm := (cm_fits (n := n) (d := d) a b σ1 (by rw [m4]; exact hG) (by omega) (by rw [m12]; exact hSh))
        rw [m4, m12] at cm
        rw [if_pos c1, if_pos c1] at cm
        rw [if_neg c2, if_neg c2] at cm
        rw [if_pos c3, if_pos c3] at cm
        exact ⟨_, cm, fin_A J he⟩
      · rw [if_neg c3, if_neg c3] at cx
        refine op_mk cx (fun σ1 he => ?_)
        have m4 : σ1 4 = σ 0 := mb he 4 (by decide) (by decide) (by decide) (by decide) (by first | exact e4 | exact (bset_n (by decide)).trans e4 | exact (rsT_n (by decide)).trans e4 | exact ((bset_n (by decide)).trans (bset_n (by decide))).trans e4 | exact (daysT_b σ 0 n (by decide) (by decide) _).trans e4)
        have m12 : σ1 12 = σ 11 := mb he 12 (by decide) (by decide) (by decide) (by decide) (by first | exact e12 | exact (bset_n (by decide)).trans e12 | exact (rsT_n (by decide)).trans e12 | exact ((bset_n (by decide)).trans (bset_n (by decide))).trans e12)
        have cm := (cm_fits (n := n) (d := d) a b σ1 (by rw [m4]; exact hG) (by omega) (by rw [m12]; exact hSh))
        rw [m4, m12] at cm
        rw [if_pos c1, if_pos c1] at cm
        rw [if_neg c2, if_neg c2] at cm
        rw [if_neg c3, if_neg c3] at cm
        exact ⟨_, cm, fin_F 0 J he⟩
  · rw [if_neg c1, if_neg c1] at cx
    refine op_mk cx (fun σ1 he => ?_)
    have m4 : σ1 4 = σ 0 := mb he 4 (by decide) (by decide) (by decide) (by decide) (by first | exact e4 | exact (bset_n (by decide)).trans e4 | exact (rsT_n (by decide)).trans e4 | exact ((bset_n (by decide)).trans (bset_n (by decide))).trans e4 | exact (daysT_b σ 0 n (by decide) (by decide) _).trans e4)
    have m12 : σ1 12 = σ 11 := mb he 12 (by decide) (by decide) (by decide) (by decide) (by first | exact e12 | exact (bset_n (by decide)).trans e12 | exact (rsT_n (by decide)).trans e12 | exact ((bset_n (by decide)).trans (bset_n (by decide))).trans e12)
    have cm := (cm_fits (n := n) (d := d) a b σ1 (by rw [m4]; exact hG) (by omega) (by rw [m12]; exact hSh))
    rw [m4, m12] at cm
    rw [if_neg c1, if_neg c1] at cm
    exact ⟨_, cm, fin_F 0 J he⟩
set_option maxHeartbeats 1000000 in
theorem op_kinds (a b : Int32) {σ : Hp} {d : Int} (h : Jx σ d) (hd0 : 0 ≤ d) (hd : d ≤ 30720) : OpP yX4_kinds wX4_kinds 7 yX5_kinds wX5_kinds 8 [.int a, .int b] σ d := by
  obtain ⟨n, t, nk, J⟩ := h
  have hG := J.1.1
  have hSp := J.1.2.1
  have h64 := J.1.2.2
  have hn8 := hG.1
  have hn : σ 0 1 = nI n := hG.2.1
  have e4 : σ 4 = σ 0 := J.2.1
  have e80 : σ 8 0 = σ 3 0 := J.2.2.2.1.1
  have hT : σ 3 1 = nI t := J.2.2.2.1.2.1
  have hT8 : σ 8 1 = nI t := J.2.2.2.1.2.2.1
  have ht : t ≤ 120 := J.2.2.2.1.2.2.2
  have e10 : σ 10 = σ 9 := J.2.2.2.2.1.1
  have hB := J.2.2.2.2.1.2
  have e12 : σ 12 = σ 11 := J.2.2.2.2.2.1.1
  have hSh : Sh (σ 11) := J.2.2.2.2.2.1.2
  have e14 : σ 14 = σ 13 := J.2.2.2.2.2.2
  have cx := (cx_kinds a b σ hG (by omega) h64 hSh)
  by_cases c1 : 0 ≤ a ∧ a ≤ 3
  · rw [if_pos c1, if_pos c1] at cx
    by_cases c2 : σ 11 a.toNatClampNeg = 0
    · rw [if_pos c2, if_pos c2] at cx
      refine op_mk cx (fun σ1 he => ?_)
      have m4 : σ1 4 = σ 0 := mb he 4 (by decide) (by decide) (by decide) (by decide) (by first | exact e4 | exact (bset_n (by decide)).trans e4 | exact (rsT_n (by decide)).trans e4 | exact ((bset_n (by decide)).trans (bset_n (by decide))).trans e4 | exact (daysT_b σ 0 n (by decide) (by decide) _).trans e4)
      have m12 : σ1 12 = σ 11 := mb he 12 (by decide) (by decide) (by decide) (by decide) (by first | exact e12 | exact (bset_n (by decide)).trans e12 | exact (rsT_n (by decide)).trans e12 | exact ((bset_n (by decide)).trans (bset_n (by decide))).trans e12)
      have cm := (cm_kinds (n := n) (d := d) a b σ1 (by rw [m4]; exact hG) (by omega) (by rw [m12]; exact hSh))
      rw [m4, m12] at cm
      rw [if_pos c1, if_pos c1] at cm
      rw [if_pos c2, if_pos c2] at cm
      exact ⟨_, cm, fin_F 5 J he⟩
    · rw [if_neg c2, if_neg c2] at cx
      by_cases c3 : 0 ≤ b ∧ b < σ 0 1
      · rw [if_pos c3, if_pos c3] at cx
        refine op_mk cx (fun σ1 he => ?_)
        have m4 : σ1 4 = σ 0 := mb he 4 (by decide) (by decide) (by decide) (by decide) (by first | exact e4 | exact (bset_n (by decide)).trans e4 | exact (rsT_n (by decide)).trans e4 | exact ((bset_n (by decide)).trans (bset_n (by decide))).trans e4 | exact (daysT_b σ 0 n (by decide) (by decide) _).trans e4)
        have m12 : σ1 12 = σ 11 := mb he 12 (by decide) (by decide) (by decide) (by decide) (by first | exact e12 | exact (bset_n (by decide)).trans e12 | exact (rsT_n (by decide)).trans e12 | exact ((bset_n (by decide)).trans (bset_n (by decide))).trans e12)
        have cm := (cm_kinds (n := n) (d := d) a b σ1 (by rw [m4]; exact hG) (by omega) (by rw [m12]; exact hSh))
        rw [m4, m12] at cm
        rw [if_pos c1, if_pos c1] at cm
        rw [if_neg c2, if_neg c2] at cm
        rw [if_pos c3, if_pos c3] at cm
        exact ⟨_, cm, fin_A J he⟩
      · rw [if_neg c3, if_neg c3] at cx
        refine op_mk cx (fun σ1 he => ?_)
        have m4 : σ1 4 = σ 0 := mb he 4 (by decide) (by decide) (by decide) (by decide) (by first | exact e4 | exact (bset_n (by decide)).trans e4 | exact (rsT_n (by decide)).trans e4 | exact ((bset_n (by decide)).trans (bset_n (by decide))).trans e4 | exact (daysT_b σ 0 n (by decide) (by decide) _).trans e4)
        have m12 : σ1 12 = σ 11 := mb he 12 (by decide) (by decide) (by decide) (by decide) (by first | exact e12 | exact (bset_n (by decide)).trans e12 | exact (rsT_n (by decide)).trans e12 | exact ((bset_n (by decide)).trans (bset_n (by decide))).trans e12)
        have cm := (cm_kinds (n := n) (d := d) a b σ1 (by rw [m4]; exact hG) (by omega) (by rw [m12]; exact hSh))
        rw [m4, m12] at cm
        rw [if_pos c1, if_pos c1] at cm
        rw [if_neg c2, if_neg c2] at cm
        rw [if_neg c3, if_neg c3] at cm
        exact ⟨_, cm, fin_F 0 J he⟩
  · rw [if_neg c1, if_neg c1] at cx
    refine op_mk cx (fun σ1 he => ?_)
    have m4 : σ1 4 = σ 0 := mb he 4 (by decide) (by decide) (by decide) (by decide) (by first | exact e4 | exact (bset_n (by decide)).trans e4 | exact (rsT_n (by decide)).trans e4 | exact ((bset_n (by decide)).trans (bset_n (by decide))).trans e4 | exact (daysT_b σ 0 n (by decide) (by decide) _).trans e4)
    have m12 : σ1 12 = σ 11 := mb he 12 (by decide) (by decide) (by decide) (by decide) (by first | exact e12 | exact (bset_n (by decide)).trans e12 | exact (rsT_n (by decide)).trans e12 | exact ((bset_n (by decide)).trans (bset_n (by decide))).trans e12)
    have cm := (cm_kinds (n := n) (d := d) a b σ1 (by rw [m4]; exact hG) (by omega) (by rw [m12]; exact hSh))
    rw [m4, m12] at cm
    rw [if_neg c1, if_neg c1] at cm
    exact ⟨_, cm, fin_F 0 J he⟩
set_option maxHeartbeats 1000000 in
theorem op_parcels (a : Int32) {σ : Hp} {d : Int} (h : Jx σ d) (hd0 : 0 ≤ d) (hd : d ≤ 30720) : OpP yX4_parcels wX4_parcels 5 yX5_parcels wX5_parcels 6 [.int a] σ d := by
  obtain ⟨n, t, nk, J⟩ := h
  have hG := J.1.1
  have hSp := J.1.2.1
  have h64 := J.1.2.2
  have hn8 := hG.1
  have hn : σ 0 1 = nI n := hG.2.1
  have e4 : σ 4 = σ 0 := J.2.1
  have e80 : σ 8 0 = σ 3 0 := J.2.2.2.1.1
  have hT : σ 3 1 = nI t := J.2.2.2.1.2.1
  have hT8 : σ 8 1 = nI t := J.2.2.2.1.2.2.1
  have ht : t ≤ 120 := J.2.2.2.1.2.2.2
  have e10 : σ 10 = σ 9 := J.2.2.2.2.1.1
  have hB := J.2.2.2.2.1.2
  have e12 : σ 12 = σ 11 := J.2.2.2.2.2.1.1
  have hSh : Sh (σ 11) := J.2.2.2.2.2.1.2
  have e14 : σ 14 = σ 13 := J.2.2.2.2.2.2
  have cx := (cx_parcels a σ hG (by omega))
  by_cases c1 : 1 ≤ a ∧ a ≤ 20
  · rw [if_pos c1, if_pos c1] at cx
    refine op_mk cx (fun σ1 he => ?_)
    have m4 : σ1 4 = σ 0 := mb he 4 (by decide) (by decide) (by decide) (by decide) (by first | exact e4 | exact (bset_n (by decide)).trans e4 | exact (rsT_n (by decide)).trans e4 | exact ((bset_n (by decide)).trans (bset_n (by decide))).trans e4 | exact (daysT_b σ 0 n (by decide) (by decide) _).trans e4)
    have hg : Gd (prcN (σ 0) n a.toNatClampNeg) n (d + 60) := by
      obtain ⟨c, hc, ec⟩ := nle 20 ⟨Int32.le_trans (by decide) c1.1, c1.2⟩ (by decide)
      rw [ec, nI_clamp (by omega)]
      exact Gd_mono (Gd_prcN hG c (by omega)) (by omega)
    have cm := (cm_parcels (n := n) (d := d) a σ1 (by rw [m4]; exact hG) (by omega))
    rw [m4] at cm
    rw [if_pos c1, if_pos c1] at cm
    exact ⟨_, cm, fin_H J hg (Hi_prc hn8 _) he⟩
  · rw [if_neg c1, if_neg c1] at cx
    refine op_mk cx (fun σ1 he => ?_)
    have m4 : σ1 4 = σ 0 := mb he 4 (by decide) (by decide) (by decide) (by decide) (by first | exact e4 | exact (bset_n (by decide)).trans e4 | exact (rsT_n (by decide)).trans e4 | exact ((bset_n (by decide)).trans (bset_n (by decide))).trans e4 | exact (daysT_b σ 0 n (by decide) (by decide) _).trans e4)
    have cm := (cm_parcels (n := n) (d := d) a σ1 (by rw [m4]; exact hG) (by omega))
    rw [m4] at cm
    rw [if_neg c1, if_neg c1] at cm
    exact ⟨_, cm, fin_F 0 J he⟩
set_option maxHeartbeats 1000000 in
theorem op_seed (a : Int32) {σ : Hp} {d : Int} (h : Jx σ d) (hd0 : 0 ≤ d) (hd : d ≤ 30720) : OpP yX4_seed wX4_seed 0 yX5_seed wX5_seed 1 [.int a] σ d := by
  obtain ⟨n, t, nk, J⟩ := h
  have hG := J.1.1
  have hSp := J.1.2.1
  have h64 := J.1.2.2
  have hn8 := hG.1
  have hn : σ 0 1 = nI n := hG.2.1
  have e4 : σ 4 = σ 0 := J.2.1
  have e80 : σ 8 0 = σ 3 0 := J.2.2.2.1.1
  have hT : σ 3 1 = nI t := J.2.2.2.1.2.1
  have hT8 : σ 8 1 = nI t := J.2.2.2.1.2.2.1
  have ht : t ≤ 120 := J.2.2.2.1.2.2.2
  have e10 : σ 10 = σ 9 := J.2.2.2.2.1.1
  have hB := J.2.2.2.2.1.2
  have e12 : σ 12 = σ 11 := J.2.2.2.2.2.1.1
  have hSh : Sh (σ 11) := J.2.2.2.2.2.1.2
  have e14 : σ 14 = σ 13 := J.2.2.2.2.2.2
  have cx := (cx_seed a σ).p
  refine op_mk cx (fun σ1 he => ?_)
  have m4 : σ1 4 = σ 0 := mb he 4 (by decide) (by decide) (by decide) (by decide) (by first | exact e4 | exact (bset_n (by decide)).trans e4 | exact (rsT_n (by decide)).trans e4 | exact ((bset_n (by decide)).trans (bset_n (by decide))).trans e4 | exact (daysT_b σ 0 n (by decide) (by decide) _).trans e4)
  have cm := (cm_seed a σ1).p
  rw [m4] at cm
  exact ⟨_, cm, fin_H J (Gd_5 (Gd_mono hG (by omega))) ((Hi.rf _).uq (by decide)) he⟩
set_option maxHeartbeats 1000000 in
theorem op_feed (a b : Int32) {σ : Hp} {d : Int} (h : Jx σ d) (hd0 : 0 ≤ d) (hd : d ≤ 30720) : OpP yX4_feed wX4_feed 1 yX5_feed wX5_feed 1 [.int a, .int b] σ d := by
  obtain ⟨n, t, nk, J⟩ := h
  have hG := J.1.1
  have hSp := J.1.2.1
  have h64 := J.1.2.2
  have hn8 := hG.1
  have hn : σ 0 1 = nI n := hG.2.1
  have e4 : σ 4 = σ 0 := J.2.1
  have e80 : σ 8 0 = σ 3 0 := J.2.2.2.1.1
  have hT : σ 3 1 = nI t := J.2.2.2.1.2.1
  have hT8 : σ 8 1 = nI t := J.2.2.2.1.2.2.1
  have ht : t ≤ 120 := J.2.2.2.1.2.2.2
  have e10 : σ 10 = σ 9 := J.2.2.2.2.1.1
  have hB := J.2.2.2.2.1.2
  have e12 : σ 12 = σ 11 := J.2.2.2.2.2.1.1
  have hSh : Sh (σ 11) := J.2.2.2.2.2.1.2
  have e14 : σ 14 = σ 13 := J.2.2.2.2.2.2
  have cx := (cx_feed (t := t) ht a b σ hT).p
  by_cases c1 : 1 ≤ b ∧ b ≤ 4
  · rw [if_pos c1, if_pos c1] at cx
    by_cases c2 : 120 < t + b.toNatClampNeg
    · rw [if_pos c2, if_pos c2] at cx
      refine op_mk cx (fun σ1 he => ?_)
      have m10 : σ1 10 = σ 9 := mb he 10 (by decide) (by decide) (by decide) (by decide) (by first | exact e10 | exact (bset_n (by decide)).trans e10 | exact (rsT_n (by decide)).trans e10 | exact ((bset_n (by decide)).trans (bset_n (by decide))).trans e10)
      have m81 : σ1 8 1 = nI t := (congrFun (mb he 8 (by decide) (by decide) (by decide) (by decide) (T := σ 8) (by first | rfl | exact bset_n (by decide) | exact (bset_n (by decide)).trans (bset_n (by decide)))) 1).trans hT8
      have cm := (cm_feed (t := t) ht a b σ1 m81).p
      rw [m10] at cm
      rw [if_pos c1, if_pos c1] at cm
      rw [if_pos c2, if_pos c2] at cm
      exact ⟨_, cm, fin_F 1 J he⟩
    · rw [if_neg c2, if_neg c2] at cx
      refine op_mk cx (fun σ1 he => ?_)
      have m10 : σ1 10 = σ 9 := mb he 10 (by decide) (by decide) (by decide) (by decide) (by first | exact e10 | exact (bset_n (by decide)).trans e10 | exact (rsT_n (by decide)).trans e10 | exact ((bset_n (by decide)).trans (bset_n (by decide))).trans e10)
      have m81 : σ1 8 1 = nI t := (congrFun (mb he 8 (by decide) (by decide) (by decide) (by decide) (T := σ 8) (by first | rfl | exact bset_n (by decide) | exact (bset_n (by decide)).trans (bset_n (by decide)))) 1).trans hT8
      have cm := (cm_feed (t := t) ht a b σ1 m81).p
      rw [m10] at cm
      rw [if_pos c1, if_pos c1] at cm
      rw [if_neg c2, if_neg c2] at cm
      exact ⟨_, cm, fin_W J (by omega) (fed_pos hB _) he⟩
  · rw [if_neg c1, if_neg c1] at cx
    refine op_mk cx (fun σ1 he => ?_)
    have m10 : σ1 10 = σ 9 := mb he 10 (by decide) (by decide) (by decide) (by decide) (by first | exact e10 | exact (bset_n (by decide)).trans e10 | exact (rsT_n (by decide)).trans e10 | exact ((bset_n (by decide)).trans (bset_n (by decide))).trans e10)
    have m81 : σ1 8 1 = nI t := (congrFun (mb he 8 (by decide) (by decide) (by decide) (by decide) (T := σ 8) (by first | rfl | exact bset_n (by decide) | exact (bset_n (by decide)).trans (bset_n (by decide)))) 1).trans hT8
    have cm := (cm_feed (t := t) ht a b σ1 m81).p
    rw [m10] at cm
    rw [if_neg c1, if_neg c1] at cm
    exact ⟨_, cm, fin_F 0 J he⟩
set_option maxHeartbeats 1000000 in
theorem op_wipe {σ : Hp} {d : Int} (h : Jx σ d) (hd0 : 0 ≤ d) (hd : d ≤ 30720) : OpP yX4_wipe wX4_wipe 0 yX5_wipe wX5_wipe 0 [] σ d := by
  obtain ⟨n, t, nk, J⟩ := h
  have hG := J.1.1
  have hSp := J.1.2.1
  have h64 := J.1.2.2
  have hn8 := hG.1
  have hn : σ 0 1 = nI n := hG.2.1
  have e4 : σ 4 = σ 0 := J.2.1
  have e80 : σ 8 0 = σ 3 0 := J.2.2.2.1.1
  have hT : σ 3 1 = nI t := J.2.2.2.1.2.1
  have hT8 : σ 8 1 = nI t := J.2.2.2.1.2.2.1
  have ht : t ≤ 120 := J.2.2.2.1.2.2.2
  have e10 : σ 10 = σ 9 := J.2.2.2.2.1.1
  have hB := J.2.2.2.2.1.2
  have e12 : σ 12 = σ 11 := J.2.2.2.2.2.1.1
  have hSh : Sh (σ 11) := J.2.2.2.2.2.1.2
  have e14 : σ 14 = σ 13 := J.2.2.2.2.2.2
  have cx := (cx_wipe σ).p
  refine op_mk cx (fun σ1 he => ?_)
  have m81 : σ1 8 1 = σ 3 1 := (congrFun (mb he 8 (by decide) (by decide) (by decide) (by decide) (bset_n (by decide))) 1).trans (hT8.trans hT.symm)
  have m10 : σ1 10 = σ 9 := mb he 10 (by decide) (by decide) (by decide) (by decide) ((bset_n (by decide)).trans e10)
  have kW := fin_W (B := σ 9) (t' := 0) J (by decide) hB (by rw [bset_id]; exact he)
  rw [bset_self m10] at kW
  have cm := (cm_wipe σ1).p
  rw [m81] at cm
  exact ⟨_, cm, kW⟩
set_option maxHeartbeats 1000000 in
theorem op_text {σ : Hp} {d : Int} (h : Jx σ d) (hd0 : 0 ≤ d) (hd : d ≤ 30720) : OpP yX4_text wX4_text 10 yX5_text wX5_text 8 [] σ d := by
  obtain ⟨n, t, nk, J⟩ := h
  have hG := J.1.1
  have hSp := J.1.2.1
  have h64 := J.1.2.2
  have hn8 := hG.1
  have hn : σ 0 1 = nI n := hG.2.1
  have e4 : σ 4 = σ 0 := J.2.1
  have e80 : σ 8 0 = σ 3 0 := J.2.2.2.1.1
  have hT : σ 3 1 = nI t := J.2.2.2.1.2.1
  have hT8 : σ 8 1 = nI t := J.2.2.2.1.2.2.1
  have ht : t ≤ 120 := J.2.2.2.1.2.2.2
  have e10 : σ 10 = σ 9 := J.2.2.2.2.1.1
  have hB := J.2.2.2.2.1.2
  have e12 : σ 12 = σ 11 := J.2.2.2.2.2.1.1
  have hSh : Sh (σ 11) := J.2.2.2.2.2.1.2
  have e14 : σ 14 = σ 13 := J.2.2.2.2.2.2
  have cx := (cx_text ht σ hG hd0 h64 hT (fun i _ => hB i))
  refine op_mk cx (fun σ1 he => ?_)
  have m4 : σ1 4 = σ 0 := mb he 4 (by decide) (by decide) (by decide) (by decide) (by first | exact e4 | exact (bset_n (by decide)).trans e4 | exact (rsT_n (by decide)).trans e4 | exact ((bset_n (by decide)).trans (bset_n (by decide))).trans e4 | exact (daysT_b σ 0 n (by decide) (by decide) _).trans e4)
  have m10 : σ1 10 = σ 9 := mb he 10 (by decide) (by decide) (by decide) (by decide) (by first | exact e10 | exact (bset_n (by decide)).trans e10 | exact (rsT_n (by decide)).trans e10 | exact ((bset_n (by decide)).trans (bset_n (by decide))).trans e10)
  have m81 : σ1 8 1 = nI t := (congrFun (mb he 8 (by decide) (by decide) (by decide) (by decide) ((bset_n (by decide)).trans (bset_n (by decide)))) 1).trans hT8
  have kB := fin_B (B := σ 9) (t' := 0) J (by decide) hB (tx_G (B := σ 9) (t := t) (Gd_mono hG (show d ≤ d + 60 by omega)) (by omega)) (tx_Hi hG hd0) (by rw [bset_id]; exact he)
  rw [bset_self m10] at kB
  have cm := (cm_text (n := n) (t := t) (d := d) ht σ1 (by rw [m4]; exact hG) hd0 m81)
  rw [m4, m10] at cm
  exact ⟨_, cm, kB⟩
set_option maxHeartbeats 1000000 in
theorem op_hold (a b : Int32) {σ : Hp} {d : Int} (h : Jx σ d) (hd0 : 0 ≤ d) (hd : d ≤ 30720) : OpP yX4_hold wX4_hold 3 yX5_hold wX5_hold 2 [.int a, .int b] σ d := by
  obtain ⟨n, t, nk, J⟩ := h
  have hG := J.1.1
  have hSp := J.1.2.1
  have h64 := J.1.2.2
  have hn8 := hG.1
  have hn : σ 0 1 = nI n := hG.2.1
  have e4 : σ 4 = σ 0 := J.2.1
  have e80 : σ 8 0 = σ 3 0 := J.2.2.2.1.1
  have hT : σ 3 1 = nI t := J.2.2.2.1.2.1
  have hT8 : σ 8 1 = nI t := J.2.2.2.1.2.2.1
  have ht : t ≤ 120 := J.2.2.2.1.2.2.2
  have e10 : σ 10 = σ 9 := J.2.2.2.2.1.1
  have hB := J.2.2.2.2.1.2
  have e12 : σ 12 = σ 11 := J.2.2.2.2.2.1.1
  have hSh : Sh (σ 11) := J.2.2.2.2.2.1.2
  have e14 : σ 14 = σ 13 := J.2.2.2.2.2.2
  have cx := (cx_hold a b σ).p
  by_cases c1 : (0 ≤ a ∧ a ≤ 9) ∧ (b = -1 ∨ 0 ≤ b ∧ b < σ 0 1)
  · rw [if_pos c1, if_pos c1] at cx
    refine op_mk cx (fun σ1 he => ?_)
    have m4 : σ1 4 = σ 0 := mb he 4 (by decide) (by decide) (by decide) (by decide) (by first | exact e4 | exact (bset_n (by decide)).trans e4 | exact (rsT_n (by decide)).trans e4 | exact ((bset_n (by decide)).trans (bset_n (by decide))).trans e4 | exact (daysT_b σ 0 n (by decide) (by decide) _).trans e4)
    obtain ⟨q, hq, eq⟩ := nle 9 c1.1 (by decide)
    have ea : a.toNatClampNeg = q := by rw [eq]; exact nI_clamp (by omega)
    have hs : Sp (upd (σ 0) (54 + a.toNatClampNeg) b) := by
      intro i hi
      by_cases e : 54 + i = 54 + a.toNatClampNeg
      · rw [e, upd_s]
        rcases c1.2 with rfl | hb
        · exact ⟨by decide, by decide⟩
        · obtain ⟨x, hx, ex⟩ := nlt (n := n) (by rw [← hn]; exact hb) (by omega)
          rw [ex, i_n (by omega)]; omega
      · rw [upd_n e]; exact hSp i hi
    have cm := (cm_hold (n := n) a b σ1 hn8 (by rw [m4]; exact hn)).p
    rw [m4] at cm
    rw [if_pos c1, if_pos c1] at cm
    exact ⟨_, cm, fin_S J (Gd_lo (Gd_mono hG (by omega)) (fun i hi => upd_n (by omega))) hs (by rw [upd_n (by omega)]; exact h64) he⟩
  · rw [if_neg c1, if_neg c1] at cx
    refine op_mk cx (fun σ1 he => ?_)
    have m4 : σ1 4 = σ 0 := mb he 4 (by decide) (by decide) (by decide) (by decide) (by first | exact e4 | exact (bset_n (by decide)).trans e4 | exact (rsT_n (by decide)).trans e4 | exact ((bset_n (by decide)).trans (bset_n (by decide))).trans e4 | exact (daysT_b σ 0 n (by decide) (by decide) _).trans e4)
    have cm := (cm_hold (n := n) a b σ1 hn8 (by rw [m4]; exact hn)).p
    rw [m4] at cm
    rw [if_neg c1, if_neg c1] at cm
    exact ⟨_, cm, fin_F 0 J he⟩
set_option maxHeartbeats 1000000 in
theorem op_as (a b : Int32) {σ : Hp} {d : Int} (h : Jx σ d) (hd0 : 0 ≤ d) (hd : d ≤ 30720) : OpP yX4_as wX4_as 3 yX5_as wX5_as 2 [.int a, .int b] σ d := by
  obtain ⟨n, t, nk, J⟩ := h
  have hG := J.1.1
  have hSp := J.1.2.1
  have h64 := J.1.2.2
  have hn8 := hG.1
  have hn : σ 0 1 = nI n := hG.2.1
  have e4 : σ 4 = σ 0 := J.2.1
  have e80 : σ 8 0 = σ 3 0 := J.2.2.2.1.1
  have hT : σ 3 1 = nI t := J.2.2.2.1.2.1
  have hT8 : σ 8 1 = nI t := J.2.2.2.1.2.2.1
  have ht : t ≤ 120 := J.2.2.2.1.2.2.2
  have e10 : σ 10 = σ 9 := J.2.2.2.2.1.1
  have hB := J.2.2.2.2.1.2
  have e12 : σ 12 = σ 11 := J.2.2.2.2.2.1.1
  have hSh : Sh (σ 11) := J.2.2.2.2.2.1.2
  have e14 : σ 14 = σ 13 := J.2.2.2.2.2.2
  have cx := (cx_as a b σ hG hSp).p
  by_cases c1 : (0 ≤ a ∧ a ≤ 9) ∧ 0 ≤ b ∧ b ≤ 6
  · rw [if_pos c1, if_pos c1] at cx
    by_cases c2 : σ 0 (54 + a.toNatClampNeg) = -1
    · rw [if_pos c2, if_pos c2] at cx
      refine op_mk cx (fun σ1 he => ?_)
      have m4 : σ1 4 = σ 0 := mb he 4 (by decide) (by decide) (by decide) (by decide) (by first | exact e4 | exact (bset_n (by decide)).trans e4 | exact (rsT_n (by decide)).trans e4 | exact ((bset_n (by decide)).trans (bset_n (by decide))).trans e4 | exact (daysT_b σ 0 n (by decide) (by decide) _).trans e4)
      have cm := (cm_as (n := n) (d := d) a b σ1 (by rw [m4]; exact hG) (by rw [m4]; exact hSp)).p
      rw [m4] at cm
      rw [if_pos c1, if_pos c1] at cm
      rw [if_pos c2, if_pos c2] at cm
      exact ⟨_, cm, fin_F 5 J he⟩
    · rw [if_neg c2, if_neg c2] at cx
      by_cases c3 : und 6 (pf (σ 0) (σ 0 (54 + a.toNatClampNeg)).toNatClampNeg 0).toNatClampNeg b.toNatClampNeg = true
      · rw [if_pos c3, if_pos c3] at cx
        refine op_mk cx (fun σ1 he => ?_)
        have m4 : σ1 4 = σ 0 := mb he 4 (by decide) (by decide) (by decide) (by decide) (by first | exact e4 | exact (bset_n (by decide)).trans e4 | exact (rsT_n (by decide)).trans e4 | exact ((bset_n (by decide)).trans (bset_n (by decide))).trans e4 | exact (daysT_b σ 0 n (by decide) (by decide) _).trans e4)
        have cm := (cm_as (n := n) (d := d) a b σ1 (by rw [m4]; exact hG) (by rw [m4]; exact hSp)).p
        rw [m4] at cm
        rw [if_pos c1, if_pos c1] at cm
        rw [if_neg c2, if_neg c2] at cm
        rw [if_pos c3, if_pos c3] at cm
        exact ⟨_, cm, fin_A J he⟩
      · rw [if_neg c3, if_neg c3] at cx
        refine op_mk cx (fun σ1 he => ?_)
        have m4 : σ1 4 = σ 0 := mb he 4 (by decide) (by decide) (by decide) (by decide) (by first | exact e4 | exact (bset_n (by decide)).trans e4 | exact (rsT_n (by decide)).trans e4 | exact ((bset_n (by decide)).trans (bset_n (by decide))).trans e4 | exact (daysT_b σ 0 n (by decide) (by decide) _).trans e4)
        have cm := (cm_as (n := n) (d := d) a b σ1 (by rw [m4]; exact hG) (by rw [m4]; exact hSp)).p
        rw [m4] at cm
        rw [if_pos c1, if_pos c1] at cm
        rw [if_neg c2, if_neg c2] at cm
        rw [if_neg c3, if_neg c3] at cm
        exact ⟨_, cm, fin_F 2 J he⟩
  · rw [if_neg c1, if_neg c1] at cx
    refine op_mk cx (fun σ1 he => ?_)
    have m4 : σ1 4 = σ 0 := mb he 4 (by decide) (by decide) (by decide) (by decide) (by first | exact e4 | exact (bset_n (by decide)).trans e4 | exact (rsT_n (by decide)).trans e4 | exact ((bset_n (by decide)).trans (bset_n (by decide))).trans e4 | exact (daysT_b σ 0 n (by decide) (by decide) _).trans e4)
    have cm := (cm_as (n := n) (d := d) a b σ1 (by rw [m4]; exact hG) (by rw [m4]; exact hSp)).p
    rw [m4] at cm
    rw [if_neg c1, if_neg c1] at cm
    exact ⟨_, cm, fin_F 0 J he⟩
set_option maxHeartbeats 1000000 in
theorem op_sheet (a b v : Int32) {σ : Hp} {d : Int} (h : Jx σ d) (hd0 : 0 ≤ d) (hd : d ≤ 30720) : OpP yX4_sheet wX4_sheet 3 yX5_sheet wX5_sheet 2 [.int a, .int b, .int v] σ d := by
  obtain ⟨n, t, nk, J⟩ := h
  have hG := J.1.1
  have hSp := J.1.2.1
  have h64 := J.1.2.2
  have hn8 := hG.1
  have hn : σ 0 1 = nI n := hG.2.1
  have e4 : σ 4 = σ 0 := J.2.1
  have e80 : σ 8 0 = σ 3 0 := J.2.2.2.1.1
  have hT : σ 3 1 = nI t := J.2.2.2.1.2.1
  have hT8 : σ 8 1 = nI t := J.2.2.2.1.2.2.1
  have ht : t ≤ 120 := J.2.2.2.1.2.2.2
  have e10 : σ 10 = σ 9 := J.2.2.2.2.1.1
  have hB := J.2.2.2.2.1.2
  have e12 : σ 12 = σ 11 := J.2.2.2.2.2.1.1
  have hSh : Sh (σ 11) := J.2.2.2.2.2.1.2
  have e14 : σ 14 = σ 13 := J.2.2.2.2.2.2
  have cx := (cx_sheet a b v σ).p
  by_cases c1 : (0 ≤ a ∧ a ≤ 3) ∧ (b = 0 ∨ b = 8 ∨ b = 16 ∨ b = 32)
  · rw [if_pos c1, if_pos c1] at cx
    by_cases c2 : v < 0
    · rw [if_pos c2, if_pos c2] at cx
      refine op_mk cx (fun σ1 he => ?_)
      have m12 : σ1 12 = σ 11 := mb he 12 (by decide) (by decide) (by decide) (by decide) (by first | exact e12 | exact (bset_n (by decide)).trans e12 | exact (rsT_n (by decide)).trans e12 | exact ((bset_n (by decide)).trans (bset_n (by decide))).trans e12)
      have cm := (cm_sheet a b v σ1).p
      rw [m12] at cm
      rw [if_pos c1, if_pos c1] at cm
      rw [if_pos c2, if_pos c2] at cm
      exact ⟨_, cm, fin_F 6 J he⟩
    · rw [if_neg c2, if_neg c2] at cx
      by_cases c3 : 40 < v
      · rw [if_pos c3, if_pos c3] at cx
        refine op_mk cx (fun σ1 he => ?_)
        have m12 : σ1 12 = σ 11 := mb he 12 (by decide) (by decide) (by decide) (by decide) (by first | exact e12 | exact (bset_n (by decide)).trans e12 | exact (rsT_n (by decide)).trans e12 | exact ((bset_n (by decide)).trans (bset_n (by decide))).trans e12)
        have cm := (cm_sheet a b v σ1).p
        rw [m12] at cm
        rw [if_pos c1, if_pos c1] at cm
        rw [if_neg c2, if_neg c2] at cm
        rw [if_pos c3, if_pos c3] at cm
        exact ⟨_, cm, fin_F 0 J he⟩
      · rw [if_neg c3, if_neg c3] at cx
        refine op_mk cx (fun σ1 he => ?_)
        have m12 : σ1 12 = σ 11 := mb he 12 (by decide) (by decide) (by decide) (by decide) (by first | exact e12 | exact (bset_n (by decide)).trans e12 | exact (rsT_n (by decide)).trans e12 | exact ((bset_n (by decide)).trans (bset_n (by decide))).trans e12)
        have hs : a.toNatClampNeg < 4 := by
          obtain ⟨q, hq, eq⟩ := nle 3 c1.1 (by decide)
          rw [eq, nI_clamp (by omega)]; omega
        have hz : ∃ k, k ≤ 40 ∧ (if b = 0 then 0 else v) = nI k := by
          by_cases hb : b = 0
          · rw [if_pos hb]; exact ⟨0, by decide, rfl⟩
          · rw [if_neg hb]
            obtain ⟨q, hq, eq⟩ := nle 40 ⟨Int32.not_lt.mp c2, Int32.not_lt.mp c3⟩ (by decide)
            exact ⟨q, hq, eq⟩
        have cm := (cm_sheet a b v σ1).p
        rw [m12] at cm
        rw [if_pos c1, if_pos c1] at cm
        rw [if_neg c2, if_neg c2] at cm
        rw [if_neg c3, if_neg c3] at cm
        exact ⟨_, cm, fin_T J (Sh_lay hSh hs c1.2 hz) he⟩
  · rw [if_neg c1, if_neg c1] at cx
    refine op_mk cx (fun σ1 he => ?_)
    have m12 : σ1 12 = σ 11 := mb he 12 (by decide) (by decide) (by decide) (by decide) (by first | exact e12 | exact (bset_n (by decide)).trans e12 | exact (rsT_n (by decide)).trans e12 | exact ((bset_n (by decide)).trans (bset_n (by decide))).trans e12)
    have cm := (cm_sheet a b v σ1).p
    rw [m12] at cm
    rw [if_neg c1, if_neg c1] at cm
    exact ⟨_, cm, fin_F 0 J he⟩
set_option maxHeartbeats 1000000 in
theorem op_write (a b v : Int32) {σ : Hp} {d : Int} (h : Jx σ d) (hd0 : 0 ≤ d) (hd : d ≤ 30720) : OpP yX4_write wX4_write 5 yX5_write wX5_write 3 [.int a, .int b, .int v] σ d := by
  obtain ⟨n, t, nk, J⟩ := h
  have hG := J.1.1
  have hSp := J.1.2.1
  have h64 := J.1.2.2
  have hn8 := hG.1
  have hn : σ 0 1 = nI n := hG.2.1
  have e4 : σ 4 = σ 0 := J.2.1
  have e80 : σ 8 0 = σ 3 0 := J.2.2.2.1.1
  have hT : σ 3 1 = nI t := J.2.2.2.1.2.1
  have hT8 : σ 8 1 = nI t := J.2.2.2.1.2.2.1
  have ht : t ≤ 120 := J.2.2.2.1.2.2.2
  have e10 : σ 10 = σ 9 := J.2.2.2.2.1.1
  have hB := J.2.2.2.2.1.2
  have e12 : σ 12 = σ 11 := J.2.2.2.2.2.1.1
  have hSh : Sh (σ 11) := J.2.2.2.2.2.1.2
  have e14 : σ 14 = σ 13 := J.2.2.2.2.2.2
  have cx := (cx_write a b v σ hSh).p
  by_cases c1 : 0 ≤ a ∧ a ≤ 3
  · rw [if_pos c1, if_pos c1] at cx
    by_cases c2 : σ 11 a.toNatClampNeg = 0
    · rw [if_pos c2, if_pos c2] at cx
      refine op_mk cx (fun σ1 he => ?_)
      have m12 : σ1 12 = σ 11 := mb he 12 (by decide) (by decide) (by decide) (by decide) (by first | exact e12 | exact (bset_n (by decide)).trans e12 | exact (rsT_n (by decide)).trans e12 | exact ((bset_n (by decide)).trans (bset_n (by decide))).trans e12)
      have cm := (cm_write a b v σ1 (by rw [m12]; exact hSh)).p
      rw [m12] at cm
      rw [if_pos c1, if_pos c1] at cm
      rw [if_pos c2, if_pos c2] at cm
      exact ⟨_, cm, fin_F 5 J he⟩
    · rw [if_neg c2, if_neg c2] at cx
      by_cases c3 : 0 ≤ b ∧ b ≤ σ 11 (4 + a.toNatClampNeg) - 1
      · rw [if_pos c3, if_pos c3] at cx
        refine op_mk cx (fun σ1 he => ?_)
        have m12 : σ1 12 = σ 11 := mb he 12 (by decide) (by decide) (by decide) (by decide) (by first | exact e12 | exact (bset_n (by decide)).trans e12 | exact (rsT_n (by decide)).trans e12 | exact ((bset_n (by decide)).trans (bset_n (by decide))).trans e12)
        have cm := (cm_write a b v σ1 (by rw [m12]; exact hSh)).p
        rw [m12] at cm
        rw [if_pos c1, if_pos c1] at cm
        rw [if_neg c2, if_neg c2] at cm
        rw [if_pos c3, if_pos c3] at cm
        exact ⟨_, cm, fin_T J (Sh_num hSh (fun i hi => upd_n (by omega))) he⟩
      · rw [if_neg c3, if_neg c3] at cx
        refine op_mk cx (fun σ1 he => ?_)
        have m12 : σ1 12 = σ 11 := mb he 12 (by decide) (by decide) (by decide) (by decide) (by first | exact e12 | exact (bset_n (by decide)).trans e12 | exact (rsT_n (by decide)).trans e12 | exact ((bset_n (by decide)).trans (bset_n (by decide))).trans e12)
        have cm := (cm_write a b v σ1 (by rw [m12]; exact hSh)).p
        rw [m12] at cm
        rw [if_pos c1, if_pos c1] at cm
        rw [if_neg c2, if_neg c2] at cm
        rw [if_neg c3, if_neg c3] at cm
        exact ⟨_, cm, fin_F 0 J he⟩
  · rw [if_neg c1, if_neg c1] at cx
    refine op_mk cx (fun σ1 he => ?_)
    have m12 : σ1 12 = σ 11 := mb he 12 (by decide) (by decide) (by decide) (by decide) (by first | exact e12 | exact (bset_n (by decide)).trans e12 | exact (rsT_n (by decide)).trans e12 | exact ((bset_n (by decide)).trans (bset_n (by decide))).trans e12)
    have cm := (cm_write a b v σ1 (by rw [m12]; exact hSh)).p
    rw [m12] at cm
    rw [if_neg c1, if_neg c1] at cm
    exact ⟨_, cm, fin_F 0 J he⟩

set_option maxHeartbeats 1000000 in
theorem op_copy (a f b o w : Int32) {σ : Hp} {d : Int} (h : Jx σ d) (hd0 : 0 ≤ d) (hd : d ≤ 30720) : OpP yX4_copy wX4_copy 5 yX5_copy wX5_copy 2 [.int a, .int f, .int b, .int o, .int w] σ d := by
  obtain ⟨n, t, nk, J⟩ := h
  have hG := J.1.1
  have hSp := J.1.2.1
  have h64 := J.1.2.2
  have hn8 := hG.1
  have hn : σ 0 1 = nI n := hG.2.1
  have e4 : σ 4 = σ 0 := J.2.1
  have e80 : σ 8 0 = σ 3 0 := J.2.2.2.1.1
  have hT : σ 3 1 = nI t := J.2.2.2.1.2.1
  have hT8 : σ 8 1 = nI t := J.2.2.2.1.2.2.1
  have ht : t ≤ 120 := J.2.2.2.1.2.2.2
  have e10 : σ 10 = σ 9 := J.2.2.2.2.1.1
  have hB := J.2.2.2.2.1.2
  have e12 : σ 12 = σ 11 := J.2.2.2.2.2.1.1
  have hSh : Sh (σ 11) := J.2.2.2.2.2.1.2
  have e14 : σ 14 = σ 13 := J.2.2.2.2.2.2
  have cx := (cx_copy a f b o w σ hSh).p
  by_cases c1 : (0 ≤ a ∧ a ≤ 3) ∧ 0 ≤ b ∧ b ≤ 3
  · rw [if_pos c1, if_pos c1] at cx
    by_cases c2 : σ 11 a.toNatClampNeg = 0 ∨ σ 11 b.toNatClampNeg = 0
    · rw [if_pos c2, if_pos c2] at cx
      refine op_mk cx (fun σ1 he => ?_)
      have m12 : σ1 12 = σ 11 := mb he 12 (by decide) (by decide) (by decide) (by decide) (by first | exact e12 | exact (bset_n (by decide)).trans e12 | exact (rsT_n (by decide)).trans e12 | exact ((bset_n (by decide)).trans (bset_n (by decide))).trans e12)
      have cm := (cm_copy a f b o w σ1 (by rw [m12]; exact hSh))
      rw [m12] at cm
      rw [if_pos c1, if_pos c1] at cm
      rw [if_pos c2, if_pos c2] at cm
      exact ⟨_, cm, fin_F 5 J he⟩
    · rw [if_neg c2, if_neg c2] at cx
      by_cases c3 : σ 11 a.toNatClampNeg = σ 11 b.toNatClampNeg
      · rw [if_pos c3, if_pos c3] at cx
        by_cases c4 : rgB f w (σ 11 (4 + a.toNatClampNeg)).toNatClampNeg = 0 ∨ rgB o w (σ 11 (4 + b.toNatClampNeg)).toNatClampNeg = 0
        · rw [if_pos c4, if_pos c4] at cx
          refine op_mk cx (fun σ1 he => ?_)
          have m12 : σ1 12 = σ 11 := mb he 12 (by decide) (by decide) (by decide) (by decide) (by first | exact e12 | exact (bset_n (by decide)).trans e12 | exact (rsT_n (by decide)).trans e12 | exact ((bset_n (by decide)).trans (bset_n (by decide))).trans e12)
          have cm := (cm_copy a f b o w σ1 (by rw [m12]; exact hSh))
          rw [m12] at cm
          rw [if_pos c1, if_pos c1] at cm
          rw [if_neg c2, if_neg c2] at cm
          rw [if_pos c3, if_pos c3] at cm
          rw [if_pos c4, if_pos c4] at cm
          exact ⟨_, cm, fin_F 0 J he⟩
        · rw [if_neg c4, if_neg c4] at cx
          refine op_mk cx (fun σ1 he => ?_)
          have m12 : σ1 12 = σ 11 := mb he 12 (by decide) (by decide) (by decide) (by decide) (by first | exact e12 | exact (bset_n (by decide)).trans e12 | exact (rsT_n (by decide)).trans e12 | exact ((bset_n (by decide)).trans (bset_n (by decide))).trans e12)
          have cm := (cm_copy a f b o w σ1 (by rw [m12]; exact hSh))
          rw [m12] at cm
          rw [if_pos c1, if_pos c1] at cm
          rw [if_neg c2, if_neg c2] at cm
          rw [if_pos c3, if_pos c3] at cm
          rw [if_neg c4, if_neg c4] at cm
          exact ⟨_, cm, fin_T J (Sh_num hSh (fun i hi => by unfold movS; rw [if_neg (by omega)])) he⟩
      · rw [if_neg c3, if_neg c3] at cx
        refine op_mk cx (fun σ1 he => ?_)
        have m12 : σ1 12 = σ 11 := mb he 12 (by decide) (by decide) (by decide) (by decide) (by first | exact e12 | exact (bset_n (by decide)).trans e12 | exact (rsT_n (by decide)).trans e12 | exact ((bset_n (by decide)).trans (bset_n (by decide))).trans e12)
        have cm := (cm_copy a f b o w σ1 (by rw [m12]; exact hSh))
        rw [m12] at cm
        rw [if_pos c1, if_pos c1] at cm
        rw [if_neg c2, if_neg c2] at cm
        rw [if_neg c3, if_neg c3] at cm
        exact ⟨_, cm, fin_F 2 J he⟩
  · rw [if_neg c1, if_neg c1] at cx
    refine op_mk cx (fun σ1 he => ?_)
    have m12 : σ1 12 = σ 11 := mb he 12 (by decide) (by decide) (by decide) (by decide) (by first | exact e12 | exact (bset_n (by decide)).trans e12 | exact (rsT_n (by decide)).trans e12 | exact ((bset_n (by decide)).trans (bset_n (by decide))).trans e12)
    have cm := (cm_copy a f b o w σ1 (by rw [m12]; exact hSh))
    rw [m12] at cm
    rw [if_neg c1, if_neg c1] at cm
    exact ⟨_, cm, fin_F 0 J he⟩
set_option maxHeartbeats 1000000 in
theorem op_load (a : Int32) {σ : Hp} {d : Int} (h : Jx σ d) (hd0 : 0 ≤ d) (hd : d ≤ 30720) : OpP yX4_load wX4_load 5 yX5_load wX5_load 3 [.int a] σ d := by
  obtain ⟨n, t, nk, J⟩ := h
  have hG := J.1.1
  have hSp := J.1.2.1
  have h64 := J.1.2.2
  have hn8 := hG.1
  have hn : σ 0 1 = nI n := hG.2.1
  have e4 : σ 4 = σ 0 := J.2.1
  have e80 : σ 8 0 = σ 3 0 := J.2.2.2.1.1
  have hT : σ 3 1 = nI t := J.2.2.2.1.2.1
  have hT8 : σ 8 1 = nI t := J.2.2.2.1.2.2.1
  have ht : t ≤ 120 := J.2.2.2.1.2.2.2
  have e10 : σ 10 = σ 9 := J.2.2.2.2.1.1
  have hB := J.2.2.2.2.1.2
  have e12 : σ 12 = σ 11 := J.2.2.2.2.2.1.1
  have hSh : Sh (σ 11) := J.2.2.2.2.2.1.2
  have e14 : σ 14 = σ 13 := J.2.2.2.2.2.2
  have cx := (cx_load a σ hG hSh).p
  by_cases c1 : 0 ≤ a ∧ a ≤ 3
  · rw [if_pos c1, if_pos c1] at cx
    by_cases c2 : σ 11 a.toNatClampNeg = 0
    · rw [if_pos c2, if_pos c2] at cx
      refine op_mk cx (fun σ1 he => ?_)
      have m4 : σ1 4 = σ 0 := mb he 4 (by decide) (by decide) (by decide) (by decide) (by first | exact e4 | exact (bset_n (by decide)).trans e4 | exact (rsT_n (by decide)).trans e4 | exact ((bset_n (by decide)).trans (bset_n (by decide))).trans e4 | exact (daysT_b σ 0 n (by decide) (by decide) _).trans e4)
      have m12 : σ1 12 = σ 11 := mb he 12 (by decide) (by decide) (by decide) (by decide) (by first | exact e12 | exact (bset_n (by decide)).trans e12 | exact (rsT_n (by decide)).trans e12 | exact ((bset_n (by decide)).trans (bset_n (by decide))).trans e12)
      have cm := (cm_load (n := n) (d := d) a σ1 (by rw [m4]; exact hG) (by rw [m12]; exact hSh)).p
      rw [m4, m12] at cm
      rw [if_pos c1, if_pos c1] at cm
      rw [if_pos c2, if_pos c2] at cm
      exact ⟨_, cm, fin_F 5 J he⟩
    · rw [if_neg c2, if_neg c2] at cx
      refine op_mk cx (fun σ1 he => ?_)
      have m4 : σ1 4 = σ 0 := mb he 4 (by decide) (by decide) (by decide) (by decide) (by first | exact e4 | exact (bset_n (by decide)).trans e4 | exact (rsT_n (by decide)).trans e4 | exact ((bset_n (by decide)).trans (bset_n (by decide))).trans e4 | exact (daysT_b σ 0 n (by decide) (by decide) _).trans e4)
      have m12 : σ1 12 = σ 11 := mb he 12 (by decide) (by decide) (by decide) (by decide) (by first | exact e12 | exact (bset_n (by decide)).trans e12 | exact (rsT_n (by decide)).trans e12 | exact ((bset_n (by decide)).trans (bset_n (by decide))).trans e12)
      have cm := (cm_load (n := n) (d := d) a σ1 (by rw [m4]; exact hG) (by rw [m12]; exact hSh)).p
      rw [m4, m12] at cm
      rw [if_pos c1, if_pos c1] at cm
      rw [if_neg c2, if_neg c2] at cm
      exact ⟨_, cm, fin_H J (Gd_lod (Gd_mono hG (by omega)) _ _ (Nat.le_refl _) (lodM_le hn8)).1 (Gd_lod hG _ _ (Nat.le_refl _) (lodM_le hn8)).2 he⟩
  · rw [if_neg c1, if_neg c1] at cx
    refine op_mk cx (fun σ1 he => ?_)
    have m4 : σ1 4 = σ 0 := mb he 4 (by decide) (by decide) (by decide) (by decide) (by first | exact e4 | exact (bset_n (by decide)).trans e4 | exact (rsT_n (by decide)).trans e4 | exact ((bset_n (by decide)).trans (bset_n (by decide))).trans e4 | exact (daysT_b σ 0 n (by decide) (by decide) _).trans e4)
    have m12 : σ1 12 = σ 11 := mb he 12 (by decide) (by decide) (by decide) (by decide) (by first | exact e12 | exact (bset_n (by decide)).trans e12 | exact (rsT_n (by decide)).trans e12 | exact ((bset_n (by decide)).trans (bset_n (by decide))).trans e12)
    have cm := (cm_load (n := n) (d := d) a σ1 (by rw [m4]; exact hG) (by rw [m12]; exact hSh)).p
    rw [m4, m12] at cm
    rw [if_neg c1, if_neg c1] at cm
    exact ⟨_, cm, fin_F 0 J he⟩
set_option maxHeartbeats 1000000 in
theorem op_judge (a : Int32) {σ : Hp} {d : Int} (h : Jx σ d) (hd0 : 0 ≤ d) (hd : d ≤ 30720) : OpP yX4_judge wX4_judge 5 yX5_judge wX5_judge 3 [.int a] σ d := by
  obtain ⟨n, t, nk, J⟩ := h
  have hG := J.1.1
  have hSp := J.1.2.1
  have h64 := J.1.2.2
  have hn8 := hG.1
  have hn : σ 0 1 = nI n := hG.2.1
  have e4 : σ 4 = σ 0 := J.2.1
  have e80 : σ 8 0 = σ 3 0 := J.2.2.2.1.1
  have hT : σ 3 1 = nI t := J.2.2.2.1.2.1
  have hT8 : σ 8 1 = nI t := J.2.2.2.1.2.2.1
  have ht : t ≤ 120 := J.2.2.2.1.2.2.2
  have e10 : σ 10 = σ 9 := J.2.2.2.2.1.1
  have hB := J.2.2.2.2.1.2
  have e12 : σ 12 = σ 11 := J.2.2.2.2.2.1.1
  have hSh : Sh (σ 11) := J.2.2.2.2.2.1.2
  have e14 : σ 14 = σ 13 := J.2.2.2.2.2.2
  have cx := (cx_judge a σ hG hSh).p
  by_cases c1 : 0 ≤ a ∧ a ≤ 3
  · rw [if_pos c1, if_pos c1] at cx
    by_cases c2 : σ 11 a.toNatClampNeg = 0
    · rw [if_pos c2, if_pos c2] at cx
      refine op_mk cx (fun σ1 he => ?_)
      have m4 : σ1 4 = σ 0 := mb he 4 (by decide) (by decide) (by decide) (by decide) (by first | exact e4 | exact (bset_n (by decide)).trans e4 | exact (rsT_n (by decide)).trans e4 | exact ((bset_n (by decide)).trans (bset_n (by decide))).trans e4 | exact (daysT_b σ 0 n (by decide) (by decide) _).trans e4)
      have m12 : σ1 12 = σ 11 := mb he 12 (by decide) (by decide) (by decide) (by decide) (by first | exact e12 | exact (bset_n (by decide)).trans e12 | exact (rsT_n (by decide)).trans e12 | exact ((bset_n (by decide)).trans (bset_n (by decide))).trans e12)
      have cm := (cm_judge (n := n) (d := d) a σ1 (by rw [m4]; exact hG) (by rw [m12]; exact hSh)).p
      rw [m4, m12] at cm
      rw [if_pos c1, if_pos c1] at cm
      rw [if_pos c2, if_pos c2] at cm
      exact ⟨_, cm, fin_F 5 J he⟩
    · rw [if_neg c2, if_neg c2] at cx
      refine op_mk cx (fun σ1 he => ?_)
      have m4 : σ1 4 = σ 0 := mb he 4 (by decide) (by decide) (by decide) (by decide) (by first | exact e4 | exact (bset_n (by decide)).trans e4 | exact (rsT_n (by decide)).trans e4 | exact ((bset_n (by decide)).trans (bset_n (by decide))).trans e4 | exact (daysT_b σ 0 n (by decide) (by decide) _).trans e4)
      have m12 : σ1 12 = σ 11 := mb he 12 (by decide) (by decide) (by decide) (by decide) (by first | exact e12 | exact (bset_n (by decide)).trans e12 | exact (rsT_n (by decide)).trans e12 | exact ((bset_n (by decide)).trans (bset_n (by decide))).trans e12)
      have cm := (cm_judge (n := n) (d := d) a σ1 (by rw [m4]; exact hG) (by rw [m12]; exact hSh)).p
      rw [m4, m12] at cm
      rw [if_pos c1, if_pos c1] at cm
      rw [if_neg c2, if_neg c2] at cm
      exact ⟨_, cm, fin_A J he⟩
  · rw [if_neg c1, if_neg c1] at cx
    refine op_mk cx (fun σ1 he => ?_)
    have m4 : σ1 4 = σ 0 := mb he 4 (by decide) (by decide) (by decide) (by decide) (by first | exact e4 | exact (bset_n (by decide)).trans e4 | exact (rsT_n (by decide)).trans e4 | exact ((bset_n (by decide)).trans (bset_n (by decide))).trans e4 | exact (daysT_b σ 0 n (by decide) (by decide) _).trans e4)
    have m12 : σ1 12 = σ 11 := mb he 12 (by decide) (by decide) (by decide) (by decide) (by first | exact e12 | exact (bset_n (by decide)).trans e12 | exact (rsT_n (by decide)).trans e12 | exact ((bset_n (by decide)).trans (bset_n (by decide))).trans e12)
    have cm := (cm_judge (n := n) (d := d) a σ1 (by rw [m4]; exact hG) (by rw [m12]; exact hSh)).p
    rw [m4, m12] at cm
    rw [if_neg c1, if_neg c1] at cm
    exact ⟨_, cm, fin_F 0 J he⟩
set_option maxHeartbeats 1000000 in
theorem op_image {σ : Hp} {d : Int} (h : Jx σ d) (hd0 : 0 ≤ d) (hd : d ≤ 30720) : OpP yX4_image wX4_image 3 yX5_image wX5_image 0 [] σ d := by
  obtain ⟨n, t, nk, J⟩ := h
  have hG := J.1.1
  have hSp := J.1.2.1
  have h64 := J.1.2.2
  have hn8 := hG.1
  have hn : σ 0 1 = nI n := hG.2.1
  have e4 : σ 4 = σ 0 := J.2.1
  have e80 : σ 8 0 = σ 3 0 := J.2.2.2.1.1
  have hT : σ 3 1 = nI t := J.2.2.2.1.2.1
  have hT8 : σ 8 1 = nI t := J.2.2.2.1.2.2.1
  have ht : t ≤ 120 := J.2.2.2.1.2.2.2
  have e10 : σ 10 = σ 9 := J.2.2.2.2.1.1
  have hB := J.2.2.2.2.1.2
  have e12 : σ 12 = σ 11 := J.2.2.2.2.2.1.1
  have hSh : Sh (σ 11) := J.2.2.2.2.2.1.2
  have e14 : σ 14 = σ 13 := J.2.2.2.2.2.2
  have cx := (cx_image σ).p
  refine op_mk cx (fun σ1 he => ?_)
  have cm := (cm_image σ1).p
  exact ⟨_, cm, fin_image J he⟩
set_option maxHeartbeats 1000000 in
theorem op_undo {σ : Hp} {d : Int} (h : Jx σ d) (hd0 : 0 ≤ d) (hd : d ≤ 30720) : OpP yX4_undo wX4_undo 3 yX5_undo wX5_undo 1 [] σ d := by
  obtain ⟨n, t, nk, J⟩ := h
  have hG := J.1.1
  have hSp := J.1.2.1
  have h64 := J.1.2.2
  have hn8 := hG.1
  have hn : σ 0 1 = nI n := hG.2.1
  have e4 : σ 4 = σ 0 := J.2.1
  have e80 : σ 8 0 = σ 3 0 := J.2.2.2.1.1
  have hT : σ 3 1 = nI t := J.2.2.2.1.2.1
  have hT8 : σ 8 1 = nI t := J.2.2.2.1.2.2.1
  have ht : t ≤ 120 := J.2.2.2.1.2.2.2
  have e10 : σ 10 = σ 9 := J.2.2.2.2.1.1
  have hB := J.2.2.2.2.1.2
  have e12 : σ 12 = σ 11 := J.2.2.2.2.2.1.1
  have hSh : Sh (σ 11) := J.2.2.2.2.2.1.2
  have e14 : σ 14 = σ 13 := J.2.2.2.2.2.2
  have cx := (cx_undo σ).p
  by_cases c1 : σ 3 0 = 0
  · rw [if_pos c1, if_pos c1] at cx
    refine op_mk cx (fun σ1 he => ?_)
    have m80 : σ1 8 0 = σ 3 0 := (congrFun (mb he 8 (by decide) (by decide) (by decide) (by decide) (bset_n (by decide))) 0).trans e80
    have cm := (cm_undo σ1).p
    rw [m80] at cm
    rw [if_pos c1, if_pos c1] at cm
    exact ⟨_, cm, fin_F 3 J he⟩
  · rw [if_neg c1, if_neg c1] at cx
    refine op_mk cx (fun σ1 he => ?_)
    have hk := J.2.2.1.2.2.resolve_left c1
    have m80 : σ1 8 0 = σ 3 0 := (congrFun (mb he 8 (by decide) (by decide) (by decide) (by decide) (bset_n (by decide))) 0).trans e80
    have m50 : σ1 5 0 = σ 2 0 := (congrFun (mb he 5 (by decide) (by decide) (by decide) (by decide) (bset_n (by decide))) 0).trans (hk 0 (by decide))
    have cm := (cm_undo σ1).p
    rw [m80] at cm
    rw [if_neg c1, if_neg c1] at cm
    rw [m50] at cm
    exact ⟨_, cm, fin_undo J hk he⟩
set_option maxHeartbeats 1000000 in
theorem op_tear {σ : Hp} {d : Int} (h : Jx σ d) (hd0 : 0 ≤ d) (hd : d ≤ 30720) : OpP yX4_tear wX4_tear 0 yX5_tear wX5_tear 0 [] σ d := by
  obtain ⟨n, t, nk, J⟩ := h
  have hG := J.1.1
  have hSp := J.1.2.1
  have h64 := J.1.2.2
  have hn8 := hG.1
  have hn : σ 0 1 = nI n := hG.2.1
  have e4 : σ 4 = σ 0 := J.2.1
  have e80 : σ 8 0 = σ 3 0 := J.2.2.2.1.1
  have hT : σ 3 1 = nI t := J.2.2.2.1.2.1
  have hT8 : σ 8 1 = nI t := J.2.2.2.1.2.2.1
  have ht : t ≤ 120 := J.2.2.2.1.2.2.2
  have e10 : σ 10 = σ 9 := J.2.2.2.2.1.1
  have hB := J.2.2.2.2.1.2
  have e12 : σ 12 = σ 11 := J.2.2.2.2.2.1.1
  have hSh : Sh (σ 11) := J.2.2.2.2.2.1.2
  have e14 : σ 14 = σ 13 := J.2.2.2.2.2.2
  have cx := (cx_tear σ).p
  refine op_mk cx (fun σ1 he => ?_)
  have m80 : σ1 8 0 = σ 3 0 := (congrFun (mb he 8 (by decide) (by decide) (by decide) (by decide) (bset_n (by decide))) 0).trans e80
  have cm := (cm_tear σ1).p
  rw [m80] at cm
  exact ⟨_, cm, fin_tear J he⟩
set_option maxHeartbeats 1000000 in
theorem op_count (a : Int32) {σ : Hp} {d : Int} (h : Jx σ d) (hd0 : 0 ≤ d) (hd : d ≤ 30720) : OpP yX4_count wX4_count 2 yX5_count wX5_count 3 [.int a] σ d := by
  obtain ⟨n, t, nk, J⟩ := h
  have hG := J.1.1
  have hSp := J.1.2.1
  have h64 := J.1.2.2
  have hn8 := hG.1
  have hn : σ 0 1 = nI n := hG.2.1
  have e4 : σ 4 = σ 0 := J.2.1
  have e80 : σ 8 0 = σ 3 0 := J.2.2.2.1.1
  have hT : σ 3 1 = nI t := J.2.2.2.1.2.1
  have hT8 : σ 8 1 = nI t := J.2.2.2.1.2.2.1
  have ht : t ≤ 120 := J.2.2.2.1.2.2.2
  have e10 : σ 10 = σ 9 := J.2.2.2.2.1.1
  have hB := J.2.2.2.2.1.2
  have e12 : σ 12 = σ 11 := J.2.2.2.2.2.1.1
  have hSh : Sh (σ 11) := J.2.2.2.2.2.1.2
  have e14 : σ 14 = σ 13 := J.2.2.2.2.2.2
  have cx := (cx_count a σ hG).p
  rw [hT, show cntN (fun i => decide (¬ σ 0 (54 + i) = -1)) 10 = cntN (fun i => decide (¬ σ 0 (54 + i) < 0)) 10 from cntN_congr (fun i hi => spot_c (hSp i hi).1)] at cx
  by_cases c1 : 0 ≤ a ∧ a ≤ 7
  · rw [if_pos c1] at cx
    refine op_mk cx (fun σ1 he => ?_)
    have m4 : σ1 4 = σ 0 := mb he 4 (by decide) (by decide) (by decide) (by decide) (by first | exact e4 | exact (bset_n (by decide)).trans e4 | exact (rsT_n (by decide)).trans e4 | exact ((bset_n (by decide)).trans (bset_n (by decide))).trans e4 | exact (daysT_b σ 0 n (by decide) (by decide) _).trans e4)
    have m81 : σ1 8 1 = nI t := (congrFun (mb he 8 (by decide) (by decide) (by decide) (by decide) (T := σ 8) (by first | rfl | exact bset_n (by decide) | exact (bset_n (by decide)).trans (bset_n (by decide)))) 1).trans hT8
    have cm := (cm_count (n := n) (d := d) a σ1 (by rw [m4]; exact hG)).p
    rw [m4, m81] at cm
    rw [if_pos c1] at cm
    exact ⟨_, cm, fin_A J he⟩
  · rw [if_neg c1] at cx
    refine op_mk cx (fun σ1 he => ?_)
    have m4 : σ1 4 = σ 0 := mb he 4 (by decide) (by decide) (by decide) (by decide) (by first | exact e4 | exact (bset_n (by decide)).trans e4 | exact (rsT_n (by decide)).trans e4 | exact ((bset_n (by decide)).trans (bset_n (by decide))).trans e4 | exact (daysT_b σ 0 n (by decide) (by decide) _).trans e4)
    have m81 : σ1 8 1 = nI t := (congrFun (mb he 8 (by decide) (by decide) (by decide) (by decide) (T := σ 8) (by first | rfl | exact bset_n (by decide) | exact (bset_n (by decide)).trans (bset_n (by decide)))) 1).trans hT8
    have cm := (cm_count (n := n) (d := d) a σ1 (by rw [m4]; exact hG)).p
    rw [m4, m81] at cm
    rw [if_neg c1] at cm
    exact ⟨_, cm, fin_F 0 J he⟩
set_option maxHeartbeats 1000000 in
theorem op_status (a : Int32) {σ : Hp} {d : Int} (h : Jx σ d) (hd0 : 0 ≤ d) (hd : d ≤ 30720) : OpP yX4_status wX4_status 1 yX5_status wX5_status 1 [.int a] σ d := by
  obtain ⟨n, t, nk, J⟩ := h
  have hG := J.1.1
  have hSp := J.1.2.1
  have h64 := J.1.2.2
  have hn8 := hG.1
  have hn : σ 0 1 = nI n := hG.2.1
  have e4 : σ 4 = σ 0 := J.2.1
  have e80 : σ 8 0 = σ 3 0 := J.2.2.2.1.1
  have hT : σ 3 1 = nI t := J.2.2.2.1.2.1
  have hT8 : σ 8 1 = nI t := J.2.2.2.1.2.2.1
  have ht : t ≤ 120 := J.2.2.2.1.2.2.2
  have e10 : σ 10 = σ 9 := J.2.2.2.2.1.1
  have hB := J.2.2.2.2.1.2
  have e12 : σ 12 = σ 11 := J.2.2.2.2.2.1.1
  have hSh : Sh (σ 11) := J.2.2.2.2.2.1.2
  have e14 : σ 14 = σ 13 := J.2.2.2.2.2.2
  have cx := (cx_status a σ).p
  by_cases c1 : -1 ≤ a ∧ a ≤ 6
  · rw [if_pos c1, if_pos c1] at cx
    refine op_mk cx (fun σ1 he => ?_)
    have m14 : σ1 14 = σ 13 := mb he 14 (by decide) (by decide) (by decide) (by decide) (by first | exact e14 | exact (bset_n (by decide)).trans e14 | exact (rsT_n (by decide)).trans e14 | exact ((bset_n (by decide)).trans (bset_n (by decide))).trans e14)
    have cm := (cm_status a σ1).p
    rw [m14] at cm
    rw [if_pos c1, if_pos c1] at cm
    exact ⟨_, cm, fin_A J he⟩
  · rw [if_neg c1, if_neg c1] at cx
    refine op_mk cx (fun σ1 he => ?_)
    have m14 : σ1 14 = σ 13 := mb he 14 (by decide) (by decide) (by decide) (by decide) (by first | exact e14 | exact (bset_n (by decide)).trans e14 | exact (rsT_n (by decide)).trans e14 | exact ((bset_n (by decide)).trans (bset_n (by decide))).trans e14)
    have cm := (cm_status a σ1).p
    rw [m14] at cm
    rw [if_neg c1, if_neg c1] at cm
    exact ⟨_, cm, fin_F 0 J he⟩
set_option maxHeartbeats 1000000 in
theorem op_odds (a b : Int32) {σ : Hp} {d : Int} (h : Jx σ d) (hd0 : 0 ≤ d) (hd : d ≤ 30720) : OpL yX4_odds wX4_odds 2 yX5_odds wX5_odds 3 [.int a, .int b] σ d := by
  obtain ⟨n, t, nk, J⟩ := h
  have hG := J.1.1
  have e4 : σ 4 = σ 0 := J.2.1
  obtain ⟨m, hm, hM⟩ := pls_n hG n (Nat.le_refl _)
  have cx := (cx_odds a b σ hG hm hM).p
  by_cases c1 : (0 ≤ a ∧ a ≤ 17) ∧ 0 ≤ b ∧ b ≤ 1
  · rw [if_pos c1, if_pos c1] at cx
    refine ⟨_, _, cx, fun σ1 he => ?_⟩
    have m4 : σ1 4 = σ 0 := mb he 4 (by decide) (by decide) (by decide) (by decide) e4
    have cm := (cm_odds (n := n) (d := d) a b σ1 (by rw [m4]; exact hG) hm (by rw [m4]; exact hM)).p
    rw [if_pos c1, if_pos c1] at cm
    exact ⟨_, cm, fin_A J he⟩
  · rw [if_neg c1, if_neg c1] at cx
    refine ⟨_, _, cx, fun σ1 he => ?_⟩
    have m4 : σ1 4 = σ 0 := mb he 4 (by decide) (by decide) (by decide) (by decide) ((bset_n (by decide)).trans e4)
    have cm := (cm_odds (n := n) (d := d) a b σ1 (by rw [m4]; exact hG) hm (by rw [m4]; exact hM)).p
    rw [if_neg c1, if_neg c1] at cm
    exact ⟨_, cm, fin_F 0 J he⟩
