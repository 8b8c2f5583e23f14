/-! ===== the reference's reading: bank 19 (from, to, value, isWrong) ===== -/
def mkR (ok : Bool) (R B : Nat → Int32) (t s : Nat) : Nat → Int32 := fun i => if i = 0 then nI s else if i = 1 then nI (tE B t s) else if i = 3 then (if ok = true then 0 else 1) else R i
theorem mkR_eq {A R B : Nat → Int32} {ok : Bool} {t s : Nat} (h0 : A 0 = nI s) (h1 : A 1 = nI (tE B t s)) (h3 : A 3 = if ok = true then 0 else 1) (h4 : ∀ i, i ≠ 0 → i ≠ 1 → i ≠ 3 → A i = R i) : A = mkR ok R B t s := by
  funext i
  unfold mkR
  by_cases e0 : i = 0
  · rw [if_pos e0, e0]; exact h0
  · by_cases e1 : i = 1
    · rw [if_neg e0, if_pos e1, e1]; exact h1
    · by_cases e3 : i = 3
      · rw [if_neg e0, if_neg e1, if_pos e3, e3]; exact h3
      · rw [if_neg e0, if_neg e1, if_neg e3]; exact h4 i e0 e1 e3
theorem mkR_3 (ok : Bool) (R B : Nat → Int32) (t s : Nat) : mkR ok R B t s 3 = if ok = true then 0 else 1 := rfl
theorem mkR_tok (ok : Bool) (R B : Nat → Int32) (t s s' : Nat) : upd (upd (mkR ok R B t s) 0 (nI s')) 1 (nI (tE B t s')) = mkR ok R B t s' := by
  refine mkR_eq ?_ ?_ ?_ ?_
  · rw [upd_n (by decide), upd_s]
  · rw [upd_s]
  · rw [upd_n (by decide), upd_n (by decide)]; rfl
  · intro i h0 h1 h3; rw [upd_n h1, upd_n h0]; unfold mkR; rw [if_neg h0, if_neg h1, if_neg h3]
theorem mkR_w (ok ok' : Bool) (R B : Nat → Int32) (t s : Nat) : upd (mkR ok R B t s) 3 (if ok' = true then 0 else 1) = mkR ok' R B t s := by
  refine mkR_eq ?_ ?_ ?_ ?_
  · rw [upd_n (by decide)]; rfl
  · rw [upd_n (by decide)]; rfl
  · rw [upd_s]
  · intro i h0 h1 h3; rw [upd_n h3]; unfold mkR; rw [if_neg h0, if_neg h1, if_neg h3]
theorem mkR_v (ok : Bool) (R B : Nat → Int32) (t s : Nat) (v : Int32) : upd (mkR ok R B t s) 2 v = mkR ok (upd R 2 v) B t s := by
  refine mkR_eq ?_ ?_ ?_ ?_
  · rw [upd_n (by decide)]; rfl
  · rw [upd_n (by decide)]; rfl
  · rw [upd_n (by decide)]; rfl
  · intro i h0 h1 h3
    by_cases h2 : i = 2
    · rw [h2, upd_s, upd_s]
    · rw [upd_n h2, upd_n h2]; unfold mkR; rw [if_neg h0, if_neg h1, if_neg h3]
theorem mkR_2 (ok : Bool) (R B : Nat → Int32) (t s : Nat) : mkR ok R B t s 2 = R 2 := rfl
def mdT (σ : Hp) (S R : Nat → Int32) : Hp := bset (bset σ 4 S) 19 R
theorem mdT_4 (σ : Hp) (S R : Nat → Int32) : mdT σ S R 4 = S := by unfold mdT; rw [bset_n (by decide), bset_s]
theorem mdT_19 (σ : Hp) (S R : Nat → Int32) : mdT σ S R 19 = R := bset_s _ _ _
theorem mdT_b {σ : Hp} {S R : Nat → Int32} {b : Nat} (h1 : b ≠ 4) (h2 : b ≠ 19) : mdT σ S R b = σ b := by unfold mdT; rw [bset_n h2, bset_n h1]
theorem mdT_R (σ : Hp) (S R R' : Nat → Int32) : bset (mdT σ S R) 19 R' = mdT σ S R' := bset_bset _ _ _ _
theorem mdT_S (σ : Hp) (S R S' : Nat → Int32) : bset (mdT σ S R) 4 S' = mdT σ S' R := by
  unfold mdT; rw [bset_comm (show (19 : Nat) ≠ 4 by decide), bset_bset]
theorem mdT_h (σ : Hp) (S R : Nat → Int32) (j : Nat) (v : Int32) : hset (mdT σ S R) 4 j v = mdT σ (upd S j v) R := by rw [hset_e, mdT_4, mdT_S]
theorem mdT_r (σ : Hp) (S R : Nat → Int32) (j : Nat) (v : Int32) : hset (mdT σ S R) 19 j v = mdT σ S (upd R j v) := by rw [hset_e, mdT_19, mdT_R]
theorem lc_eq {x y : Int64} : lg_cmp x y = 0 ↔ x = y := by
  unfold lg_cmp
  by_cases h1 : x > y
  · rw [if_pos h1]; exact ⟨fun h => absurd h (by decide), fun h => by rw [h] at h1; exact absurd h1 Int64.lt_irrefl⟩
  · rw [if_neg h1]
    by_cases h2 : x = y
    · rw [if_pos h2]; exact ⟨fun _ => h2, fun _ => rfl⟩
    · rw [if_neg h2]; exact ⟨fun h => absurd h (by decide), fun h => absurd h h2⟩
/-- the word's number against the one that tells a word -/
theorem wl_c {B : Nat → Int32} {t s q : Nat} {c : Int64} (hq : q < 13) (h7 : q ≠ 7) (hc : c = lN (cdL.getD q 0)) : lg_cmp (lN (wcN B t s)) c = 0 ↔ wdB (sBy.getD q []) B t s = true := by
  have h1 := wcN_le B t s
  have h2 := (wd_tab q hq h7).2.2.2
  rw [lc_eq, hc, pk_lEQ (by omega) (by omega), wc_iff hq h7]
theorem wl_0 : (17077349 : Int64) = lN (cdL.getD 0 0) := by decide +kernel
theorem wl_1 : (21780342215 : Int64) = lN (cdL.getD 1 0) := by decide +kernel
theorem wl_2 : (79008370745 : Int64) = lN (cdL.getD 2 0) := by decide +kernel
theorem wl_3 : (18935 : Int64) = lN (cdL.getD 3 0) := by decide +kernel
theorem wl_4 : (408572082 : Int64) = lN (cdL.getD 4 0) := by decide +kernel
theorem wl_5 : (267859 : Int64) = lN (cdL.getD 5 0) := by decide +kernel
theorem wl_6 : (218725 : Int64) = lN (cdL.getD 6 0) := by decide +kernel
theorem wl_8 : (66956 : Int64) = lN (cdL.getD 8 0) := by decide +kernel
theorem wl_9 : (149543 : Int64) = lN (cdL.getD 9 0) := by decide +kernel
theorem wl_10 : (655 : Int64) = lN (cdL.getD 10 0) := by decide +kernel
theorem wl_11 : (409031 : Int64) = lN (cdL.getD 11 0) := by decide +kernel
theorem wl_12 : (12009107 : Int64) = lN (cdL.getD 12 0) := by decide +kernel
theorem nu_st2 {v : Nat} {b : Int32} {d : Nat} (h : b = nI (48 + d)) : 10 * nI v + b - 48 = nI (10 * v + d) := by
  rw [h, show (10 : Int32) = nI 10 from rfl, pk_mul, nI_add, show (48 : Int32) = nI 48 from rfl, pk_sub (by omega)]
  congr 1; omega
theorem wo_st {v : Nat} {b : Int32} {d : Nat} (h : b = nI (96 + d)) (hd : d ≤ 26) : 32 * lN v + (b - 96).toInt64 = lN (32 * v + d) := by
  rw [h, show (96 : Int32) = nI 96 from rfl, pk_sub (by omega), show 96 + d - 96 = d by omega, nI_l (by omega), show (32 : Int64) = lN 32 from rfl, lN_mul, lN_add]
theorem wo_c {v : Nat} (hv : v ≤ 1200000000000000000) : lg_cmp (lN v) 36028797018963967 ≤ 0 ↔ ¬ 36028797018963967 < v := by
  have key : 0 < lg_cmp (lN v) 36028797018963967 ↔ 36028797018963967 < v := by
    rw [lc_gt, show (36028797018963967 : Int64) = lN 36028797018963967 by decide +kernel, pk_lLT (by decide) (by omega)]
  rw [← key]; exact ⟨fun h => Int32.not_lt.mpr h, fun h => Int32.not_lt.mp h⟩
theorem kd_some {B : Nat → Int32} {t s k : Nat} (hk : k < 7) (h : fstN (fun k => wdB (sBy.getD k []) B t s) k = none) (hc : wdB (sBy.getD k []) B t s = true) : kdN B t s = some k := by
  have := fstN_first h hc (6 - k)
  rw [show k + 1 + (6 - k) = 7 by omega] at this
  exact this
theorem kd_next {B : Nat → Int32} {t s k : Nat} (h : fstN (fun k => wdB (sBy.getD k []) B t s) k = none) (hc : ¬ wdB (sBy.getD k []) B t s = true) : fstN (fun k => wdB (sBy.getD k []) B t s) (k + 1) = none := fstN_none h (by simpa using hc)
theorem bI_tt {b : Bool} (h : b = true) : bI (b = true) = 1 := if_pos h
theorem upd_self (S : Nat → Int32) (i : Nat) : upd S i (S i) = S := upd_id S i
