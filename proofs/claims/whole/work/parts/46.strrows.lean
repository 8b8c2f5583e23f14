/-! ===== rows for the text constants: ldc, their fields and bytes, calls on them ===== -/
section GT
variable {cc : ByteArray} {own : String} {lev nL : Nat} {ro : Nat → Option (Nat × (Nat → Int32))} {G : Nat → List (Option Value) → List Value → Hp → Prop} {pc : Nat} {ls : List (Option Value)} {st : List Value} {σ : Hp}
theorem g_ldcS (h : Rules cc RX2 lev nL ro G) {i idx : Nat} (hi : i < 13) (he : sIx.getD i 0 = idx) (hd : decode cc pc = .ok (.ldc idx, 2)) (kk : G (pc + 2) ls (.ref (50 + i) :: st) σ) : G pc ls st σ := by
  subst he
  obtain ⟨p, l, e, R, s, m, args, below, meth, c, ad, D, cA, A0, cells, slots, Q, ⟨hx, hb, hml, hown, hts, hE, -⟩, rfl⟩ := h
  intro H locs la hP hS hl0
  exact va_ldcS (q := ad (50 + i)) hx hb hown (hE.2.2.2.2.2.1 i hi) hd (kk H locs la hP hS hl0)
theorem g_sval (h : Rules cc own lev nL ro G) {i idx : Nat} (hi : i < 13) (hw : Cond.fieldLink own idx "java/lang/String" "value" "[B" ∈ TW) (hd : decode cc pc = .ok (.getfield idx, 3)) (kk : G (pc + 3) ls (.ref (70 + i) :: st) σ) : G pc ls (.ref (50 + i) :: st) σ := by
  obtain ⟨p, l, e, R, s, m, args, below, meth, c, ad, D, cA, A0, cells, slots, Q, ⟨hx, hb, hml, hown, hts, hE, -⟩, rfl⟩ := h
  intro H locs la hP hS hl0
  exact vk_getf (v := .ref (ad (70 + i))) hx hb (hE.2.2.2.2.1.1 i hi).2.2.1 hS hown (hts _ hw) (fun _ h9 => h9) hd (kk H locs la hP hS hl0)
theorem g_scod (h : Rules cc own lev nL ro G) {i idx : Nat} (hi : i < 13) (hw : Cond.fieldLink own idx "java/lang/String" "coder" "B" ∈ TW) (hd : decode cc pc = .ok (.getfield idx, 3)) (kk : G (pc + 3) ls (.int 0 :: st) σ) : G pc ls (.ref (50 + i) :: st) σ := by
  obtain ⟨p, l, e, R, s, m, args, below, meth, c, ad, D, cA, A0, cells, slots, Q, ⟨hx, hb, hml, hown, hts, hE, -⟩, rfl⟩ := h
  intro H locs la hP hS hl0
  exact vk_getf (v := .int 0) hx hb (hE.2.2.2.2.1.1 i hi).2.1 hS hown (hts _ hw) (fun _ h9 => h9) hd (kk H locs la hP hS hl0)
theorem g_salen (h : Rules cc own lev nL ro G) {i : Nat} (hi : i < 13) (hd : decode cc pc = .ok (.arraylength, 1)) (kk : G (pc + 1) ls (.int (nI (sLn.getD i 0)) :: st) σ) : G pc ls (.ref (70 + i) :: st) σ := by
  obtain ⟨p, l, e, R, s, m, args, below, meth, c, ad, D, cA, A0, cells, slots, Q, ⟨hx, hb, hml, hown, hts, hE, -⟩, rfl⟩ := h
  intro H locs la hP hS hl0
  exact va_tlen hx hb (hE.2.2.2.2.1.1 i hi).2.2.2 hS rfl hd (kk H locs la hP hS hl0)
theorem g_sbald (h : Rules cc own lev nL ro G) {i : Nat} {x : Int32} (j : Nat) (hi : i < 13) (hj : j < sLn.getD i 0) (hL : sLn.getD i 0 < 2 ^ 31) (hx0 : x = nI j) (hd : decode cc pc = .ok (.baload, 1)) (kk : G (pc + 1) ls (.int ((sBy.getD i []).getD j 0) :: st) σ) : G pc ls (.int x :: .ref (70 + i) :: st) σ := by
  subst hx0
  obtain ⟨p, l, e, R, s, m, args, below, meth, c, ad, D, cA, A0, cells, slots, Q, ⟨hx, hb, hml, hown, hts, hE, -⟩, rfl⟩ := h
  intro H locs la hP hS hl0
  exact va_tb hx hb (hE.2.2.2.2.1.1 i hi).2.2.2 hS (vp_in_nI hj hL) (by rw [nI_clamp (by omega)]; rfl) hd (kk H locs la hP hS hl0)
theorem g_getz (h : Rules cc own lev nL ro G) {idx : Nat} (hw : Cond.fieldLink own idx "java/lang/String" "COMPACT_STRINGS" "Z" ∈ TW) (hd : decode cc pc = .ok (.getstatic idx, 3)) (kk : G (pc + 3) ls (.int 1 :: st) σ) : G pc ls st σ := by
  obtain ⟨p, l, e, R, s, m, args, below, meth, c, ad, D, cA, A0, cells, slots, Q, ⟨hx, hb, hml, hown, hts, hE, -⟩, rfl⟩ := h
  intro H locs la hP hS hl0
  exact va_gets hx hb hE.2.2.1.2.2.2.1 hS hown (hts _ hw) (fun _ h9 => h9) hd (kk H locs la hP hS hl0)
theorem g_getF (h : Rules cc own lev nL ro G) {idx : Nat} (hw : Cond.fieldLink own idx "jdk/internal/util/Preconditions" "SIOOBE_FORMATTER" "Ljava/util/function/BiFunction;" ∈ TW) (hd : decode cc pc = .ok (.getstatic idx, 3)) (kk : ∀ v : Value, v = .null ∨ v = .ref 90 → G (pc + 3) ls (v :: st) σ) : G pc ls st σ := by
  obtain ⟨p, l, e, R, s, m, args, below, meth, c, ad, D, cA, A0, cells, slots, Q, ⟨hx, hb, hml, hown, hts, hE, -⟩, rfl⟩ := h
  intro H locs la hP hS hl0
  rcases hE.2.2.1.2.2.2.2 with hz | hz
  · exact va_gets hx hb hz hS hown (hts _ hw) (fun _ h9 => h9) hd (kk _ (Or.inl rfl) H locs la hP hS hl0)
  · exact va_gets hx hb hz hS hown (hts _ hw) (fun _ h9 => h9) hd (kk _ (Or.inr rfl) H locs la hP hS hl0)
theorem g_i2c (h : Rules cc own lev nL ro G) {x : Int32} (hd : decode cc pc = .ok (.i2c, 1)) (k : G (pc + 1) ls (.int ((x.toUInt32 % 65536).toInt32) :: st) σ) : G pc ls (.int x :: st) σ := g_step h (fun hx hb _ _ _ k => lv_i2c hx hb hd rfl k) k
theorem g_pop (h : Rules cc own lev nL ro G) {x : Int32} (hd : decode cc pc = .ok (.pop, 1)) (k : G (pc + 1) ls st σ) : G pc ls (.int x :: st) σ := g_step h (fun hx hb _ _ _ k => lv_pop hx hb hd rfl k) k
/-- a call on a text constant -/
theorem g_cvS (h : Rules cc own lev nL ro G) {y : MethodName} {bytes : ByteArray} {maxL n idx lev' i : Nat} {ret : Option FieldType} {as stk : List Value} {v : Int32} {τ : Hp} (civ : CIV y bytes maxL ret n) (hd : decode cc pc = .ok (.invokevirtual idx, 3)) (hlink : Cond.methodLink own idx y ∈ TW) (hlev : lev' + 1 ≤ lev) (hi : i < 13) (hq : y.cls = "java/lang/String") (ct : CtI y (wsM y bytes maxL ret) lev' (.ref (50 + i) :: as) σ v τ) (hn : as.length = n) (hst : (st.map fun v => v.category).sum ≤ 8) (hs : stk = as.reverse ++ .ref (50 + i) :: st) (kk : G (pc + 3) ls (.int v :: st) τ) : G pc ls stk σ := by
  subst hs
  obtain ⟨p, l, e, R, s, m, args, below, meth, c, ad, D, cA, A0, cells, slots, Q, ⟨hx, hb, hml, hown, hts, hE, hA, ⟨r1, r2, r3, r4⟩, -⟩, rfl⟩ := h
  intro H locs la hP hS hl0
  have hA' : ∀ q, Aof ad q → A0 q := by rintro q ⟨k, hk, rfl⟩; exact hA k hk
  have hcw : CallW R s args own y.cls idx y bytes maxL ret (wsM y bytes maxL ret) (rmL lev') 0 0 n := ⟨callB_G hts civ.1 hlink hlev ⟨r1, r2⟩, hts _ civ.2.1, hts _ civ.2.2⟩
  refine va_callG (va_runV (As := as.map (fv ad)) (rest := st.map (fv ad)) (b := ad (50 + i)) (Ts := TW) ⟨hx, hb, hml, hown, hts⟩ (ct l ad D cA) hcw ⟨PcG_blind, by rw [hq]; exact vk_recv (adK := fun i => ad (50 + i)) (i := i) hE.2.2.2.2.1 hi hS, fun U hU hW => ⟨rfl, by rw [hU]; exact hP, by rw [hU]; exact hE.next hW (fun a h1 h2 => hS.2.1 a h1 h2) hA'⟩⟩ rfl (by rw [List.length_map]; exact hn) hl0.1 (by simp [fv]) (st_room hst) hd ⟨by omega, by omega⟩) hS hA (fun r σ' H1 locs1 hp hP1 hS1 => ?_)
  obtain ⟨rfl, rfl⟩ := hp
  exact kk H1 locs1 la hP1 hS1 hl0
/-- a method that answers nothing: what its state is like behind it -/
theorem g_cvW (h : Rules cc own lev nL ro G) {y : MethodName} {bytes : ByteArray} {maxL n idx lev' : Nat} {ret : Option FieldType} {k ci : Nat} {q : vw_C} {fs : List Fl} {as stk : List Value} {P : Hp → Prop} (cI : CIV y bytes maxL ret n) (hd : decode cc pc = .ok (.invokevirtual idx, 3)) (hlink : Cond.methodLink own idx y ∈ TW) (hlev : lev' + 1 ≤ lev) (hk : k < 29) (hl : lay k = .inl (ci, fs)) (hc : vwCl[ci]? = some q) (hq : q.1 = y.cls) (ct : Ct y (wsM y bytes maxL ret) lev' (.ref k :: as) σ (fun r σ' => r = none ∧ P σ')) (hn : as.length = n) (hst : (st.map fun v => v.category).sum ≤ 8) (hs : stk = as.reverse ++ .ref k :: st) (kk : ∀ σ', P σ' → G (pc + 3) ls st σ') : G pc ls stk σ := g_cv h cI hd hlink hlev hk hl hc hq ct hn hst hs (fun r σ' hp => by obtain ⟨rfl, hp⟩ := hp; exact kk σ' hp)
end GT
def CtW (y : MethodName) (ws : List Cond) (lev : Nat) (as : List Value) (σ : Hp) (P : Hp → Prop) : Prop := Ct y ws lev as σ (fun r σ' => r = none ∧ P σ')
theorem CtW.of {y : MethodName} {bytes : ByteArray} {maxL lev : Nat} {as : List Value} {σ : Hp} {P : Hp → Prop} {ls0 : List (Option Value)} (hy : plainName y.cls = true) (hlen : (lsIn as).length ≤ maxL) (h0 : lsIn as ++ List.replicate (maxL - (lsIn as).length) none = ls0)
    (body : ∀ G : Nat → List (Option Value) → List Value → Hp → Prop, Rules bytes y.cls lev maxL roS G → (∀ {pc : Nat} {ls : List (Option Value)} {σ' : Hp}, decode bytes pc = .ok (.return_, 1) → P σ' → G pc ls [] σ') → G 0 ls0 [] σ) : CtW y (wsM y bytes maxL none) lev as σ P := by
  subst h0
  exact Ct.of hy hlen (fun G hR _ _ _ h1 => body G hR (fun hd e2 => h1 _ _ _ rfl hd ⟨rfl, e2⟩))
theorem CtP.weak {y : MethodName} {ws : List Cond} {lev : Nat} {as : List Value} {σ : Hp} {v v' : Int32} {P : Hp → Prop} (h : CtP y ws lev as σ v P) (e : v = v') : CtP y ws lev as σ v' P := e ▸ h
theorem str_by : ∀ i, i < 13 → (sBy.getD i []).length = sLn.getD i 0 ∧ sLn.getD i 0 < 9 ∧ ∀ k, k < sLn.getD i 0 → ((((sBy.getD i []).getD k 0) &&& 255).toUInt32 % 65536).toInt32 = (sBy.getD i []).getD k 0 := by decide +kernel
theorem str_nar : ∀ i, i < 13 → ∀ k, k < sLn.getD i 0 → narrow .char (.int ((sBy.getD i []).getD k 0)) = .int ((sBy.getD i []).getD k 0) := by decide +kernel
theorem shr0 {n : Nat} (h : n < 1000000) : nI n >>> ((0 : Int32) &&& 31) = nI n := by
  rw [show (0 : Int32) &&& 31 = 0 by decide]
  apply Int32.toBitVec_inj.mp
  show (nI n).toBitVec.sshiftRight ((0 : Int32).toBitVec.smod 32).toNat = _
  rw [show ((0 : Int32).toBitVec.smod 32).toNat = 0 by decide, BitVec.sshiftRight_zero]
