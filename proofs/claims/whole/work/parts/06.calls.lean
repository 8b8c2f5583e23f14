section GC
variable {cc : ByteArray} {own : String} {lev nL : Nat} {ro : Nat → Option (Nat × (Nat → Int32))} {G : Nat → List (Option Value) → List Value → Hp → Prop} {pc : Nat} {ls : List (Option Value)} {st : List Value} {σ : Hp}
theorem g_gets (h : Rules cc own lev nL ro G) {idx t : Nat} {n : String} (hZ : ∀ {ad : Nat → Nat} {D : va_G} {cA : ClassId} {A : Nat → Prop} {U : State} {H : Heap}, En ad D cA A U H → va_Z "ParcelBall" n "[I" (.ref (ad t)) A U H) (hw : Cond.fieldLink own idx "ParcelBall" n "[I" ∈ TW) (hd : decode cc pc = .ok (.getstatic idx, 3)) (kk : G (pc + 3) ls (.ref t :: st) σ) : G pc ls st σ := by
  obtain ⟨p, l, e, R, s, m, args, below, meth, c, ad, D, cA, A0, cells, slots, Q, ⟨hx, hb, hml, hown, hts, hE, -⟩, rfl⟩ := h
  intro H locs la hP hS hl0
  exact va_gets hx hb (hZ hE) hS hown (hts _ hw) (fun _ h9 => h9) hd (kk H locs la hP hS hl0)
theorem z_KA {ad : Nat → Nat} {D : va_G} {cA : ClassId} {A : Nat → Prop} {U : State} {H : Heap} (h : En ad D cA A U H) : va_Z "ParcelBall" "KIND_ABOVE" "[I" (.ref (ad 40)) A U H := h.2.2.1.1
theorem z_FL {ad : Nat → Nat} {D : va_G} {cA : ClassId} {A : Nat → Prop} {U : State} {H : Heap} (h : En ad D cA A U H) : va_Z "ParcelBall" "FACT_LEAST" "[I" (.ref (ad 41)) A U H := h.2.2.1.2.1
theorem z_FM {ad : Nat → Nat} {D : va_G} {cA : ClassId} {A : Nat → Prop} {U : State} {H : Heap} (h : En ad D cA A U H) : va_Z "ParcelBall" "FACT_MOST" "[I" (.ref (ad 42)) A U H := h.2.2.1.2.2.1
theorem g_max (h : Rules cc own lev nL ro G) {idx : Nat} {x y : Int32} (hl : 1 ≤ lev) (hw : Cond.methodLink own idx Lib.Math.max.name ∈ TW) (hd : decode cc pc = .ok (.invokestatic idx, 3)) (hst : (st.map fun v => v.category).sum ≤ 8) (kk : G (pc + 3) ls (.int (if x < y then y else x) :: st) σ) : G pc ls (.int y :: .int x :: st) σ := by
  obtain ⟨p, l, e, R, s, m, args, below, meth, c, ad, D, cA, A0, cells, slots, Q, ⟨hx, hb, hml, hown, hts, hE, hA, ⟨r1, r2, r3, r4⟩, -⟩, rfl⟩ := h
  intro H locs la hP hS hl0
  have e1 : ((st.map (fv ad)).map fun v => v.category) = st.map fun v => v.category := by rw [List.map_map]; exact List.map_congr_left fun v _ => fv_cat ad v
  exact va_mmax hx hb (hml.trans hl0.1.symm) hown (hts _ hw) (hts _ sm_yJ9_max_7cf53) (hts _ in_J9) (hts _ cd_yJ9_max_7cf53) (by omega) (by rw [e1]; omega) r3 r4 hd (kk H locs la hP hS hl0)
theorem g_min (h : Rules cc own lev nL ro G) {idx : Nat} {x y : Int32} (hl : 1 ≤ lev) (hw : Cond.methodLink own idx Lib.Math.min.name ∈ TW) (hd : decode cc pc = .ok (.invokestatic idx, 3)) (hst : (st.map fun v => v.category).sum ≤ 8) (kk : G (pc + 3) ls (.int (if y < x then y else x) :: st) σ) : G pc ls (.int y :: .int x :: st) σ := by
  obtain ⟨p, l, e, R, s, m, args, below, meth, c, ad, D, cA, A0, cells, slots, Q, ⟨hx, hb, hml, hown, hts, hE, hA, ⟨r1, r2, r3, r4⟩, -⟩, rfl⟩ := h
  intro H locs la hP hS hl0
  have e1 : ((st.map (fv ad)).map fun v => v.category) = st.map fun v => v.category := by rw [List.map_map]; exact List.map_congr_left fun v _ => fv_cat ad v
  exact va_mmin hx hb (hml.trans hl0.1.symm) hown (hts _ hw) (hts _ sm_yJ9_min_7cf53) (hts _ in_J9) (hts _ cd_yJ9_min_7cf53) (by omega) (by rw [e1]; omega) r3 r4 hd (kk H locs la hP hS hl0)
theorem g_abs (h : Rules cc own lev nL ro G) {idx : Nat} {x : Int32} (hl : 1 ≤ lev) (hw : Cond.methodLink own idx Lib.Math.abs.name ∈ TW) (hd : decode cc pc = .ok (.invokestatic idx, 3)) (hst : (st.map fun v => v.category).sum ≤ 8) (kk : G (pc + 3) ls (.int (if 0 ≤ x then x else 0 - x) :: st) σ) : G pc ls (.int x :: st) σ := by
  obtain ⟨p, l, e, R, s, m, args, below, meth, c, ad, D, cA, A0, cells, slots, Q, ⟨hx, hb, hml, hown, hts, hE, hA, ⟨r1, r2, r3, r4⟩, -⟩, rfl⟩ := h
  intro H locs la hP hS hl0
  have e1 : ((st.map (fv ad)).map fun v => v.category) = st.map fun v => v.category := by rw [List.map_map]; exact List.map_congr_left fun v _ => fv_cat ad v
  exact va_mabs hx hb (hml.trans hl0.1.symm) hown (hts _ hw) (hts _ sm_yJ9_abs_0f7a4) (hts _ in_J9) (hts _ cd_yJ9_abs_0f7a4) (by omega) (by rw [e1]; omega) r3 r4 hd (kk H locs la hP hS hl0)
/-- System.arraycopy of n numbers from place sp of the row k0 to place dp of the row k1 -/
theorem g_cpy (h : Rules cc own lev nL ro G) {idx k0 k1 b0 o0 n0 b1 o1 n1 : Nat} {xs xd xn : Int32} (sp dp n : Nat) (hl : 1 ≤ lev) (hk0 : k0 < 29) (hk1 : k1 < 29) (hl0 : lay k0 = .inr (b0, o0, n0)) (hl1 : lay k1 = .inr (b1, o1, n1)) (h0 : sp + n ≤ n0) (h1 : dp + n ≤ n1) (hn0 : n0 < 2 ^ 31) (hn1 : n1 < 2 ^ 31) (es : xs = nI sp) (ed : xd = nI dp) (en : xn = nI n) (hw : Cond.methodLink own idx arraycopyName ∈ TW) (hd : decode cc pc = .ok (.invokestatic idx, 3)) (hst : (st.map fun v => v.category).sum ≤ 8) (kk : G (pc + 3) ls st (rset σ b1 (o1 + dp) n (fun j => σ b0 (o0 + sp + j)))) : G pc ls (.int xn :: .int xd :: .ref k1 :: .int xs :: .ref k0 :: st) σ := by
  subst es; subst ed; subst en
  obtain ⟨p, l, e, R, s, m, args, below, meth, c, ad, D, cA, A0, cells, slots, Q, ⟨hx, hb, hml, hown, hts, hE, hA, ⟨r1, r2, r3, r4⟩, -⟩, rfl⟩ := h
  intro H locs la hP hS hlv
  have e1 : ((st.map (fv ad)).map fun v => v.category) = st.map fun v => v.category := by rw [List.map_map]; exact List.map_congr_left fun v _ => fv_cat ad v
  have he0 : (wsOf ad cA σ)[k0]? = some (ad k0, .inl (cA, n0, .inl (arF σ b0 o0 n0))) := by rw [ws_at hk0, cell_a hl0]
  have he1 : (wsOf ad cA σ)[k1]? = some (ad k1, .inl (cA, n1, .inl (arF σ b1 o1 n1))) := by rw [ws_at hk1, cell_a hl1]
  have q1 : (nI sp).toNatClampNeg = sp := nI_clamp (by omega)
  have q2 : (nI dp).toNatClampNeg = dp := nI_clamp (by omega)
  have q3 : (nI n).toNatClampNeg = n := nI_clamp (by omega)
  refine va_copyi (ty := .int) hx hb (hml.trans hlv.1.symm) hown (hts _ hw) (hts _ na_arraycopy) (hts _ sm_arraycopy) (hts _ in_J10) hE.1 hP (ws_D hE.2.1 hA) hS k0 k1 0 0 he0 he1 rfl rfl rfl (nI_pos (by omega)) (nI_pos (by omega)) (nI_pos (by omega)) (by rw [q1, q3]; exact h0) (by rw [q2, q3]; exact h1) (fun _ _ => rfl) (by omega) (Nat.le_trans (m := 8 + (nativeFrameWords "java/lang/System" "arraycopy" 5 + 11)) (by rw [e1]; omega) (Nat.le_trans (m := 36) (by decide +kernel) (by omega))) hd (fun H1 locs1 hP1 hD1 hS1 => ?_)
  rw [q1, q2, q3] at hP1
  rw [ws_cpy (σ := σ) (d := dp) (n := n) (f := fun j => σ b0 (o0 + sp + j)) hk1 hl1 h1 (fun j => ?_)] at hP1
  · exact kk H1 locs1 la hP1 hS1 hlv
  · unfold va_cpy
    by_cases hj : dp ≤ j ∧ j < dp + n
    · rw [if_pos hj, if_pos hj]
      unfold arF
      rw [if_pos (by omega)]
      congr 1; omega
    · rw [if_neg hj, if_neg hj]
-- calls
theorem va_callG {p : Program} {l : Launch} {e : Env} {R : Room} {s : State} {m : MethodId} {args : Array Value} {below : List Frame} {meth : Method} {c : Code} {H : Heap} {locs : List Loc} {cells slots : Nat} {Q : State → Prop} {pc : Nat} {la : Array Slot} {rest st0 : List Value} {a : Array Value} {A0 : Nat → Prop} {ad : Nat → Nat} {D : va_G} {cA : ClassId} {post : Option Value → Hp → Prop}
    (hr : va_Run p l e R s m args below meth c H locs cells slots 0 0 (F0 m pc la st0) rest (Qg ad D cA post a) (Aof ad)) (hS : va_S A0 s.heap H locs) (hA : ∀ k, k < 29 → A0 (ad k))
    (kk : ∀ (r : Option Value) (σ' : Hp) (H1 : Heap) (locs1 : List Loc), post r σ' → va_P D vwCl (wsOf ad cA σ') H1 → va_S A0 s.heap H1 locs1 → W p l e R s m args below meth c H1 locs1 cells slots Q (F0 m (pc + 3) la ((r.map (fv ad)).toList ++ rest))) : W p l e R s m args below meth c H locs cells slots Q (F0 m pc la st0) := by
  intro T hT X
  obtain ⟨v, st₀, t, T', L, h0, X', hL, e1, e2, ⟨⟨r, σ', hv, hp, hb⟩, hz, hk⟩, st⟩ := hr T hT X
  cases hv
  rw [h0] at hz hk
  have hA' : ∀ q, Aof ad q → A0 q := by rintro q ⟨k, hk, rfl⟩; exact hA k hk
  obtain ⟨t2, a1, b1⟩ := kk r σ' T'.heap (locs ++ L) hp (by rw [e1]; exact hb)
    ⟨Nat.le_trans hS.1 (by rw [e1]; exact hz), fun q h1 h2 => by rw [e1, hk q (Nat.lt_of_lt_of_le h1 hS.1) (fun z => h2 (hA' q z))]; exact hS.2.1 q h1 h2, fun q hq => by
      rcases List.mem_append.mp hq with h | h
      · exact hS.2.2 q h
      · exact hA' _ (hL q h)⟩ T' rfl X'
  exact ⟨t2, st t2 a1, b1⟩
theorem PcG_blind {ad : Nat → Nat} {D : va_G} {cA : ClassId} {as : List Value} {σ : Hp} : FrameBlind (PcG ad D cA as σ) := fun _ _ _ _ h => ⟨h.1, h.2.1, h.2.2.same rfl⟩
/-- what a call must know of the method that it calls -/
def CI (y : MethodName) (bytes : ByteArray) (maxL : Nat) (ret : Option FieldType) (n : Nat) : Prop := (y.cls ≠ "java/lang/invoke/MethodHandle" ∧ y.cls ≠ "java/lang/invoke/VarHandle" ∧ (parseMethodDescriptor y.desc).map (fun d => d.parameters.length) = some n) ∧ maxL ≤ 17 ∧ Cond.code y bytes maxL ret ∈ TW ∧ Cond.initialized y.cls ∈ TW
def CIV (y : MethodName) (bytes : ByteArray) (maxL : Nat) (ret : Option FieldType) (n : Nat) : Prop := CI y bytes maxL ret n ∧ Cond.instanceMethod y ∈ TW ∧ Cond.selects y.cls y y ∈ TW
def CIS (y : MethodName) (bytes : ByteArray) (maxL : Nat) (ret : Option FieldType) (n : Nat) : Prop := CI y bytes maxL ret n ∧ Cond.static y ∈ TW
theorem TW_good : GoodIn TW TW := fun w h => ⟨h, good_of_word (List.mem_filter.mp h).2⟩
theorem wsM_good {y : MethodName} {bytes : ByteArray} {maxL : Nat} {ret : Option FieldType} (h : Cond.code y bytes maxL ret ∈ TW) : GoodIn TW (wsM y bytes maxL ret) := by
  intro w hw
  rcases List.mem_cons.mp hw with rfl | hw
  · exact TW_good _ h
  · exact TW_good _ hw
theorem callB_G {R : Room} {s : State} {args : Array Value} {own : String} {idx lev lev' n maxL : Nat} {y : MethodName} {bytes : ByteArray} {ret : Option FieldType} (hts : ∀ w ∈ TW, w.before args s = true) (ci : CI y bytes maxL ret n) (hlink : Cond.methodLink own idx y ∈ TW) (hlev : lev' + 1 ≤ lev) (hr : lev ≤ R.frames ∧ 36 * lev ≤ R.locals) : CallB R s args own idx y bytes maxL ret (wsM y bytes maxL ret) (rmL lev') 0 0 n :=
  callB_of n hts (wsM_good ci.2.2.1) rfl rfl rfl (hts _ ci.2.2.2) (hts _ hlink) ci.1 ⟨by show lev' + 1 ≤ R.frames; omega, by show 8 + (maxL + 11) + 36 * lev' ≤ R.locals; have := ci.2.1; omega⟩
theorem st_room {ad : Nat → Nat} {m : MethodId} {la : Array Slot} {st0 : List Value} (hst : (st.map fun v => v.category).sum ≤ 8) : 2 * (F0 m pc la st0).monitorRoom + ((st.map (fv ad)).map fun v => v.category).sum ≤ 8 := by
  have e1 : ((st.map (fv ad)).map fun v => v.category) = st.map fun v => v.category := by rw [List.map_map]; exact List.map_congr_left fun v _ => fv_cat ad v
  exact lv_room (by rw [e1]; exact hst)
theorem r_toList {ad : Nat → Nat} (r : Option Value) : (r.map (fv ad)).toList = r.toList.map (fv ad) := by cases r <;> rfl
theorem g_cv (h : Rules cc own lev nL ro G) {y : MethodName} {bytes : ByteArray} {maxL n idx lev' k ci : Nat} {ret : Option FieldType} {q : vw_C} {fs : List Fl} {as stk : List Value} {post : Option Value → Hp → Prop} (civ : CIV y bytes maxL ret n) (hd : decode cc pc = .ok (.invokevirtual idx, 3)) (hlink : Cond.methodLink own idx y ∈ TW) (hlev : lev' + 1 ≤ lev) (hk : k < 29) (hl : lay k = .inl (ci, fs)) (hc : vwCl[ci]? = some q) (hq : q.1 = y.cls) (ct : Ct y (wsM y bytes maxL ret) lev' (.ref k :: as) σ post) (hn : as.length = n) (hst : (st.map fun v => v.category).sum ≤ 8) (hs : stk = as.reverse ++ .ref k :: st) (kk : ∀ r σ', post r σ' → G (pc + 3) ls (r.toList ++ st) σ') : G pc ls stk σ := by
  subst hs
  obtain ⟨p, l, e, R, s, m, args, below, meth, c, ad, D, cA, A0, cells, slots, Q, ⟨hx, hb, hml, hown, hts, hE, hA, ⟨r1, r2, r3, r4⟩, -⟩, rfl⟩ := h
  intro H locs la hP hS hl0
  have he : (wsOf ad cA σ)[k]? = some (ad k, .inr (ci, fs.map (evF ad σ))) := by rw [ws_at hk, cell_o hl]
  have hA' : ∀ q, Aof ad q → A0 q := by rintro q ⟨k, hk, rfl⟩; exact hA k hk
  have hcw : CallW R s args own y.cls idx y bytes maxL ret (wsM y bytes maxL ret) (rmL lev') 0 0 n := ⟨callB_G hts civ.1 hlink hlev ⟨r1, r2⟩, hts _ civ.2.1, hts _ civ.2.2⟩
  refine va_callG (va_runV (As := as.map (fv ad)) (rest := st.map (fv ad)) (b := ad k) (Ts := TW) ⟨hx, hb, hml, hown, hts⟩ (ct l ad D cA) hcw ⟨PcG_blind, by rw [← hq]; exact va_recv hE.1 hP hc he, fun U hU hW => ⟨rfl, by rw [hU]; exact hP, by rw [hU]; exact hE.next hW (fun a h1 h2 => hS.2.1 a h1 h2) hA'⟩⟩ rfl (by rw [List.length_map]; exact hn) hl0.1 (by simp [fv]) (st_room hst) hd ⟨by omega, by omega⟩) hS hA (fun r σ' H1 locs1 hp hP1 hS1 => ?_)
  have := kk r σ' hp H1 locs1 la hP1 hS1 hl0
  rw [List.map_append] at this
  rw [r_toList]
  exact this
theorem g_cs (h : Rules cc own lev nL ro G) {y : MethodName} {bytes : ByteArray} {maxL n idx lev' : Nat} {ret : Option FieldType} {as stk : List Value} {post : Option Value → Hp → Prop} (cis : CIS y bytes maxL ret n) (hd : decode cc pc = .ok (.invokestatic idx, 3)) (hlink : Cond.methodLink own idx y ∈ TW) (hlev : lev' + 1 ≤ lev) (ct : Ct y (wsM y bytes maxL ret) lev' as σ post) (hn : as.length = n) (hst : (st.map fun v => v.category).sum ≤ 8) (hs : stk = as.reverse ++ st) (kk : ∀ r σ', post r σ' → G (pc + 3) ls (r.toList ++ st) σ') : G pc ls stk σ := by
  subst hs
  obtain ⟨p, l, e, R, s, m, args, below, meth, c, ad, D, cA, A0, cells, slots, Q, ⟨hx, hb, hml, hown, hts, hE, hA, ⟨r1, r2, r3, r4⟩, -⟩, rfl⟩ := h
  intro H locs la hP hS hl0
  have hA' : ∀ q, Aof ad q → A0 q := by rintro q ⟨k, hk, rfl⟩; exact hA k hk
  refine va_callG (va_runS (As := as.map (fv ad)) (rest := st.map (fv ad)) (Ts := TW) ⟨hx, hb, hml, hown, hts⟩ (ct l ad D cA) ⟨callB_G hts cis.1 hlink hlev ⟨r1, r2⟩, hts _ cis.2⟩ ⟨PcG_blind, fun U hU hW => ⟨rfl, by rw [hU]; exact hP, by rw [hU]; exact hE.next hW (fun a h1 h2 => hS.2.1 a h1 h2) hA'⟩⟩ rfl (by rw [List.length_map]; exact hn) hl0.1 (by simp) (st_room hst) hd ⟨by omega, by omega⟩) hS hA (fun r σ' H1 locs1 hp hP1 hS1 => ?_)
  have := kk r σ' hp H1 locs1 la hP1 hS1 hl0
  rw [List.map_append] at this
  rw [r_toList]
  exact this
/-- a private static method of the host, out of a nested class -/
theorem g_cn (h : Rules cc own lev nL ro G) {y : MethodName} {bytes : ByteArray} {maxL n idx lev' : Nat} {ret : Option FieldType} {as stk : List Value} {post : Option Value → Hp → Prop} (cis : CIS y bytes maxL ret n) (hd : decode cc pc = .ok (.invokestatic idx, 3)) (hlink : (own, idx, y) ∈ NW) (hlev : lev' + 1 ≤ lev) (ct : Ct y (wsM y bytes maxL ret) lev' as σ post) (hn : as.length = n) (hst : (st.map fun v => v.category).sum ≤ 8) (hs : stk = as.reverse ++ st) (kk : ∀ r σ', post r σ' → G (pc + 3) ls (r.toList ++ st) σ') : G pc ls stk σ := by
  subst hs
  obtain ⟨p, l, e, R, s, m, args, below, meth, c, ad, D, cA, A0, cells, slots, Q, ⟨hx, hb, hml, hown, hts, hE, hA, ⟨r1, r2, r3, r4⟩, -⟩, rfl⟩ := h
  intro H locs la hP hS hl0
  have hA' : ∀ q, Aof ad q → A0 q := by rintro q ⟨k, hk, rfl⟩; exact hA k hk
  have cn := va_cnB (R := R) (own := own) (index := idx) (host := "ParcelBall") (rm := rmL lev') (mc := 0) (ms := 0) n hts (wsM_good cis.1.2.2.1) rfl rfl rfl (hE.2.2.2.2.2.2 _ hlink) (hts _ cis.1.2.2.2) cis.1.1 ⟨by show lev' + 1 ≤ R.frames; omega, by show 8 + (maxL + 11) + 36 * lev' ≤ R.locals; have := cis.1.2.1; omega⟩
  refine va_callG (va_runSN (As := as.map (fv ad)) (rest := st.map (fv ad)) (Ts := TW) ⟨hx, hb, hml, hown, hts⟩ (ct l ad D cA) ⟨cn, hts _ cis.2, trivial⟩ ⟨PcG_blind, fun U hU hW => ⟨rfl, by rw [hU]; exact hP, by rw [hU]; exact hE.next hW (fun a h1 h2 => hS.2.1 a h1 h2) hA'⟩⟩ rfl (by rw [List.length_map]; exact hn) hl0.1 (by simp) (st_room hst) hd ⟨by omega, by omega⟩) hS hA (fun r σ' H1 locs1 hp hP1 hS1 => ?_)
  have := kk r σ' hp H1 locs1 la hP1 hS1 hl0
  rw [List.map_append] at this
  rw [r_toList]
  exact this
/-- a method's contract out of its judgement -/
theorem Ct.of {y : MethodName} {bytes : ByteArray} {maxL lev : Nat} {ret : Option FieldType} {as : List Value} {σ : Hp} {post : Option Value → Hp → Prop} (hy : plainName y.cls = true) (hlen : (lsIn as).length ≤ maxL)
    (body : ∀ G : Nat → List (Option Value) → List Value → Hp → Prop, Rules bytes y.cls lev maxL roS G →
      (∀ pc ls v σ' ty, ret = some ty → narrow ty (.int v) = .int v → decode bytes pc = .ok (.ireturn, 1) → post (some (.int v)) σ' → G pc ls [.int v] σ') →
      (∀ pc ls v σ', ret = some .long → decode bytes pc = .ok (.lreturn, 1) → post (some (.long v)) σ' → G pc ls [.long v] σ') →
      (∀ pc ls v σ', ((∃ n, ret = some (.object n)) ∨ ∃ t, ret = some (.array t)) → decode bytes pc = .ok (.areturn, 1) → post (some (.ref v)) σ' → G pc ls [.ref v] σ') →
      (∀ pc ls σ', ret = none → decode bytes pc = .ok (.return_, 1) → post none σ' → G pc ls [] σ') →
      G 0 (lsIn as ++ List.replicate (maxL - (lsIn as).length) none) [] σ) : Ct y (wsM y bytes maxL ret) lev as σ post := by
  intro l ad D cA
  refine Met.ofW (cc := bytes) (maxL := maxL) (ret := ret) hy rfl ?_
  intro p e s m args below meth c s₁ B hml hv
  obtain ⟨rfl, hP, hE⟩ := hv
  have hx := B.exec
  have hb := B.bytes
  have hr := B.returns
  have hts0 := atoms_spec (ws := wsM y bytes maxL ret) B.pre
  have hts : ∀ w ∈ TW, w.before ((as.map (fv ad)).toArray) s = true := fun w h => hts0 w (List.mem_cons_of_mem _ h)
  have hown : s.vm.findClass y.cls = some m.cls := findClass_of_methodNamed B.named
  have hlocks := B.notSynchronized
  have hA : ∀ k, k < 29 → Aof ad (ad k) := fun k hk => ⟨k, hk, rfl⟩
  rw [lg_entry_eq]
  refine body (Gof p l e (rmL lev) s m (as.map (fv ad)).toArray below meth c ad D cA (Aof ad) 0 0 maxL (MQ below (Qg ad D cA post) (as.map (fv ad)).toArray s 0 0 (Aof ad))) ⟨p, l, e, rmL lev, s, m, _, below, meth, c, ad, D, cA, Aof ad, 0, 0, _, ⟨hx, hb, hml, hown, hts, hE, hA, ⟨Nat.le_refl _, Nat.le_refl _, Nat.zero_le _, Nat.zero_le _⟩, hE.2.2.2.1⟩, rfl⟩ ?_ ?_ ?_ ?_ s.heap [] _ hP va_S.rf (Lv_entry ad as hlen)
  · intro pc ls v σ' ty h1 h2 h3 h4 H locs la hP hS hl
    exact W.zret hx hb (hr.trans h1) h2 (fun t ht hW => ⟨⟨some (.int v), σ', rfl, h4, by rw [ht]; exact hP⟩, hS.F ht⟩) hS.2.2 h3
  · intro pc ls v σ' h1 h3 h4 H locs la hP hS hl
    exact W.lret hx hb (hr.trans h1) (fun t ht hW => ⟨⟨some (.long v), σ', rfl, h4, by rw [ht]; exact hP⟩, hS.F ht⟩) hS.2.2 h3
  · intro pc ls v σ' h1 h3 h4 H locs la hP hS hl
    rcases h1 with ⟨n, h1⟩ | ⟨n, h1⟩
    · exact W.aret (v := .ref (ad v)) hx hb (hr.trans h1) (Or.inl ⟨n, rfl⟩) (Or.inr ⟨_, rfl⟩) (fun t ht hW => ⟨⟨some (.ref v), σ', rfl, h4, by rw [ht]; exact hP⟩, hS.F ht⟩) hS.2.2 h3
    · exact W.aret (v := .ref (ad v)) hx hb (hr.trans h1) (Or.inr ⟨n, rfl⟩) (Or.inr ⟨_, rfl⟩) (fun t ht hW => ⟨⟨some (.ref v), σ', rfl, h4, by rw [ht]; exact hP⟩, hS.F ht⟩) hS.2.2 h3
  · intro pc ls σ' h1 h3 h4 H locs la hP hS hl
    exact W.vret hx hb (hr.trans h1) (fun t ht hW => ⟨⟨none, σ', rfl, h4, by rw [ht]; exact hP⟩, hS.F ht⟩) hS.2.2 h3
end GC
