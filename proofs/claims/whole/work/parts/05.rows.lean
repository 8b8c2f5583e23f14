section GS
variable {cc : ByteArray} {own : String} {lev nL : Nat} {ro : Nat → Option (Nat × (Nat → Int32))} {G : Nat → List (Option Value) → List Value → Hp → Prop} {pc : Nat} {ls : List (Option Value)} {st : List Value} {σ : Hp}
/-- the locals as the kit lists them -/
def lvL (ad : Nat → Nat) (ls : List (Option Value)) : List (Nat × Value) := (List.range ls.length).filterMap fun j => match ls[j]? with
  | some (some w) => some (j, fv ad w)
  | _ => none
theorem lvL_mem {ad : Nat → Nat} {ls : List (Option Value)} {j : Nat} {w : Value} (h : ls[j]? = some (some w)) : (j, fv ad w) ∈ lvL ad ls := by
  unfold lvL
  refine List.mem_filterMap.mpr ⟨j, List.mem_range.mpr (List.getElem?_eq_some_iff.mp h).1, ?_⟩
  rw [h]
theorem lvL_of {ad : Nat → Nat} {ls : List (Option Value)} {q : Nat × Value} (h : q ∈ lvL ad ls) : ∃ w, ls[q.1]? = some (some w) ∧ q.2 = fv ad w := by
  unfold lvL at h
  obtain ⟨j, -, hj⟩ := List.mem_filterMap.mp h
  split at hj
  · rename_i w hw
    cases hj
    exact ⟨w, hw, rfl⟩
  · cases hj
theorem Lv.has {ad : Nat → Nat} {la : Array Slot} {ls : List (Option Value)} (h : Lv ad la nL ls) : lv_has la nL (lvL ad ls) := by
  refine ⟨h.1, h.2.2.1, fun q hq => ?_⟩
  obtain ⟨w, h1, h2⟩ := lvL_of hq
  rw [h2]; exact h.2.2.2 _ _ h1
def notL : Option Value → Prop
  | some (.long _) => False
  | some (.double _) => False
  | _ => True
theorem notL_cat {w : Value} (h : notL (some w)) : w.category = 1 := by cases w <;> first | rfl | exact h.elim
/-- the place ahead of i holds no long -/
def okS (ls : List (Option Value)) : Nat → Prop
  | 0 => True
  | i + 1 => notL ((ls[i]?).getD none)
theorem Lv.store {ad : Nat → Nat} {la la' : Array Slot} {ls : List (Option Value)} {i : Nat} {v : Value} (h : Lv ad la nL ls) (ok : okS ls i) (hi : i < nL) (h' : lv_has la' nL ((i, fv ad v) :: (lvL ad ls).filter (fun q => !(q.1 == i) && !(q.1 + 1 == i && q.2.category == 2)))) : Lv ad la' nL (ls.set i (some v)) := by
  refine ⟨h'.1, by rw [List.length_set]; exact h.2.1, h'.2.1, fun j w hj => ?_⟩
  rw [List.getElem?_set] at hj
  by_cases e : i = j
  · subst e
    rw [if_pos rfl, if_pos (by rw [h.2.1]; exact hi)] at hj
    cases hj
    exact h'.2.2 (i, fv ad v) List.mem_cons_self
  · rw [if_neg e] at hj
    refine h'.2.2 (j, fv ad w) (List.mem_cons_of_mem _ (List.mem_filter.mpr ⟨lvL_mem hj, ?_⟩))
    have c1 : (j == i) = false := by simp; omega
    have c2 : (j + 1 == i && (fv ad w).category == 2) = false := by
      by_cases e2 : j + 1 = i
      · subst e2
        simp only [okS, hj, Option.getD_some] at ok
        rw [fv_cat, notL_cat ok]; simp
      · simp [e2]
    simp only [c1, c2]; rfl
theorem g_store (h : Rules cc own lev nL ro G) {i len : Nat} {v : Value} (ok : okS ls i) (hi : i < ls.length)
    (hs : ∀ {p : Program} {l : Launch} {e : Env} {R : Room} {s : State} {m : MethodId} {args : Array Value} {below : List Frame} {meth : Method} {c : Code} {H : Heap} {locs : List Loc} {cells slots : Nat} {Q : State → Prop} {la : Array Slot} {ad : Nat → Nat} {lv : List (Nat × Value)}, p.tables.exec = Jvm.exec → c.code = cc → lv_has la nL lv → i < nL → (∀ la' : Array Slot, lv_has la' nL ((i, fv ad v) :: lv.filter (fun q => !(q.1 == i) && !(q.1 + 1 == i && q.2.category == 2))) → W p l e R s m args below meth c H locs cells slots Q (F0 m (pc + len) la' (st.map (fv ad)))) → W p l e R s m args below meth c H locs cells slots Q (F0 m pc la ((v :: st).map (fv ad))))
    (k : G (pc + len) (ls.set i (some v)) st σ) : G pc ls (v :: st) σ := by
  obtain ⟨p, l, e, R, s, m, args, below, meth, c, ad, D, cA, A0, cells, slots, Q, ⟨hx, hb, -⟩, rfl⟩ := h
  intro H locs la hP hS hl
  have hi' : i < nL := by rw [← hl.2.1]; exact hi
  exact hs hx hb hl.has hi' (fun la' h' => k H locs la' hP hS (hl.store ok hi' h'))
theorem g_istore_n (h : Rules cc own lev nL ro G) {k : Fin 4} {x : Int32} {ls' : List (Option Value)} (hd : decode cc pc = .ok (.istore_n k, 1)) (ok : okS ls k) (hi : (k : Nat) < ls.length) (e : ls.set k (some (.int x)) = ls') (kk : G (pc + 1) ls' st σ) : G pc ls (.int x :: st) σ := by
  subst e; exact g_store h ok hi (fun hx hb hl hi k => lv_istore_n hx hb hd rfl hl hi rfl k) kk
theorem g_istore (h : Rules cc own lev nL ro G) {i : Nat} {x : Int32} {ls' : List (Option Value)} (hd : decode cc pc = .ok (.istore i, 2)) (ok : okS ls i) (hi : i < ls.length) (e : ls.set i (some (.int x)) = ls') (kk : G (pc + 2) ls' st σ) : G pc ls (.int x :: st) σ := by
  subst e; exact g_store h ok hi (fun hx hb hl hi k => lv_istore hx hb hd hl hi rfl k) kk
theorem g_iinc (h : Rules cc own lev nL ro G) {i : Nat} {n : Int} {x v : Int32} {ls' : List (Option Value)} (hd : decode cc pc = .ok (.iinc i n, 3)) (hl : ls[i]? = some (some (.int x))) (hv : x + Int32.ofInt n = v) (ok : okS ls i) (e : ls.set i (some (.int v)) = ls') (kk : G (pc + 3) ls' st σ) : G pc ls st σ := by
  subst e
  obtain ⟨p, l, e, R, s, m, args, below, meth, c, ad, D, cA, A0, cells, slots, Q, ⟨hx, hb, -⟩, rfl⟩ := h
  intro H locs la hP hS hl0
  have hi : i < nL := by rw [← hl0.2.1]; exact (List.getElem?_eq_some_iff.mp hl).1
  obtain ⟨k, hk⟩ := List.getElem?_of_mem (lvL_mem (ad := ad) hl)
  exact lv_iinc hx hb hd hl0.has hk hv hi rfl (fun la' h' => kk H locs la' hP hS (hl0.store ok hi h'))
theorem Lv.storeL {ad : Nat → Nat} {la la' : Array Slot} {ls : List (Option Value)} {i : Nat} {v : Value} (h : Lv ad la nL ls) (ok : okS ls i) (hi : i + 1 < nL) (h' : lv_has la' nL ((i, fv ad v) :: (lvL ad ls).filter (fun q => !(q.1 == i) && (!(q.1 == i + 1) && !(q.1 + 1 == i && q.2.category == 2))))) : Lv ad la' nL ((ls.set i (some v)).set (i + 1) none) := by
  refine ⟨h'.1, by rw [List.length_set, List.length_set]; exact h.2.1, h'.2.1, fun j w hj => ?_⟩
  rw [List.getElem?_set, List.getElem?_set] at hj
  by_cases e1 : i + 1 = j
  · subst e1
    rw [if_pos rfl, List.length_set, if_pos (by rw [h.2.1]; exact hi)] at hj
    cases hj
  rw [if_neg e1] at hj
  by_cases e : i = j
  · subst e
    rw [if_pos rfl, if_pos (by rw [h.2.1]; omega)] at hj
    cases hj
    exact h'.2.2 (i, fv ad v) List.mem_cons_self
  · rw [if_neg e] at hj
    refine h'.2.2 (j, fv ad w) (List.mem_cons_of_mem _ (List.mem_filter.mpr ⟨lvL_mem hj, ?_⟩))
    have c1 : (j == i) = false := by simp; omega
    have c3 : (j == i + 1) = false := by simp; omega
    have c2 : (j + 1 == i && (fv ad w).category == 2) = false := by
      by_cases e2 : j + 1 = i
      · subst e2
        simp only [okS, hj, Option.getD_some] at ok
        rw [fv_cat, notL_cat ok]; simp
      · simp [e2]
    simp only [c1, c2, c3]; rfl
theorem g_lstore_n (h : Rules cc own lev nL ro G) {k : Fin 4} {x : Int64} {ls' : List (Option Value)} (hd : decode cc pc = .ok (.lstore_n k, 1)) (ok : okS ls k) (hi : (k : Nat) + 1 < ls.length) (e : (ls.set k (some (.long x))).set (k + 1) none = ls') (kk : G (pc + 1) ls' st σ) : G pc ls (.long x :: st) σ := by
  subst e
  obtain ⟨p, l, e, R, s, m, args, below, meth, c, ad, D, cA, A0, cells, slots, Q, ⟨hx, hb, -⟩, rfl⟩ := h
  intro H locs la hP hS hl0
  have hi' : (k : Nat) + 1 < nL := by rw [← hl0.2.1]; exact hi
  exact lv_lstore_n hx hb hd rfl hl0.has hi' rfl (fun la' h' => kk H locs la' hP hS (hl0.storeL ok hi' h'))
theorem g_lstore (h : Rules cc own lev nL ro G) {i : Nat} {x : Int64} {ls' : List (Option Value)} (hd : decode cc pc = .ok (.lstore i, 2)) (ok : okS ls i) (hi : i + 1 < ls.length) (e : (ls.set i (some (.long x))).set (i + 1) none = ls') (kk : G (pc + 2) ls' st σ) : G pc ls (.long x :: st) σ := by
  subst e
  obtain ⟨p, l, e, R, s, m, args, below, meth, c, ad, D, cA, A0, cells, slots, Q, ⟨hx, hb, -⟩, rfl⟩ := h
  intro H locs la hP hS hl0
  have hi' : i + 1 < nL := by rw [← hl0.2.1]; exact hi
  exact lv_lstore hx hb hd hl0.has hi' rfl (fun la' h' => kk H locs la' hP hS (hl0.storeL ok hi' h'))
-- fields
theorem u_in0 : ∀ w ∈ u_ws RX0 TX0 3, w ∈ TW := by
  intro w hw
  have h : w ∈ [Cond.laysFinal RX0 "ParcelBall$Sheets" "bits" "[I", Cond.laysFinal RX0 "ParcelBall$Sheets" "sizes" "[I", Cond.laysFinal RX0 "ParcelBall$Sheets" "numbers" "[I"] := hw
  simp only [List.mem_cons, List.not_mem_nil, or_false] at h
  rcases h with rfl | rfl | rfl
  · exact ly_X0_bits
  · exact ly_X0_sizes
  · exact ly_X0_numbers
theorem u_in1 : ∀ w ∈ u_ws RX1 TX1 2, w ∈ TW := by
  intro w hw
  have h : w ∈ [Cond.lays RX1 "ParcelBall$Tape" "size" "I", Cond.laysFinal RX1 "ParcelBall$Tape" "bytes" "[I"] := hw
  simp only [List.mem_cons, List.not_mem_nil, or_false] at h
  rcases h with rfl | rfl
  · exact ly_X1_size
  · exact ly_X1_bytes
theorem u_in2 : ∀ w ∈ u_ws RX2 TX2 6, w ∈ TW := by
  intro w hw
  have h : w ∈ [Cond.laysFinal RX2 "ParcelBall$TextReader" "tape" "LParcelBall$Tape;", Cond.laysFinal RX2 "ParcelBall$TextReader" "world" "LParcelBall$World;", Cond.lays RX2 "ParcelBall$TextReader" "tokenSort" "I", Cond.lays RX2 "ParcelBall$TextReader" "tokenStart" "I", Cond.lays RX2 "ParcelBall$TextReader" "tokenEnd" "I", Cond.lays RX2 "ParcelBall$TextReader" "tokenNumber" "I"] := hw
  simp only [List.mem_cons, List.not_mem_nil, or_false] at h
  rcases h with rfl | rfl | rfl | rfl | rfl | rfl
  · exact ly_X2_tape
  · exact ly_X2_world
  · exact ly_X2_tokenSort
  · exact ly_X2_tokenStart
  · exact ly_X2_tokenEnd
  · exact ly_X2_tokenNumber
theorem u_in3 : ∀ w ∈ u_ws RX3 TX3 11, w ∈ TW := by
  intro w hw
  have h : w ∈ [Cond.lays RX3 "ParcelBall$World" "at" "I", Cond.lays RX3 "ParcelBall$World" "drag" "I", Cond.lays RX3 "ParcelBall$World" "day" "I", Cond.lays RX3 "ParcelBall$World" "wentOff" "I", Cond.lays RX3 "ParcelBall$World" "z" "I", Cond.lays RX3 "ParcelBall$World" "pieceCount" "I", Cond.lays RX3 "ParcelBall$World" "loose" "I", Cond.lays RX3 "ParcelBall$World" "up" "I", Cond.lays RX3 "ParcelBall$World" "down" "I", Cond.laysFinal RX3 "ParcelBall$World" "facts" "[I", Cond.laysFinal RX3 "ParcelBall$World" "spots" "[I"] := hw
  simp only [List.mem_cons, List.not_mem_nil, or_false] at h
  rcases h with rfl | rfl | rfl | rfl | rfl | rfl | rfl | rfl | rfl | rfl | rfl
  · exact ly_X3_at
  · exact ly_X3_drag
  · exact ly_X3_day
  · exact ly_X3_wentOff
  · exact ly_X3_z
  · exact ly_X3_pieceCount
  · exact ly_X3_loose
  · exact ly_X3_up
  · exact ly_X3_down
  · exact ly_X3_facts
  · exact ly_X3_spots
theorem u_in4 : ∀ w ∈ u_ws RX4 TX4 8, w ∈ TW := by
  intro w hw
  have h : w ∈ [Cond.laysFinal RX4 "ParcelBall" "current" "LParcelBall$World;", Cond.laysFinal RX4 "ParcelBall" "trial" "LParcelBall$World;", Cond.laysFinal RX4 "ParcelBall" "kept" "LParcelBall$World;", Cond.lays RX4 "ParcelBall" "isKept" "Z", Cond.laysFinal RX4 "ParcelBall" "tape" "LParcelBall$Tape;", Cond.laysFinal RX4 "ParcelBall" "reader" "LParcelBall$TextReader;", Cond.laysFinal RX4 "ParcelBall" "sheets" "LParcelBall$Sheets;", Cond.laysFinal RX4 "ParcelBall" "findingsTold" "[I"] := hw
  simp only [List.mem_cons, List.not_mem_nil, or_false] at h
  rcases h with rfl | rfl | rfl | rfl | rfl | rfl | rfl | rfl
  · exact ly_X4_current
  · exact ly_X4_trial
  · exact ly_X4_kept
  · exact ly_X4_isKept
  · exact ly_X4_tape
  · exact ly_X4_reader
  · exact ly_X4_sheets
  · exact ly_X4_findingsTold
theorem u_in5 : ∀ w ∈ u_ws RX5 TX5 17, w ∈ TW := by
  intro w hw
  have h : w ∈ [Cond.laysFinal RX5 "ParcelBallModel" "s" "[I", Cond.laysFinal RX5 "ParcelBallModel" "keptS" "[I", Cond.laysFinal RX5 "ParcelBallModel" "other" "[I", Cond.laysFinal RX5 "ParcelBallModel" "aside" "[I", Cond.laysFinal RX5 "ParcelBallModel" "statuses" "[I", Cond.lays RX5 "ParcelBallModel" "isKept" "Z", Cond.lays RX5 "ParcelBallModel" "loose" "I", Cond.laysFinal RX5 "ParcelBallModel" "tape" "[I", Cond.lays RX5 "ParcelBallModel" "taped" "I", Cond.lays RX5 "ParcelBallModel" "from" "I", Cond.lays RX5 "ParcelBallModel" "to" "I", Cond.lays RX5 "ParcelBallModel" "value" "I", Cond.lays RX5 "ParcelBallModel" "isWrong" "Z", Cond.laysFinal RX5 "ParcelBallModel" "bitsOf" "[I", Cond.laysFinal RX5 "ParcelBallModel" "sizeOf" "[I", Cond.laysFinal RX5 "ParcelBallModel" "numbers" "[I", Cond.laysFinal RX5 "ParcelBallModel" "moved" "[I"] := hw
  simp only [List.mem_cons, List.not_mem_nil, or_false] at h
  rcases h with rfl | rfl | rfl | rfl | rfl | rfl | rfl | rfl | rfl | rfl | rfl | rfl | rfl | rfl | rfl | rfl | rfl
  · exact ly_X5_s
  · exact ly_X5_keptS
  · exact ly_X5_other
  · exact ly_X5_aside
  · exact ly_X5_statuses
  · exact ly_X5_isKept
  · exact ly_X5_loose
  · exact ly_X5_tape
  · exact ly_X5_taped
  · exact ly_X5_from
  · exact ly_X5_to
  · exact ly_X5_value
  · exact ly_X5_isWrong
  · exact ly_X5_bitsOf
  · exact ly_X5_sizeOf
  · exact ly_X5_numbers
  · exact ly_X5_moved
/-- of a class: its number, name, fields; what is needed to read and write them -/
def Kl (ci : Nat) (C : String) (T : u_T) (N : Nat) : Prop := vwCl[ci]? = some (C, T, N) ∧ (∀ w ∈ u_ws C T N, w ∈ TW) ∧ (∃ ty0 : Nat → FieldType, ∀ k, k < N → parseFieldDescriptor (T k).2.2.1 = some (ty0 k)) ∧ (∀ a, a < N → ∀ b, b < N → a ≠ b → (T a).2.1 ≠ (T b).2.1) ∧ ∀ k, k < N → (T k).1 = C
theorem Kl0 : Kl 0 RX0 TX0 3 := ⟨rfl, u_in0, ⟨tyX0, tyX0_ok⟩, nmX0, by decide +kernel⟩
theorem Kl1 : Kl 1 RX1 TX1 2 := ⟨rfl, u_in1, ⟨tyX1, tyX1_ok⟩, nmX1, by decide +kernel⟩
theorem Kl2 : Kl 2 RX2 TX2 6 := ⟨rfl, u_in2, ⟨tyX2, tyX2_ok⟩, nmX2, by decide +kernel⟩
theorem Kl3 : Kl 3 RX3 TX3 11 := ⟨rfl, u_in3, ⟨tyX3, tyX3_ok⟩, nmX3, by decide +kernel⟩
theorem Kl4 : Kl 4 RX4 TX4 8 := ⟨rfl, u_in4, ⟨tyX4, tyX4_ok⟩, nmX4, by decide +kernel⟩
theorem Kl5 : Kl 5 RX5 TX5 17 := ⟨rfl, u_in5, ⟨tyX5, tyX5_ok⟩, nmX5, by decide +kernel⟩
theorem g_getI (h : Rules cc own lev nL ro G) {ci N : Nat} {C : String} {T : u_T} (K : Kl ci C T N) {k j b i idx : Nat} {fs : List Fl} (hk : k < 29) (hl : lay k = .inl (ci, fs)) (hj : fs[j]? = some (.inr (b, i))) (hjN : j < N) (hw : Cond.fieldLink own idx C (T j).2.1 (T j).2.2.1 ∈ TW) (hd : decode cc pc = .ok (.getfield idx, 3)) (kk : G (pc + 3) ls (.int (σ b i) :: st) σ) : G pc ls (.ref k :: st) σ := by
  obtain ⟨p, l, e, R, s, m, args, below, meth, c, ad, D, cA, A0, cells, slots, Q, ⟨hx, hb, hml, hown, hts, hE, -⟩, rfl⟩ := h
  intro H locs la hP hS hl0
  have he : (wsOf ad cA σ)[k]? = some (ad k, .inr (ci, fs.map (evF ad σ))) := by rw [ws_at hk, cell_o hl]
  exact va_get (v := .int (σ b i)) hx hb hts K.2.1 hown hE.1 hP k he K.1 j hjN (hts _ hw) (fun _ h9 => by rw [← K.2.2.2.2 j hjN]; exact h9) (by rw [List.getElem?_map, hj]; rfl) hd (kk H locs la hP hS hl0)
theorem g_getR (h : Rules cc own lev nL ro G) {ci N : Nat} {C : String} {T : u_T} (K : Kl ci C T N) {k j r idx : Nat} {fs : List Fl} (hk : k < 29) (hl : lay k = .inl (ci, fs)) (hj : fs[j]? = some (.inl r)) (hjN : j < N) (hw : Cond.fieldLink own idx C (T j).2.1 (T j).2.2.1 ∈ TW) (hd : decode cc pc = .ok (.getfield idx, 3)) (kk : G (pc + 3) ls (.ref r :: st) σ) : G pc ls (.ref k :: st) σ := by
  obtain ⟨p, l, e, R, s, m, args, below, meth, c, ad, D, cA, A0, cells, slots, Q, ⟨hx, hb, hml, hown, hts, hE, -⟩, rfl⟩ := h
  intro H locs la hP hS hl0
  have he : (wsOf ad cA σ)[k]? = some (ad k, .inr (ci, fs.map (evF ad σ))) := by rw [ws_at hk, cell_o hl]
  exact va_get (v := .ref (ad r)) hx hb hts K.2.1 hown hE.1 hP k he K.1 j hjN (hts _ hw) (fun _ h9 => by rw [← K.2.2.2.2 j hjN]; exact h9) (by rw [List.getElem?_map, hj]; rfl) hd (kk H locs la hP hS hl0)
theorem g_put (h : Rules cc own lev nL ro G) {ci N : Nat} {C : String} {T : u_T} (K : Kl ci C T N) {k j b i idx : Nat} {fs : List Fl} {v : Int32} {ty : FieldType} (hk : k < 29) (hl : lay k = .inl (ci, fs)) (hj : fs[j]? = some (.inr (b, i))) (hjN : j < N) (hw : Cond.fieldLink own idx C (T j).2.1 (T j).2.2.1 ∈ TW) (hfin : (T j).2.2.2 = false) (hty : parseFieldDescriptor (T j).2.2.1 = some ty) (hn : narrow ty (.int v) = .int v) (hfit : fits ty (.int v) = true) (hd : decode cc pc = .ok (.putfield idx, 3)) (kk : G (pc + 3) ls st (hset σ b i v)) : G pc ls (.int v :: .ref k :: st) σ := by
  obtain ⟨p, l, e, R, s, m, args, below, meth, c, ad, D, cA, A0, cells, slots, Q, ⟨hx, hb, hml, hown, hts, hE, hA, -⟩, rfl⟩ := h
  intro H locs la hP hS hl0
  have he : (wsOf ad cA σ)[k]? = some (ad k, .inr (ci, fs.map (evF ad σ))) := by rw [ws_at hk, cell_o hl]
  obtain ⟨ty0, hty0⟩ := K.2.2.1
  refine va_put (v := .int v) (ty := ty) hx hb hts K.2.1 ty0 hty0 K.2.2.2.1 hown hE.1 hP (ws_D hE.2.1 hA) hS k he K.1 j hjN (hts _ hw) (fun _ h9 => by rw [← K.2.2.2.2 j hjN]; exact h9) hfin hty hn hfit (by rw [List.length_map]; exact (List.getElem?_eq_some_iff.mp hj).1) hd (fun H1 locs1 hP1 hD1 hS1 => ?_)
  rw [ws_put hk hl hj] at hP1
  exact kk H1 locs1 la hP1 hS1 hl0
-- arrays
theorem g_iald (h : Rules cc own lev nL ro G) {k b o n : Nat} {x : Int32} (j : Nat) (hk : k < 29) (hl : lay k = .inr (b, o, n)) (hn : n < 2 ^ 31) (hj : j < n) (hx0 : x = nI j) (hd : decode cc pc = .ok (.iaload, 1)) (kk : G (pc + 1) ls (.int (σ b (o + j)) :: st) σ) : G pc ls (.int x :: .ref k :: st) σ := by
  subst hx0
  obtain ⟨p, l, e, R, s, m, args, below, meth, c, ad, D, cA, A0, cells, slots, Q, ⟨hx, hb, hml, hown, hts, hE, -⟩, rfl⟩ := h
  intro H locs la hP hS hl0
  have he : (wsOf ad cA σ)[k]? = some (ad k, .inl (cA, n, .inl (arF σ b o n))) := by rw [ws_at hk, cell_a hl]
  refine va_iald hx hb hE.1 hP k 0 he rfl (vp_in_nI hj hn) hd ?_
  rw [nI_clamp (by omega), show arF σ b o n j = σ b (o + j) from if_pos hj]
  exact kk H locs la hP hS hl0
theorem g_iast (h : Rules cc own lev nL ro G) {k b o n : Nat} {x v : Int32} (j : Nat) (hk : k < 29) (hl : lay k = .inr (b, o, n)) (hn : n < 2 ^ 31) (hj : j < n) (hx0 : x = nI j) (hd : decode cc pc = .ok (.iastore, 1)) (kk : G (pc + 1) ls st (hset σ b (o + j) v)) : G pc ls (.int v :: .int x :: .ref k :: st) σ := by
  subst hx0
  obtain ⟨p, l, e, R, s, m, args, below, meth, c, ad, D, cA, A0, cells, slots, Q, ⟨hx, hb, hml, hown, hts, hE, hA, -⟩, rfl⟩ := h
  intro H locs la hP hS hl0
  have he : (wsOf ad cA σ)[k]? = some (ad k, .inl (cA, n, .inl (arF σ b o n))) := by rw [ws_at hk, cell_a hl]
  refine va_iast hx hb hE.1 hP (ws_D hE.2.1 hA) hS k 0 he rfl (vp_in_nI hj hn) hd (fun H1 locs1 hP1 hD1 hS1 => ?_)
  rw [nI_clamp (by omega), ws_ast hk hl hj] at hP1
  exact kk H1 locs1 la hP1 hS1 hl0
theorem g_alen (h : Rules cc own lev nL ro G) {k b o n : Nat} (hk : k < 29) (hl : lay k = .inr (b, o, n)) (hd : decode cc pc = .ok (.arraylength, 1)) (kk : G (pc + 1) ls (.int (nI n) :: st) σ) : G pc ls (.ref k :: st) σ := by
  obtain ⟨p, l, e, R, s, m, args, below, meth, c, ad, D, cA, A0, cells, slots, Q, ⟨hx, hb, hml, hown, hts, hE, -⟩, rfl⟩ := h
  intro H locs la hP hS hl0
  have he : (wsOf ad cA σ)[k]? = some (ad k, .inl (cA, n, .inl (arF σ b o n))) := by rw [ws_at hk, cell_a hl]
  exact va_alen hx hb hE.1 hP k 0 he rfl rfl hd (kk H locs la hP hS hl0)
/-- an array that nobody writes -/
theorem g_roald (h : Rules cc own lev nL ro G) {t n : Nat} {f : Nat → Int32} {x : Int32} (j : Nat) (hr : ro t = some (n, f)) (hn : n < 2 ^ 31) (hj : j < n) (hx0 : x = nI j) (hd : decode cc pc = .ok (.iaload, 1)) (kk : G (pc + 1) ls (.int (f j) :: st) σ) : G pc ls (.int x :: .ref t :: st) σ := by
  subst hx0
  obtain ⟨p, l, e, R, s, m, args, below, meth, c, ad, D, cA, A0, cells, slots, Q, ⟨hx, hb, hml, hown, hts, hE, hA, hR, hT⟩, rfl⟩ := h
  intro H locs la hP hS hl0
  exact va_ti hx hb (hT t n f hr) hS (vp_in_nI hj hn) (show Value.int (f (nI j).toNatClampNeg) = .int (f j) by rw [nI_clamp (by omega)]) hd (kk H locs la hP hS hl0)
end GS
