def fv (ad : Nat → Nat) : Value → Value
  | .ref k => .ref (ad k)
  | v => v
def Aof (ad : Nat → Nat) : Nat → Prop := fun q => ∃ k, k < 29 ∧ ad k = q
def kaT (j : Nat) : Int32 := ([-1, 0, 0, 2, 3, 0, 1] : List Int32).getD j 0
def flT (j : Nat) : Int32 := ([0, 0, 1, 0, 0, 0] : List Int32).getD j 0
def fmT (j : Nat) : Int32 := ([6, 11, 99, 9, 9999, 9999] : List Int32).getD j 0
/-- arrays that nobody writes: by their number, length and contents -/
def roS : Nat → Option (Nat × (Nat → Int32))
  | 40 => some (7, kaT)
  | 41 => some (6, flT)
  | 42 => some (6, fmT)
  | _ => none
def sTx : List String := ["piece", "ticking", "birthday", "row", "letter", "hers", "fuse", "", "ball", "drag", "to", "long", "knots"]
def sIx : List Nat := [136, 138, 140, 142, 144, 146, 148, 150, 51, 56, 79, 85, 87]
def sLn : List Nat := [5, 7, 8, 3, 6, 4, 4, 0, 4, 4, 2, 4, 5]
def sBy : List (List Int32) := [[112, 105, 101, 99, 101], [116, 105, 99, 107, 105, 110, 103], [98, 105, 114, 116, 104, 100, 97, 121], [114, 111, 119], [108, 101, 116, 116, 101, 114], [104, 101, 114, 115], [102, 117, 115, 101], [], [98, 97, 108, 108], [100, 114, 97, 103], [116, 111], [108, 111, 110, 103], [107, 110, 111, 116, 115]]
/-- calls of the host's private static methods out of nested classes -/
def NW : List (String × Nat × MethodName) := [(RX3, 60, yX4_isFactValue), (RX0, 21, yX4_isSheet), (RX2, 89, yX4_isFactValue), (RX2, 96, yX4_isWithin), (RX3, 68, yX4_isSpot)]
theorem nw_X3_60 : (RX3, 60, yX4_isFactValue) ∈ NW := List.mem_of_getElem? (i := 0) rfl
theorem nw_X0_21 : (RX0, 21, yX4_isSheet) ∈ NW := List.mem_of_getElem? (i := 1) rfl
theorem nw_X2_89 : (RX2, 89, yX4_isFactValue) ∈ NW := List.mem_of_getElem? (i := 2) rfl
theorem nw_X2_96 : (RX2, 96, yX4_isWithin) ∈ NW := List.mem_of_getElem? (i := 3) rfl
theorem nw_X3_68 : (RX3, 68, yX4_isSpot) ∈ NW := List.mem_of_getElem? (i := 4) rfl
/-- the formatter that String's checkIndex loads: nothing, or some object (number 90) -/
def ZsF (ad : Nat → Nat) (A : Nat → Prop) (U : State) (H : Heap) : Prop := va_Z "jdk/internal/util/Preconditions" "SIOOBE_FORMATTER" "Ljava/util/function/BiFunction;" .null A U H ∨ va_Z "jdk/internal/util/Preconditions" "SIOOBE_FORMATTER" "Ljava/util/function/BiFunction;" (.ref (ad 90)) A U H
theorem ZsF.moved {ad : Nat → Nat} {A : Nat → Prop} {u U : State} {H : Heap} (hvm : u.vm.Alike U.vm) (h : ZsF ad A u H) : ZsF ad A U H := h.imp (fun q => q.moved hvm) (fun q => q.moved hvm)
theorem ZsF.kept {ad : Nat → Nat} {A : Nat → Prop} {U : State} {H H1 : Heap} (h : ZsF ad A U H) (hq : ∀ a : Nat, a < H.size → ¬ A a → H1[a]? = H[a]?) : ZsF ad A U H1 := h.imp (fun q => q.kept hq) (fun q => q.kept hq)
theorem ZsF.narrow {ad : Nat → Nat} {A B : Nat → Prop} {U : State} {H : Heap} (h : ZsF ad A U H) (hAB : ∀ q, B q → A q) : ZsF ad B U H := h.imp (fun q => q.narrow hAB) (fun q => q.narrow hAB)
def En (ad : Nat → Nat) (D : va_G) (cA : ClassId) (A : Nat → Prop) (U : State) (H : Heap) : Prop :=
  va_K D vwCl [(cA, .int)] U ∧ (∀ i j, i < 29 → j < 29 → ad i = ad j → i = j) ∧
  (va_Z "ParcelBall" "KIND_ABOVE" "[I" (.ref (ad 40)) A U H ∧ va_Z "ParcelBall" "FACT_LEAST" "[I" (.ref (ad 41)) A U H ∧ va_Z "ParcelBall" "FACT_MOST" "[I" (.ref (ad 42)) A U H ∧ va_Z "java/lang/String" "COMPACT_STRINGS" "Z" (.int 1) A U H ∧ ZsF ad A U H) ∧
  (∀ t N f, roS t = some (N, f) → va_T .int (ad t) N (fun j => .int (f j)) A U H) ∧
  vk_S 13 sLn sBy (fun i => ad (50 + i)) (fun i => ad (70 + i)) A U H ∧
  (∀ i, i < 13 → vk_R RX2 (sIx.getD i 0) (sTx.getD i "") (ad (50 + i)) U) ∧
  ∀ q ∈ NW, va_Nw (.methodLinkNest q.1 q.2.1 q.2.2 "ParcelBall") U
theorem En.next {ad : Nat → Nat} {D : va_G} {cA : ClassId} {A B : Nat → Prop} {s U : State} {H : Heap} (h : En ad D cA A s s.heap) (hW : s.WarmedH U.vm) (hH : ∀ a : Nat, a < s.heap.size → ¬ A a → H[a]? = s.heap[a]?) (hB : ∀ q, B q → A q) : En ad D cA B U H := by
  obtain ⟨h1, h2, ⟨z1, z2, z3, z4, z5⟩, h4, h5, h6, h7⟩ := h
  have hv := hW.alike
  exact ⟨va_K.moved hv h1, h2, ⟨((z1.kept hH).moved hv).narrow hB, ((z2.kept hH).moved hv).narrow hB, ((z3.kept hH).moved hv).narrow hB, ((z4.kept hH).moved hv).narrow hB, ((z5.kept hH).moved hv).narrow hB⟩, fun t N f e => (((h4 t N f e).kept hH).moved hv).narrow hB, ((h5.kept hH).moved hv).narrow hB, fun i hi => (h6 i hi).warm hW, fun q hq => (h7 q hq).warmM hW⟩
theorem En.same {ad : Nat → Nat} {D : va_G} {cA : ClassId} {A : Nat → Prop} {s U : State} {H : Heap} (h : En ad D cA A s H) (hv : U.vm = s.vm) : En ad D cA A U H := by
  obtain ⟨h1, h2, ⟨z1, z2, z3, z4, z5⟩, h4, h5, h6, h7⟩ := h
  have hv2 : s.vm.Alike U.vm := by rw [hv]; exact Vm.Alike.refl s.vm
  exact ⟨va_K.moved hv2 h1, h2, ⟨z1.moved hv2, z2.moved hv2, z3.moved hv2, z4.moved hv2, z5.moved hv2⟩, fun t N f e => (h4 t N f e).moved hv2, h5.moved hv2, fun i hi => (h6 i hi).same hv, fun q hq => (h7 q hq).same rfl hv.symm⟩
theorem ws_D {ad : Nat → Nat} {cA : ClassId} {σ : Hp} {A : Nat → Prop} (hj : ∀ i j, i < 29 → j < 29 → ad i = ad j → i = j) (hA : ∀ k, k < 29 → A (ad k)) : va_D A (wsOf ad cA σ) := by
  have key : ∀ (i : Nat) (p : Nat × va_E), (wsOf ad cA σ)[i]? = some p → i < 29 ∧ p.1 = ad i := by
    intro i p h
    by_cases hi : i < 29
    · rw [ws_at hi] at h; cases h; exact ⟨hi, rfl⟩
    · have e1 : (wsOf ad cA σ)[i]? = none := by simp [wsOf]; omega
      rw [e1] at h; cases h
  refine ⟨fun i j p q h1 h2 e => ?_, fun k q h => ?_⟩
  · obtain ⟨a1, a2⟩ := key i p h1
    obtain ⟨b1, b2⟩ := key j q h2
    exact hj i j a1 b1 (by rw [← a2, ← b2]; exact e)
  · obtain ⟨a1, a2⟩ := key k q h
    rw [a2]; exact hA k a1
def Lv (ad : Nat → Nat) (la : Array Slot) (nL : Nat) (ls : List (Option Value)) : Prop := la.size = nL ∧ ls.length = nL ∧ lv_wf la ∧ ∀ (i : Nat) (v : Value), ls[i]? = some (some v) → la[i]? = some (.val (fv ad v))
def rmL (lev : Nat) : Room := { frames := lev, cells := 0, slots := 0, locals := 36 * lev }
def Gof (p : Program) (l : Launch) (e : Env) (R : Room) (s : State) (m : MethodId) (args : Array Value) (below : List Frame) (meth : Method) (c : Code) (ad : Nat → Nat) (D : va_G) (cA : ClassId) (A0 : Nat → Prop) (cells slots nL : Nat) (Q : State → Prop) : Nat → List (Option Value) → List Value → Hp → Prop :=
  fun pc ls st σ => ∀ (H : Heap) (locs : List Loc) (la : Array Slot), va_P D vwCl (wsOf ad cA σ) H → va_S A0 s.heap H locs → Lv ad la nL ls → W p l e R s m args below meth c H locs cells slots Q (F0 m pc la (st.map (fv ad)))
def Ctx (cc : ByteArray) (own : String) (lev nL : Nat) (ro : Nat → Option (Nat × (Nat → Int32))) (p : Program) (R : Room) (s : State) (m : MethodId) (args : Array Value) (c : Code) (ad : Nat → Nat) (D : va_G) (cA : ClassId) (A0 : Nat → Prop) (cells slots : Nat) : Prop :=
  p.tables.exec = Jvm.exec ∧ c.code = cc ∧ c.maxLocals = nL ∧ s.vm.findClass own = some m.cls ∧ (∀ w ∈ TW, w.before args s = true) ∧ En ad D cA A0 s s.heap ∧ (∀ k, k < 29 → A0 (ad k)) ∧ (lev ≤ R.frames ∧ 36 * lev ≤ R.locals ∧ cells ≤ R.cells ∧ slots ≤ R.slots) ∧ (∀ t N f, ro t = some (N, f) → va_T .int (ad t) N (fun j => .int (f j)) A0 s s.heap)
/-- G is the machine's judgement at one frame of a method with code cc -/
def Rules (cc : ByteArray) (own : String) (lev nL : Nat) (ro : Nat → Option (Nat × (Nat → Int32))) (G : Nat → List (Option Value) → List Value → Hp → Prop) : Prop :=
  ∃ (p : Program) (l : Launch) (e : Env) (R : Room) (s : State) (m : MethodId) (args : Array Value) (below : List Frame) (meth : Method) (c : Code) (ad : Nat → Nat) (D : va_G) (cA : ClassId) (A0 : Nat → Prop) (cells slots : Nat) (Q : State → Prop),
    Ctx cc own lev nL ro p R s m args c ad D cA A0 cells slots ∧ G = Gof p l e R s m args below meth c ad D cA A0 cells slots nL Q
def Qg (ad : Nat → Nat) (D : va_G) (cA : ClassId) (post : Option Value → Hp → Prop) : Array Value → State → Outcome → State → Prop := fun _ st oc t => (∃ (r : Option Value) (σ' : Hp), oc = .returned (r.map (fv ad)) ∧ post r σ' ∧ va_P D vwCl (wsOf ad cA σ') t.heap) ∧ va_F (Aof ad) st t
def PcG (ad : Nat → Nat) (D : va_G) (cA : ClassId) (as : List Value) (σ : Hp) : Array Value → State → Prop := va_Pc (as.map (fv ad)) (fun U => va_P D vwCl (wsOf ad cA σ) U.heap ∧ En ad D cA (Aof ad) U U.heap)
/-- a method's contract: from the state σ, with these arguments, it returns as 'post' says; nothing but the 29 cells changes -/
def Ct (y : MethodName) (ws : List Cond) (lev : Nat) (as : List Value) (σ : Hp) (post : Option Value → Hp → Prop) : Prop :=
  ∀ (l : Launch) (ad : Nat → Nat) (D : va_G) (cA : ClassId), Met l y ws (rmL lev) (PcG ad D cA as σ) (Qg ad D cA post) 0 0 (Aof ad)
def CtI (y : MethodName) (ws : List Cond) (lev : Nat) (as : List Value) (σ : Hp) (v : Int32) (τ : Hp) : Prop := Ct y ws lev as σ (fun r σ' => r = some (.int v) ∧ σ' = τ)
def CtL (y : MethodName) (ws : List Cond) (lev : Nat) (as : List Value) (σ : Hp) (v : Int64) (τ : Hp) : Prop := Ct y ws lev as σ (fun r σ' => r = some (.long v) ∧ σ' = τ)
def CtV (y : MethodName) (ws : List Cond) (lev : Nat) (as : List Value) (σ : Hp) (τ : Hp) : Prop := Ct y ws lev as σ (fun r σ' => r = none ∧ σ' = τ)
def CtR (y : MethodName) (ws : List Cond) (lev : Nat) (as : List Value) (σ : Hp) (k : Nat) (τ : Hp) : Prop := Ct y ws lev as σ (fun r σ' => r = some (.ref k) ∧ σ' = τ)
def wsM (y : MethodName) (cc : ByteArray) (n : Nat) (ret : Option FieldType) : List Cond := Cond.code y cc n ret :: TW
/-- the locals at a method's entry -/
def lsIn : List Value → List (Option Value)
  | [] => []
  | v :: t => if v.category = 2 then some v :: none :: lsIn t else some v :: lsIn t
theorem fv_cat (ad : Nat → Nat) (v : Value) : (fv ad v).category = v.category := by cases v <;> rfl
theorem lsIn_len : ∀ (ad : Nat → Nat) (as : List Value), (lg_sl (as.map (fv ad))).length = (lsIn as).length := by
  intro ad as
  induction as with
  | nil => rfl
  | cons v t ih =>
    simp only [List.map_cons, lg_sl, List.flatMap_cons, List.length_append, lsIn, fv_cat] at ih ⊢
    rw [ih]
    by_cases h : v.category = 2 <;> simp [h] <;> omega
theorem lsIn_at (ad : Nat → Nat) : ∀ (as : List Value) (i : Nat) (v : Value), (lsIn as)[i]? = some (some v) → (lg_sl (as.map (fv ad)))[i]? = some (.val (fv ad v)) := by
  intro as
  induction as with
  | nil => intro i v h; simp [lsIn] at h
  | cons w t ih =>
    intro i v h
    simp only [List.map_cons, lg_sl, List.flatMap_cons, fv_cat, lsIn] at h ⊢
    by_cases hc : w.category = 2
    · rw [if_pos hc] at h ⊢
      match i, h with
      | 0, h => simp at h; subst h; rfl
      | 1, h => simp at h
      | i + 2, h =>
        simp only [List.getElem?_cons_succ] at h
        have := ih i v h
        simpa [lg_sl] using this
    · rw [if_neg hc] at h ⊢
      match i, h with
      | 0, h => simp at h; subst h; rfl
      | i + 1, h =>
        simp only [List.getElem?_cons_succ] at h
        have := ih i v h
        simpa [lg_sl] using this
theorem Lv_entry (ad : Nat → Nat) (as : List Value) {nL : Nat} (h : (lsIn as).length ≤ nL) : Lv ad ((lg_sl (as.map (fv ad)) ++ List.replicate (nL - (lg_sl (as.map (fv ad))).length) Slot.unset).toArray) nL (lsIn as ++ List.replicate (nL - (lsIn as).length) none) := by
  have h0 := lsIn_len ad as
  obtain ⟨e1, e2, -⟩ := lv_entry (as.map (fv ad)) (n := nL) (by rw [h0]; exact h)
  refine ⟨e1, by simp; omega, e2, fun i v hi => ?_⟩
  rw [List.getElem?_append] at hi
  by_cases hlt : i < (lsIn as).length
  · rw [if_pos hlt] at hi
    have := lsIn_at ad as i v hi
    simp only [List.getElem?_toArray]
    rw [List.getElem?_append, if_pos (by omega)]
    exact this
  · rw [if_neg hlt] at hi
    have := List.mem_of_getElem? hi
    simp at this
