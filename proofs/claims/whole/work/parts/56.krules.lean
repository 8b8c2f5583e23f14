/-! ===== constructors: the judgement J, whose cells come one by one; a constructor's contract CtK ===== -/
theorem fv_id (v : Value) : fv (fun k => k) v = v := by cases v <;> rfl
theorem map_fvid (l : List Value) : l.map (fv (fun k => k)) = l := by
  rw [show fv (fun k => k) = id from funext fv_id, List.map_id]
def NWk (s : State) : Prop := va_Nw (.methodLinkNest "ParcelBall" 28 yX1_init "ParcelBall") s ∧ va_Nw (.methodLinkNest "ParcelBall" 44 yX0_init "ParcelBall") s
abbrev Kty : Type := Nat → List (Option Value) → List Value → va_W → Nat → Nat → Prop
def Kof (p : Program) (l : Launch) (e : Env) (R : Room) (s : State) (m : MethodId) (args : Array Value) (below : List Frame) (meth : Method) (c : Code) (D : va_G) (A : Nat → Prop) (nL : Nat) (Q : State → Prop) : Kty :=
  fun pc ls st ws cs ss => ∀ (H : Heap) (locs : List Loc) (la : Array Slot), va_P D vwCl ws H → va_D A ws → va_S A s.heap H locs → Lv (fun k => k) la nL ls → W p l e R s m args below meth c H locs cs ss Q (F0 m pc la st)
def CtxK (cc : ByteArray) (own : String) (lev nL : Nat) (cA : ClassId) (RC RS : Nat) (ini : Prop) (p : Program) (R : Room) (s : State) (m : MethodId) (args : Array Value) (meth : Method) (c : Code) (D : va_G) (A : Nat → Prop) : Prop :=
  p.tables.exec = Jvm.exec ∧ c.code = cc ∧ c.maxLocals = nL ∧ s.vm.findClass own = some m.cls ∧ (∀ w ∈ TW, w.before args s = true) ∧ va_K D vwCl [(cA, .int)] s ∧ (∀ q, s.heap.size ≤ q → A q) ∧ (lev ≤ R.frames ∧ 36 * lev ≤ R.locals ∧ RC ≤ R.cells ∧ RS ≤ R.slots) ∧ NWk s ∧ (ini → meth.name = "<init>")
def RulesK (cc : ByteArray) (own : String) (lev nL : Nat) (cA : ClassId) (RC RS : Nat) (ini : Prop) (J : Kty) : Prop :=
  ∃ (p : Program) (l : Launch) (e : Env) (R : Room) (s : State) (m : MethodId) (args : Array Value) (below : List Frame) (meth : Method) (c : Code) (D : va_G) (A : Nat → Prop) (Q : State → Prop), CtxK cc own lev nL cA RC RS ini p R s m args meth c D A ∧ J = Kof p l e R s m args below meth c D A nL Q
def CtK (y : MethodName) (lev mc ms : Nat) (cA : ClassId) (bytes : ByteArray) (maxL : Nat) (as : List Value) (pre : va_W) (post : va_W → Prop) : Prop :=
  ∀ (l : Launch) (D : va_G) (sz : Nat), Met l y (wsM y bytes maxL none) { frames := lev, cells := mc, slots := ms, locals := 36 * lev } (va_Pc as (fun U => U.heap.size = sz ∧ va_P D vwCl pre U.heap ∧ va_K D vwCl [(cA, .int)] U ∧ va_D (fun _ => True) pre ∧ NWk U)) (va_Qv post (fun w' t => va_P D vwCl w' t.heap ∧ va_D (va_A pre sz) w') (va_A pre sz)) mc ms (va_A pre sz)
section KR
variable {cc : ByteArray} {own : String} {lev nL : Nat} {cA : ClassId} {RC RS : Nat} {ini : Prop} {J : Kty} {pc : Nat} {ls : List (Option Value)} {st : List Value} {ws : va_W} {cs ss : Nat}
theorem k_step (h : RulesK cc own lev nL cA RC RS ini J) {pc' : Nat} {st' : List Value}
    (hs : ∀ {p : Program} {l : Launch} {e : Env} {R : Room} {s : State} {m : MethodId} {args : Array Value} {below : List Frame} {meth : Method} {c : Code} {H : Heap} {locs : List Loc} {cells slots : Nat} {Q : State → Prop} {la : Array Slot}, p.tables.exec = Jvm.exec → c.code = cc → Lv (fun k => k) la nL ls → W p l e R s m args below meth c H locs cells slots Q (F0 m pc' la st') → W p l e R s m args below meth c H locs cells slots Q (F0 m pc la st))
    (k : J pc' ls st' ws cs ss) : J pc ls st ws cs ss := by
  obtain ⟨p, l, e, R, s, m, args, below, meth, c, D, A, Q, ⟨hx, hb, -⟩, rfl⟩ := h
  intro H locs la hP hD hS hl
  exact hs hx hb hl (k H locs la hP hD hS hl)
theorem k_iconst (h : RulesK cc own lev nL cA RC RS ini J) {n : Int} (v : Int32) (hd : decode cc pc = .ok (.iconst n, 1)) (hv : Int32.ofInt n = v) (k : J (pc + 1) ls (.int v :: st) ws cs ss) : J pc ls st ws cs ss := k_step h (fun hx hb _ k => lv_iconst hx hb hd hv k) k
theorem k_bipush (h : RulesK cc own lev nL cA RC RS ini J) {n : Int} (v : Int32) (hd : decode cc pc = .ok (.bipush n, 2)) (hv : (Int8.ofInt n).toInt32 = v) (k : J (pc + 2) ls (.int v :: st) ws cs ss) : J pc ls st ws cs ss := k_step h (fun hx hb _ k => lv_bipush hx hb hd hv k) k
theorem k_sipush (h : RulesK cc own lev nL cA RC RS ini J) {n : Int} (v : Int32) (hd : decode cc pc = .ok (.sipush n, 3)) (hv : (Int16.ofInt n).toInt32 = v) (k : J (pc + 3) ls (.int v :: st) ws cs ss) : J pc ls st ws cs ss := k_step h (fun hx hb _ k => lv_sipush hx hb hd hv k) k
theorem k_aload_n (h : RulesK cc own lev nL cA RC RS ini J) {k : Fin 4} {x : Nat} (hd : decode cc pc = .ok (.aload_n k, 1)) (hl : ls[(k : Nat)]? = some (some (.ref x))) (kk : J (pc + 1) ls (.ref x :: st) ws cs ss) : J pc ls st ws cs ss := k_step h (fun hx hb L k => lv_aload_n hx hb hd rfl (L.2.2.2 _ _ hl) k) kk
theorem k_iload_n (h : RulesK cc own lev nL cA RC RS ini J) {k : Fin 4} {x : Int32} (hd : decode cc pc = .ok (.iload_n k, 1)) (hl : ls[(k : Nat)]? = some (some (.int x))) (kk : J (pc + 1) ls (.int x :: st) ws cs ss) : J pc ls st ws cs ss := k_step h (fun hx hb L k => lv_iload_n hx hb hd rfl (L.2.2.2 _ _ hl) k) kk
theorem k_dup (h : RulesK cc own lev nL cA RC RS ini J) {x : Nat} (hd : decode cc pc = .ok (.dup, 1)) (k : J (pc + 1) ls (.ref x :: .ref x :: st) ws cs ss) : J pc ls (.ref x :: st) ws cs ss := k_step h (fun hx hb _ k => lv_dup hx hb hd rfl k) k
theorem k_iadd (h : RulesK cc own lev nL cA RC RS ini J) {x y : Int32} (hd : decode cc pc = .ok (.iadd, 1)) (k : J (pc + 1) ls (.int (x + y) :: st) ws cs ss) : J pc ls (.int y :: .int x :: st) ws cs ss := k_step h (fun hx hb _ k => lv_iadd hx hb hd k) k
theorem k_goto (h : RulesK cc own lev nL cA RC RS ini J) {off : Int} (tgt : Nat) (hd : decode cc pc = .ok (.goto off, 3)) (ht : (pc : Int) + off = (tgt : Int)) (k : J tgt ls st ws cs ss) : J pc ls st ws cs ss := k_step h (fun hx hb _ k => lv_goto hx hb hd ht k) k
theorem k_icmp_ge (h : RulesK cc own lev nL cA RC RS ini J) {x y : Int32} {off : Int} (tgt : Nat) (hd : decode cc pc = .ok (.if_icmp .ge off, 3)) (ht : (pc : Int) + off = (tgt : Int)) (kt : y ≤ x → J tgt ls st ws cs ss) (kf : ¬ y ≤ x → J (pc + 3) ls st ws cs ss) : J pc ls (.int y :: .int x :: st) ws cs ss := by
  obtain ⟨p, l, e, R, s, m, args, below, meth, c, D, A, Q, ⟨hx, hb, -⟩, rfl⟩ := h
  intro H locs la hP hD hS hl
  exact lv_icmp_ge hx hb hd ht (fun c => kt c H locs la hP hD hS hl) (fun c => kf c H locs la hP hD hS hl)
theorem k_istore_n (h : RulesK cc own lev nL cA RC RS ini J) {k : Fin 4} {x : Int32} {ls' : List (Option Value)} (hd : decode cc pc = .ok (.istore_n k, 1)) (ok : okS ls k) (hi : (k : Nat) < ls.length) (e : ls.set k (some (.int x)) = ls') (kk : J (pc + 1) ls' st ws cs ss) : J pc ls (.int x :: st) ws cs ss := by
  subst e
  obtain ⟨p, l, e, R, s, m, args, below, meth, c, D, A, Q, ⟨hx, hb, -⟩, rfl⟩ := h
  intro H locs la hP hD hS hl
  have hi' : (k : Nat) < nL := by rw [← hl.2.1]; exact hi
  exact lv_istore_n hx hb hd rfl hl.has hi' rfl (fun la' h' => kk H locs la' hP hD hS (hl.store ok hi' h'))
theorem k_astore_n (h : RulesK cc own lev nL cA RC RS ini J) {k : Fin 4} {x : Nat} {ls' : List (Option Value)} (hd : decode cc pc = .ok (.astore_n k, 1)) (ok : okS ls k) (hi : (k : Nat) < ls.length) (e : ls.set k (some (.ref x)) = ls') (kk : J (pc + 1) ls' st ws cs ss) : J pc ls (.ref x :: st) ws cs ss := by
  subst e
  obtain ⟨p, l, e, R, s, m, args, below, meth, c, D, A, Q, ⟨hx, hb, -⟩, rfl⟩ := h
  intro H locs la hP hD hS hl
  have hi' : (k : Nat) < nL := by rw [← hl.2.1]; exact hi
  exact lv_astore_n hx hb hd rfl hl.has hi' rfl (fun la' h' => kk H locs la' hP hD hS (hl.store ok hi' h'))
theorem k_iinc (h : RulesK cc own lev nL cA RC RS ini J) {i : Nat} {n : Int} {x v : Int32} {ls' : List (Option Value)} (hd : decode cc pc = .ok (.iinc i n, 3)) (hl : ls[i]? = some (some (.int x))) (hv : x + Int32.ofInt n = v) (ok : okS ls i) (e : ls.set i (some (.int v)) = ls') (kk : J (pc + 3) ls' st ws cs ss) : J pc ls st ws cs ss := by
  subst e
  obtain ⟨p, l, e, R, s, m, args, below, meth, c, D, A, Q, ⟨hx, hb, -⟩, rfl⟩ := h
  intro H locs la hP hD hS hl0
  have hi : i < nL := by rw [← hl0.2.1]; exact (List.getElem?_eq_some_iff.mp hl).1
  obtain ⟨k, hk⟩ := List.getElem?_of_mem (lvL_mem (ad := fun k => k) hl)
  exact lv_iinc hx hb hd hl0.has hk hv hi rfl (fun la' h' => kk H locs la' hP hD hS (hl0.store ok hi h'))
-- fields and arrays
theorem k_put (h : RulesK cc own lev nL cA RC RS ini J) {ci N : Nat} {C : String} {T : u_T} (K : Kl ci C T N) (i j : Nat) {b idx : Nat} {v : Int32} {fs : List Value} {ty : FieldType} (he : ws[i]? = some (b, .inr (ci, fs))) (hjN : j < N) (hw : Cond.fieldLink own idx C (T j).2.1 (T j).2.2.1 ∈ TW) (hfin : (T j).2.2.2 = false) (hty : parseFieldDescriptor (T j).2.2.1 = some ty) (hn : narrow ty (.int v) = .int v) (hfit : fits ty (.int v) = true) (hl : j < fs.length) (hd : decode cc pc = .ok (.putfield idx, 3)) (kk : J (pc + 3) ls st (ws.set i (b, .inr (ci, fs.set j (.int v)))) cs ss) : J pc ls (.int v :: .ref b :: st) ws cs ss := by
  obtain ⟨p, l, e, R, s, m, args, below, meth, c, D, A, Q, ⟨hx, hb, hml, hown, hts, hK, hA, -⟩, rfl⟩ := h
  intro H locs la hP hD hS hl0
  obtain ⟨ty0, hty0⟩ := K.2.2.1
  exact va_put (v := .int v) (ty := ty) hx hb hts K.2.1 ty0 hty0 K.2.2.2.1 hown hK hP hD hS i he K.1 j hjN (hts _ hw) (fun _ h9 => by rw [← K.2.2.2.2 j hjN]; exact h9) hfin hty hn hfit hl hd (fun H1 locs1 hP1 hD1 hS1 => kk H1 locs1 la hP1 hD1 hS1 hl0)
theorem k_putF (h : RulesK cc own lev nL cA RC RS True J) {ci N : Nat} {C : String} {T : u_T} (K : Kl ci C T N) (i j : Nat) {b idx q : Nat} {fs : List Value} {ty : FieldType} (hC : C = own) (he : ws[i]? = some (b, .inr (ci, fs))) (hjN : j < N) (hw : Cond.fieldLink own idx C (T j).2.1 (T j).2.2.1 ∈ TW) (hfin : (T j).2.2.2 = true) (hty : parseFieldDescriptor (T j).2.2.1 = some ty) (hn : narrow ty (.ref q) = .ref q) (hfit : fits ty (.ref q) = true) (hl : j < fs.length) (hd : decode cc pc = .ok (.putfield idx, 3)) (kk : J (pc + 3) ls st (ws.set i (b, .inr (ci, fs.set j (.ref q)))) cs ss) : J pc ls (.ref q :: .ref b :: st) ws cs ss := by
  obtain ⟨p, l, e, R, s, m, args, below, meth, c, D, A, Q, ⟨hx, hb, hml, hown, hts, hK, hA, -, -, hini⟩, rfl⟩ := h
  intro H locs la hP hD hS hl0
  obtain ⟨ty0, hty0⟩ := K.2.2.1
  exact va_putF (v := .ref q) (ty := ty) hx hb hts K.2.1 ty0 hty0 K.2.2.2.1 hown hK hP hD hS i he K.1 j hjN (hts _ hw) (fun _ h9 => by rw [← K.2.2.2.2 j hjN]; exact h9) hfin (hini trivial) (by rw [K.2.2.2.2 j hjN]; exact hC) hty hn hfit hl hd (fun H1 locs1 hP1 hD1 hS1 => kk H1 locs1 la hP1 hD1 hS1 hl0)
theorem k_get (h : RulesK cc own lev nL cA RC RS ini J) {ci N : Nat} {C : String} {T : u_T} (K : Kl ci C T N) (i j : Nat) {b idx q : Nat} {fs : List Value} (he : ws[i]? = some (b, .inr (ci, fs))) (hjN : j < N) (hw : Cond.fieldLink own idx C (T j).2.1 (T j).2.2.1 ∈ TW) (hv : fs[j]? = some (.ref q)) (hd : decode cc pc = .ok (.getfield idx, 3)) (kk : J (pc + 3) ls (.ref q :: st) ws cs ss) : J pc ls (.ref b :: st) ws cs ss := by
  obtain ⟨p, l, e, R, s, m, args, below, meth, c, D, A, Q, ⟨hx, hb, hml, hown, hts, hK, hA, -⟩, rfl⟩ := h
  intro H locs la hP hD hS hl0
  exact va_get (v := .ref q) hx hb hts K.2.1 hown hK hP i he K.1 j hjN (hts _ hw) (fun _ h9 => by rw [← K.2.2.2.2 j hjN]; exact h9) hv hd (kk H locs la hP hD hS hl0)
theorem k_iast (h : RulesK cc own lev nL cA RC RS ini J) (i j : Nat) {b n : Nat} {x v : Int32} {f : Nat → Int32} (he : ws[i]? = some (b, .inl (cA, n, .inl f))) (hn : n < 2 ^ 31) (hj : j < n) (hx0 : x = nI j) (hd : decode cc pc = .ok (.iastore, 1)) (kk : J (pc + 1) ls st (ws.set i (b, .inl (cA, n, .inl (upd f j v)))) cs ss) : J pc ls (.int v :: .int x :: .ref b :: st) ws cs ss := by
  subst hx0
  obtain ⟨p, l, e, R, s, m, args, below, meth, c, D, A, Q, ⟨hx, hb, hml, hown, hts, hK, hA, -⟩, rfl⟩ := h
  intro H locs la hP hD hS hl0
  refine va_iast hx hb hK hP hD hS i 0 he rfl (vp_in_nI hj hn) hd (fun H1 locs1 hP1 hD1 hS1 => ?_)
  rw [nI_clamp (by omega)] at hP1 hD1
  exact kk H1 locs1 la hP1 hD1 hS1 hl0
theorem k_newa (h : RulesK cc own lev nL cA RC RS ini J) {n : Int32} (N' : Nat) (hn : ¬ n < 0) (hN : n.toNatClampNeg = N') (hby : N' * componentBytes .int ≤ 536870912) (hc : cs + 1 ≤ RC) (hs : ss + N' ≤ RS) (hd : decode cc pc = .ok (.newarray .int, 2)) (kk : ∀ q, J (pc + 2) ls (.ref q :: st) (ws ++ [(q, .inl (cA, N', .inl (fun _ => 0)))]) (cs + 1) (ss + N')) : J pc ls (.int n :: st) ws cs ss := by
  obtain ⟨p, l, e, R, s, m, args, below, meth, c, D, A, Q, ⟨hx, hb, hml, hown, hts, hK, hA, ⟨r1, r2, r3, r4⟩, -⟩, rfl⟩ := h
  intro H locs la hP hD hS hl0
  refine va_newa (atype := .int) (ty := .int) (a0 := (N', .inl (fun _ => 0))) hx hb (hts _ ac_int) rfl hK hP hD hS hA (fun _ => rfl) hn hN hby (by omega) (by omega) hd (fun q cB H1 hK1 hP1 hD1 hS1 => ?_)
  have e1 := (hK.2 0 _ rfl).2
  have e2 := (hK1.2 1 _ rfl).2
  obtain rfl : cA = cB := Option.some.inj (e1.symm.trans e2)
  exact kk q H1 locs la hP1 hD1 hS1 hl0
theorem k_new (h : RulesK cc own lev nL cA RC RS ini J) {ci N : Nat} {C : String} {T : u_T} (K : Kl ci C T N) {idx : Nat} {fs : List Value} (ty : Nat → FieldType) (hty : ∀ k, k < N → parseFieldDescriptor (T k).2.2.1 = some (ty k)) (hcl : Cond.classLink own idx C ∈ TW) (his : Cond.instantiable C N ∈ TW) (hini : Cond.initialized C ∈ TW) (hfs : ∀ j, j < N → defaultValue (ty j) = vp_V fs j) (hc : cs + 1 ≤ RC) (hs : ss + N ≤ RS) (hd : decode cc pc = .ok (.new idx, 3)) (kk : ∀ q, J (pc + 3) ls (.ref q :: st) (ws ++ [(q, .inr (ci, fs))]) (cs + 1) (ss + N)) : J pc ls st ws cs ss := by
  obtain ⟨p, l, e, R, s, m, args, below, meth, c, D, A, Q, ⟨hx, hb, hml, hown, hts, hK, hA, ⟨r1, r2, r3, r4⟩, -⟩, rfl⟩ := h
  intro H locs la hP hD hS hl0
  exact va_new (ci := ci) (fs := fs) (C := C) (T := T) (N := N) hx hb hts K.2.1 ty hty hown (hts _ hcl) (hts _ his) (hts _ hini) hK hP hD hS hA K.1 hfs (by omega) (by omega) hd (fun q H1 hP1 hD1 hS1 => kk q H1 locs la hP1 hD1 hS1 hl0)
theorem k_objInit (h : RulesK cc own lev nL cA RC RS ini J) {idx b : Nat} (hlev : 1 ≤ lev) (hlink : Cond.methodLink own idx objectInit ∈ TW) (hst : st = []) (hd : decode cc pc = .ok (.invokespecial idx, 3)) (kk : J (pc + 3) ls st ws cs ss) : J pc ls (.ref b :: st) ws cs ss := by
  subst hst
  obtain ⟨p, l, e, R, s, m, args, below, meth, c, D, A, Q, ⟨hx, hb, hml, hown, hts, hK, hA, ⟨r1, r2, r3, r4⟩, -⟩, rfl⟩ := h
  intro H locs la hP hD hS hl0
  refine W.objInit hx hb hown (hts _ hlink) (hts _ im_objectInit) (hts _ cd_objectInit) rfl (by rw [hml]; exact hl0.1) rfl hd (by omega) (by show 2 * 0 + 0 + 12 ≤ _; omega) ?_
  exact kk H locs la hP hD hS hl0
theorem filterMap_of {α : Type} {f : Nat → Option α} {is : List Nat} {w : List α} (h : is.map f = w.map some) : is.filterMap f = w := by
  have e : is.filterMap f = (is.map f).filterMap id := by rw [List.filterMap_map]; rfl
  rw [e, h, List.filterMap_map]
  exact List.filterMap_some
theorem k_init (h : RulesK cc own lev nL cA RC RS ini J) {y : MethodName} {bytes : ByteArray} {maxL n idx lev' mc ms b : Nat} {as stk : List Value} {pre wr : va_W} {post : va_W → Prop} (ci : CI y bytes maxL none n) (hyn : y.name = "<init>") (him : Cond.instanceMethod y ∈ TW) (hd : decode cc pc = .ok (.invokespecial idx, 3)) (hlink : Cond.methodLink own idx y ∈ TW) (hlev : lev' + 1 ≤ lev) (ct : CtK y lev' mc ms cA bytes maxL (.ref b :: as) pre post) (isC isR : List Nat) (hC : isC.map (fun i => ws[i]?) = pre.map some) (hR : isR.map (fun i => ws[i]?) = wr.map some) (hndR : va_nd isR = true) (hdis : ∀ i ∈ isR, i ∉ isC) (hndC : va_nd isC = true) (hn : as.length = n) (hst : (st.map fun v => v.category).sum ≤ 8) (hs : stk = as.reverse ++ .ref b :: st) (hc : cs + mc ≤ RC) (hss : ss + ms ≤ RS) (kk : ∀ w', post w' → J (pc + 3) ls st (wr ++ w') (cs + mc) (ss + ms)) : J pc ls stk ws cs ss := by
  subst hs
  obtain ⟨p, l, e, R, s, m, args, below, meth, c, D, A, Q, ⟨hx, hb, hml, hown, hts, hK, hA, ⟨r1, r2, r3, r4⟩, hN, -⟩, rfl⟩ := h
  intro H locs la hP hD hS hl
  have hPc : va_P D vwCl pre H := hP.sub isC (filterMap_of hC)
  have hDc := hD.sub (ws' := pre) isC hndC hC
  have hFc := va_free (wc := pre) hD hS hA isC hC
  have hcb : CallB R s args own idx y bytes maxL none (wsM y bytes maxL none) { frames := lev', cells := mc, slots := ms, locals := 36 * lev' } mc ms n := callB_of n hts (wsM_good ci.2.2.1) rfl rfl rfl (hts _ ci.2.2.2) (hts _ hlink) ci.1 ⟨by show lev' + 1 ≤ R.frames; omega, by show 8 + (maxL + 11) + 36 * lev' ≤ R.locals; have := ci.2.1; omega⟩
  refine va_callv (va_runI (As := as) (rest := st) (Ts := TW) ⟨hx, hb, hml, hown, hts⟩ (ct l D H.size) ⟨hcb, hyn, hts _ him⟩ ⟨fun a U g mk q => by obtain ⟨q0, q1, qP, qK, qD, qN⟩ := q; exact ⟨q0, q1, qP, va_K.moved (u := U) (U := U.calling g mk a) (Vm.Alike.refl U.vm) qK, qD, ⟨qN.1.same rfl rfl, qN.2.same rfl rfl⟩⟩, fun U hU hW => ⟨rfl, by rw [hU], by rw [hU]; exact hPc, va_K.moved hW.alike hK, hDc.weaken (fun _ _ _ _ => trivial), ⟨hN.1.warmM hW, hN.2.warmM hW⟩⟩⟩ rfl hn hl.1 rfl (by show 2 * 0 + _ ≤ 8; omega) hd ⟨by omega, by omega⟩) hS (fun q _ h => hFc q h) hFc (fun u t H1 locs1 ht hvm hw hB hz hk hS1 => ?_)
  obtain ⟨hP1, hD1⟩ := hB
  rw [ht] at hP1
  obtain ⟨hP2, hD2⟩ := va_join (wr := wr) hP hD isC isR hC hR hndR hdis hk hFc hP1 hD1
  exact kk u hw H1 locs1 la hP2 hD2 hS1 hl
theorem k_initN (h : RulesK cc own lev nL cA RC RS ini J) {y : MethodName} {bytes : ByteArray} {maxL n idx lev' mc ms b : Nat} {as stk : List Value} {pre wr : va_W} {post : va_W → Prop} (ci : CI y bytes maxL none n) (hyn : y.name = "<init>") (him : Cond.instanceMethod y ∈ TW) (hd : decode cc pc = .ok (.invokespecial idx, 3)) (hlink : ∀ s, NWk s → va_Nw (.methodLinkNest own idx y "ParcelBall") s) (hlev : lev' + 1 ≤ lev) (ct : CtK y lev' mc ms cA bytes maxL (.ref b :: as) pre post) (isC isR : List Nat) (hC : isC.map (fun i => ws[i]?) = pre.map some) (hR : isR.map (fun i => ws[i]?) = wr.map some) (hndR : va_nd isR = true) (hdis : ∀ i ∈ isR, i ∉ isC) (hndC : va_nd isC = true) (hn : as.length = n) (hst : (st.map fun v => v.category).sum ≤ 8) (hs : stk = as.reverse ++ .ref b :: st) (hc : cs + mc ≤ RC) (hss : ss + ms ≤ RS) (kk : ∀ w', post w' → J (pc + 3) ls st (wr ++ w') (cs + mc) (ss + ms)) : J pc ls stk ws cs ss := by
  subst hs
  obtain ⟨p, l, e, R, s, m, args, below, meth, c, D, A, Q, ⟨hx, hb, hml, hown, hts, hK, hA, ⟨r1, r2, r3, r4⟩, hN, -⟩, rfl⟩ := h
  intro H locs la hP hD hS hl
  have hPc : va_P D vwCl pre H := hP.sub isC (filterMap_of hC)
  have hDc := hD.sub (ws' := pre) isC hndC hC
  have hFc := va_free (wc := pre) hD hS hA isC hC
  have cn := va_cnB (R := R) (own := own) (index := idx) (host := "ParcelBall") (rm := { frames := lev', cells := mc, slots := ms, locals := 36 * lev' }) (mc := mc) (ms := ms) n hts (wsM_good ci.2.2.1) rfl rfl rfl (hlink s hN) (hts _ ci.2.2.2) ci.1 ⟨by show lev' + 1 ≤ R.frames; omega, by show 8 + (maxL + 11) + 36 * lev' ≤ R.locals; have := ci.2.1; omega⟩
  refine va_callv (va_runIN (As := as) (rest := st) (Ts := TW) ⟨hx, hb, hml, hown, hts⟩ (ct l D H.size) ⟨cn, hyn, hts _ him⟩ ⟨fun a U g mk q => by obtain ⟨q0, q1, qP, qK, qD, qN⟩ := q; exact ⟨q0, q1, qP, va_K.moved (u := U) (U := U.calling g mk a) (Vm.Alike.refl U.vm) qK, qD, ⟨qN.1.same rfl rfl, qN.2.same rfl rfl⟩⟩, fun U hU hW => ⟨rfl, by rw [hU], by rw [hU]; exact hPc, va_K.moved hW.alike hK, hDc.weaken (fun _ _ _ _ => trivial), ⟨hN.1.warmM hW, hN.2.warmM hW⟩⟩⟩ rfl hn hl.1 rfl (by show 2 * 0 + _ ≤ 8; omega) hd ⟨by omega, by omega⟩) hS (fun q _ h => hFc q h) hFc (fun u t H1 locs1 ht hvm hw hB hz hk hS1 => ?_)
  obtain ⟨hP1, hD1⟩ := hB
  rw [ht] at hP1
  obtain ⟨hP2, hD2⟩ := va_join (wr := wr) hP hD isC isR hC hR hndR hdis hk hFc hP1 hD1
  exact kk u hw H1 locs1 la hP2 hD2 hS1 hl
end KR
theorem CtK.of {y : MethodName} {bytes : ByteArray} {maxL lev mc ms : Nat} {cA : ClassId} {as : List Value} {pre : va_W} {post : va_W → Prop} {ls0 : List (Option Value)} (hy : plainName y.cls = true) (hyn : y.name = "<init>") (hlen : (lsIn as).length ≤ maxL) (h0 : lsIn as ++ List.replicate (maxL - (lsIn as).length) none = ls0)
    (body : ∀ J : Kty, RulesK bytes y.cls lev maxL cA mc ms True J → (∀ {pc : Nat} {ls : List (Option Value)} {w' : va_W} {cs ss : Nat}, decode bytes pc = .ok (.return_, 1) → post w' → cs ≤ mc → ss ≤ ms → J pc ls [] w' cs ss) → J 0 ls0 [] pre 0 0) : CtK y lev mc ms cA bytes maxL as pre post := by
  subst h0
  intro l D sz
  refine Met.ofW (cc := bytes) (maxL := maxL) (ret := none) hy rfl ?_
  intro p e s m args below meth c s₁ B hml hv
  obtain ⟨rfl, hsz, hP, hK, hD0, hN⟩ := hv
  have hx := B.exec
  have hb := B.bytes
  have hr := B.returns
  have hts0 := atoms_spec (ws := wsM y bytes maxL none) B.pre
  have hts : ∀ w ∈ TW, w.before (as.toArray) s = true := fun w h => hts0 w (List.mem_cons_of_mem _ h)
  have hown : s.vm.findClass y.cls = some m.cls := findClass_of_methodNamed B.named
  have hlocks := B.notSynchronized
  have hin : meth.name = "<init>" := ((name_of_methodNamed B.named B.method).1).trans hyn
  subst hsz
  have hD := hD0.self (sz := s.heap.size)
  have hA : ∀ q : Nat, s.heap.size ≤ q → va_A pre s.heap.size q := fun q h => Or.inr h
  have hLv := Lv_entry (fun k => k) as hlen
  rw [map_fvid] at hLv
  rw [lg_entry_eq]
  refine body (Kof p l e _ s m as.toArray below meth c D (va_A pre s.heap.size) maxL (MQ below (va_Qv post (fun w' t => va_P D vwCl w' t.heap ∧ va_D (va_A pre s.heap.size) w') (va_A pre s.heap.size)) as.toArray s mc ms (va_A pre s.heap.size))) ⟨p, l, e, _, s, m, _, below, meth, c, D, _, _, ⟨hx, hb, hml, hown, hts, hK, hA, ⟨Nat.le_refl _, Nat.le_refl _, Nat.le_refl _, Nat.le_refl _⟩, hN, fun _ => hin⟩, rfl⟩ ?_ s.heap [] _ hP hD va_S.rf hLv
  intro pc ls w' cs ss h3 h4 hc hs H locs la hP' hD' hS' hl'
  refine W.widen hc hs ?_
  exact W.vret hx hb hr (fun t ht hW => ⟨⟨w', rfl, h4, by rw [ht]; exact hP', hD'⟩, hS'.F ht⟩) hS'.2.2 h3
