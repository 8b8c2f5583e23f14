/-! ===== what the Statement gives of the start: classes, statics, text constants ===== -/
abbrev nwL : List Cond := flatC (Cond.and given_1 narrow_1)
abbrev stT (n : String) : Term := .static "ParcelBall" n "[I"
abbrev txT (i : Nat) : Term := .string "ParcelBall$TextReader" (sIx.getD i 0)
theorem nw_ar : (Cond.arrayOf (stT "KIND_ABOVE") .int) ∈ nwL ∧ (Cond.arrayOf (stT "FACT_LEAST") .int) ∈ nwL ∧ (Cond.arrayOf (stT "FACT_MOST") .int) ∈ nwL ∧ (Cond.eq (.length (stT "KIND_ABOVE")) (.int 7)) ∈ nwL ∧ (Cond.eq (.length (stT "FACT_LEAST")) (.int 6)) ∈ nwL ∧ (Cond.eq (.length (stT "FACT_MOST")) (.int 6)) ∈ nwL := by decide +kernel
theorem nw_ka : ∀ j, j < 7 → (Cond.eq (.elem (stT "KIND_ABOVE") (.int (Int32.ofNat j))) (.int (kaT j))) ∈ nwL := by decide +kernel
theorem nw_fl : ∀ j, j < 6 → (Cond.eq (.elem (stT "FACT_LEAST") (.int (Int32.ofNat j))) (.int (flT j))) ∈ nwL := by decide +kernel
theorem nw_fm : ∀ j, j < 6 → (Cond.eq (.elem (stT "FACT_MOST") (.int (Int32.ofNat j))) (.int (fmT j))) ∈ nwL := by decide +kernel
theorem nw_z : (Cond.eq (.static "java/lang/String" "COMPACT_STRINGS" "Z") (.int 1)) ∈ nwL ∧ (Cond.isRef (.static "jdk/internal/util/Preconditions" "SIOOBE_FORMATTER" "Ljava/util/function/BiFunction;")) ∈ nwL := by decide +kernel
theorem nw_s1 : ∀ i, i < 13 → (Cond.exactly (txT i) "java/lang/String") ∈ nwL ∧ (Cond.eq (.field (txT i) "java/lang/String" "coder" "B") (.int 0)) ∈ nwL ∧ (Cond.arrayOf (.field (txT i) "java/lang/String" "value" "[B") .byte) ∈ nwL ∧ (Cond.eq (.length (.field (txT i) "java/lang/String" "value" "[B")) (.int (Int32.ofNat (sLn.getD i 0)))) ∈ nwL := by decide +kernel
theorem nw_s2 : ∀ i, i < 13 → ∀ j, j < sLn.getD i 0 → (Cond.eq (.elem (.field (txT i) "java/lang/String" "value" "[B") (.int (Int32.ofNat j))) (.int ((sBy.getD i []).getD j 0))) ∈ nwL := by decide +kernel
theorem nw_s3 : ∀ i, i < 13 → ∀ j, j < 13 → i ≠ j → (Cond.not (Cond.eq (txT i) (txT j))) ∈ nwL ∨ (Cond.not (Cond.eq (txT j) (txT i))) ∈ nwL := by decide +kernel
theorem sr_all : ∀ i, i < 13 → Cond.stringRef "ParcelBall$TextReader" (sIx.getD i 0) (sTx.getD i "") ∈ lw_tbl := by
  intro i hi
  rcases (show i = 0 ∨ i = 1 ∨ i = 2 ∨ i = 3 ∨ i = 4 ∨ i = 5 ∨ i = 6 ∨ i = 7 ∨ i = 8 ∨ i = 9 ∨ i = 10 ∨ i = 11 ∨ i = 12 by omega) with rfl | rfl | rfl | rfl | rfl | rfl | rfl | rfl | rfl | rfl | rfl | rfl | rfl
  · exact sr_X2_136
  · exact sr_X2_138
  · exact sr_X2_140
  · exact sr_X2_142
  · exact sr_X2_144
  · exact sr_X2_146
  · exact sr_X2_148
  · exact sr_X2_150
  · exact sr_X2_51
  · exact sr_X2_56
  · exact sr_X2_79
  · exact sr_X2_85
  · exact sr_X2_87
