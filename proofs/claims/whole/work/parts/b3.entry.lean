/-! the law's entry: what the Statement gives of the start -/
abbrev lw_F : List Cond := flatC (Jvm.Cond.and given_1 narrow_1)
def lw_nm : List String := ["FACTS", "RULE", "ONE", "KNOWS", "OUT", "SIGN", "MEET", "SKILL", "HURT", "PRICE", "WHOLE", "LEAST", "LATE", "HALF", "LEARN", "ASK", "HOUR"]
def lw_kd : List Int32 := [-1, -1, -1, -1, -1, -1, -1, -1, -1, -1, 0, 1, 2, 3, 4, 5, 6]
def lw_mr : List Int32 := [0, 1, 0, 1, 1, 0, 0, 1, 1, 0, 0, 0, 0, 0, 0, 0, 0]
def lw_nu : List Nat := [0, 1, 2, 3, 4, 5, 6, 7, 7, 2, 8, 8, 8, 8, 8, 9, 10]
def lw_sid : List Nat := [102, 110, 115, 120, 125, 130, 135, 140, 145, 148, 151, 156, 159, 162, 165, 168, 173, 104, 112, 117, 122, 127, 132, 137, 142, 153, 170, 175]
def lw_sl : List Nat := [5, 4, 3, 5, 3, 4, 4, 5, 4, 5, 5, 5, 4, 4, 5, 3, 4, 1, 2, 1, 2, 2, 2, 4, 2, 2, 3, 0]
def lw_sb : List (List Int32) := [[102, 97, 99, 116, 115], [114, 117, 108, 101], [111, 110, 101], [107, 110, 111, 119, 115], [111, 117, 116], [115, 105, 103, 110], [109, 101, 101, 116], [115, 107, 105, 108, 108], [104, 117, 114, 116], [112, 114, 105, 99, 101], [119, 104, 111, 108, 101], [108, 101, 97, 115, 116], [108, 97, 116, 101], [104, 97, 108, 102], [108, 101, 97, 114, 110], [97, 115, 107], [104, 111, 117, 114], [99], [117, 117], [110], [112, 102], [112, 104], [104, 102], [112, 111, 104, 102], [110, 117], [119, 102], [119, 120, 102], []]
abbrev lw_st (i : Nat) : Term := .static "ForgetBread$Word" (lw_nm.getD i "") "LForgetBread$Word;"
abbrev lw_tx (i : Nat) : Term := .string "ForgetBread$Word" (lw_sid.getD i 0)
abbrev lw_va : Term := .static "ForgetBread$Word" "$VALUES" "[LForgetBread$Word;"
theorem lw_m1 : ∀ i, i < 17 → Cond.exactly (lw_st i) "ForgetBread$Word" ∈ lw_F := by decide +kernel
theorem lw_m2 : ∀ i, i < 17 → Cond.eq (.field (lw_st i) "ForgetBread$Word" "kind" "I") (.int (lw_kd.getD i 0)) ∈ lw_F := by decide +kernel
theorem lw_m3 : ∀ i, i < 17 → Cond.eq (.field (lw_st i) "ForgetBread$Word" "more" "Z") (.int (lw_mr.getD i 0)) ∈ lw_F := by decide +kernel
theorem lw_m4 : ∀ i, i < 17 → Cond.eq (.field (lw_st i) "ForgetBread$Word" "spelled" "Ljava/lang/String;") (lw_tx i) ∈ lw_F := by decide +kernel
theorem lw_m5 : ∀ i, i < 17 → Cond.eq (.field (lw_st i) "ForgetBread$Word" "numbers" "Ljava/lang/String;") (lw_tx (17 + lw_nu.getD i 0)) ∈ lw_F := by decide +kernel
theorem lw_m6_0 : ∀ j, j < 17 → 0 ≠ j → (Cond.not (Cond.eq (lw_st 0) (lw_st j)) ∈ lw_F ∨ Cond.not (Cond.eq (lw_st j) (lw_st 0)) ∈ lw_F) := by decide +kernel
theorem lw_m6_1 : ∀ j, j < 17 → 1 ≠ j → (Cond.not (Cond.eq (lw_st 1) (lw_st j)) ∈ lw_F ∨ Cond.not (Cond.eq (lw_st j) (lw_st 1)) ∈ lw_F) := by decide +kernel
theorem lw_m6_2 : ∀ j, j < 17 → 2 ≠ j → (Cond.not (Cond.eq (lw_st 2) (lw_st j)) ∈ lw_F ∨ Cond.not (Cond.eq (lw_st j) (lw_st 2)) ∈ lw_F) := by decide +kernel
theorem lw_m6_3 : ∀ j, j < 17 → 3 ≠ j → (Cond.not (Cond.eq (lw_st 3) (lw_st j)) ∈ lw_F ∨ Cond.not (Cond.eq (lw_st j) (lw_st 3)) ∈ lw_F) := by decide +kernel
theorem lw_m6_4 : ∀ j, j < 17 → 4 ≠ j → (Cond.not (Cond.eq (lw_st 4) (lw_st j)) ∈ lw_F ∨ Cond.not (Cond.eq (lw_st j) (lw_st 4)) ∈ lw_F) := by decide +kernel
theorem lw_m6_5 : ∀ j, j < 17 → 5 ≠ j → (Cond.not (Cond.eq (lw_st 5) (lw_st j)) ∈ lw_F ∨ Cond.not (Cond.eq (lw_st j) (lw_st 5)) ∈ lw_F) := by decide +kernel
theorem lw_m6_6 : ∀ j, j < 17 → 6 ≠ j → (Cond.not (Cond.eq (lw_st 6) (lw_st j)) ∈ lw_F ∨ Cond.not (Cond.eq (lw_st j) (lw_st 6)) ∈ lw_F) := by decide +kernel
theorem lw_m6_7 : ∀ j, j < 17 → 7 ≠ j → (Cond.not (Cond.eq (lw_st 7) (lw_st j)) ∈ lw_F ∨ Cond.not (Cond.eq (lw_st j) (lw_st 7)) ∈ lw_F) := by decide +kernel
theorem lw_m6_8 : ∀ j, j < 17 → 8 ≠ j → (Cond.not (Cond.eq (lw_st 8) (lw_st j)) ∈ lw_F ∨ Cond.not (Cond.eq (lw_st j) (lw_st 8)) ∈ lw_F) := by decide +kernel
theorem lw_m6_9 : ∀ j, j < 17 → 9 ≠ j → (Cond.not (Cond.eq (lw_st 9) (lw_st j)) ∈ lw_F ∨ Cond.not (Cond.eq (lw_st j) (lw_st 9)) ∈ lw_F) := by decide +kernel
theorem lw_m6_10 : ∀ j, j < 17 → 10 ≠ j → (Cond.not (Cond.eq (lw_st 10) (lw_st j)) ∈ lw_F ∨ Cond.not (Cond.eq (lw_st j) (lw_st 10)) ∈ lw_F) := by decide +kernel
theorem lw_m6_11 : ∀ j, j < 17 → 11 ≠ j → (Cond.not (Cond.eq (lw_st 11) (lw_st j)) ∈ lw_F ∨ Cond.not (Cond.eq (lw_st j) (lw_st 11)) ∈ lw_F) := by decide +kernel
theorem lw_m6_12 : ∀ j, j < 17 → 12 ≠ j → (Cond.not (Cond.eq (lw_st 12) (lw_st j)) ∈ lw_F ∨ Cond.not (Cond.eq (lw_st j) (lw_st 12)) ∈ lw_F) := by decide +kernel
theorem lw_m6_13 : ∀ j, j < 17 → 13 ≠ j → (Cond.not (Cond.eq (lw_st 13) (lw_st j)) ∈ lw_F ∨ Cond.not (Cond.eq (lw_st j) (lw_st 13)) ∈ lw_F) := by decide +kernel
theorem lw_m6_14 : ∀ j, j < 17 → 14 ≠ j → (Cond.not (Cond.eq (lw_st 14) (lw_st j)) ∈ lw_F ∨ Cond.not (Cond.eq (lw_st j) (lw_st 14)) ∈ lw_F) := by decide +kernel
theorem lw_m6_15 : ∀ j, j < 17 → 15 ≠ j → (Cond.not (Cond.eq (lw_st 15) (lw_st j)) ∈ lw_F ∨ Cond.not (Cond.eq (lw_st j) (lw_st 15)) ∈ lw_F) := by decide +kernel
theorem lw_m6_16 : ∀ j, j < 17 → 16 ≠ j → (Cond.not (Cond.eq (lw_st 16) (lw_st j)) ∈ lw_F ∨ Cond.not (Cond.eq (lw_st j) (lw_st 16)) ∈ lw_F) := by decide +kernel
theorem lw_m6 : ∀ i, i < 17 → ∀ j, j < 17 → i ≠ j → (Cond.not (Cond.eq (lw_st i) (lw_st j)) ∈ lw_F ∨ Cond.not (Cond.eq (lw_st j) (lw_st i)) ∈ lw_F) := by
  intro i hi
  rcases (show i = 0 ∨ i = 1 ∨ i = 2 ∨ i = 3 ∨ i = 4 ∨ i = 5 ∨ i = 6 ∨ i = 7 ∨ i = 8 ∨ i = 9 ∨ i = 10 ∨ i = 11 ∨ i = 12 ∨ i = 13 ∨ i = 14 ∨ i = 15 ∨ i = 16 by omega) with rfl | rfl | rfl | rfl | rfl | rfl | rfl | rfl | rfl | rfl | rfl | rfl | rfl | rfl | rfl | rfl | rfl
  · exact lw_m6_0
  · exact lw_m6_1
  · exact lw_m6_2
  · exact lw_m6_3
  · exact lw_m6_4
  · exact lw_m6_5
  · exact lw_m6_6
  · exact lw_m6_7
  · exact lw_m6_8
  · exact lw_m6_9
  · exact lw_m6_10
  · exact lw_m6_11
  · exact lw_m6_12
  · exact lw_m6_13
  · exact lw_m6_14
  · exact lw_m6_15
  · exact lw_m6_16
theorem lw_s1 : ∀ i, i < 28 → Cond.exactly (lw_tx i) "java/lang/String" ∈ lw_F := by decide +kernel
theorem lw_s2 : ∀ i, i < 28 → Cond.eq (.field (lw_tx i) "java/lang/String" "coder" "B") (.int 0) ∈ lw_F := by decide +kernel
theorem lw_s3 : ∀ i, i < 28 → Cond.arrayOf (.field (lw_tx i) "java/lang/String" "value" "[B") .byte ∈ lw_F := by decide +kernel
theorem lw_s4 : ∀ i, i < 28 → Cond.eq (.length (.field (lw_tx i) "java/lang/String" "value" "[B")) (.int (Int32.ofNat (lw_sl.getD i 0))) ∈ lw_F := by decide +kernel
theorem lw_s5_0 : ∀ j, j < lw_sl.getD 0 0 → Cond.eq (.elem (.field (lw_tx 0) "java/lang/String" "value" "[B") (.int (Int32.ofNat j))) (.int ((lw_sb.getD 0 []).getD j 0)) ∈ lw_F := by decide +kernel
theorem lw_s5_1 : ∀ j, j < lw_sl.getD 1 0 → Cond.eq (.elem (.field (lw_tx 1) "java/lang/String" "value" "[B") (.int (Int32.ofNat j))) (.int ((lw_sb.getD 1 []).getD j 0)) ∈ lw_F := by decide +kernel
theorem lw_s5_2 : ∀ j, j < lw_sl.getD 2 0 → Cond.eq (.elem (.field (lw_tx 2) "java/lang/String" "value" "[B") (.int (Int32.ofNat j))) (.int ((lw_sb.getD 2 []).getD j 0)) ∈ lw_F := by decide +kernel
theorem lw_s5_3 : ∀ j, j < lw_sl.getD 3 0 → Cond.eq (.elem (.field (lw_tx 3) "java/lang/String" "value" "[B") (.int (Int32.ofNat j))) (.int ((lw_sb.getD 3 []).getD j 0)) ∈ lw_F := by decide +kernel
theorem lw_s5_4 : ∀ j, j < lw_sl.getD 4 0 → Cond.eq (.elem (.field (lw_tx 4) "java/lang/String" "value" "[B") (.int (Int32.ofNat j))) (.int ((lw_sb.getD 4 []).getD j 0)) ∈ lw_F := by decide +kernel
theorem lw_s5_5 : ∀ j, j < lw_sl.getD 5 0 → Cond.eq (.elem (.field (lw_tx 5) "java/lang/String" "value" "[B") (.int (Int32.ofNat j))) (.int ((lw_sb.getD 5 []).getD j 0)) ∈ lw_F := by decide +kernel
theorem lw_s5_6 : ∀ j, j < lw_sl.getD 6 0 → Cond.eq (.elem (.field (lw_tx 6) "java/lang/String" "value" "[B") (.int (Int32.ofNat j))) (.int ((lw_sb.getD 6 []).getD j 0)) ∈ lw_F := by decide +kernel
theorem lw_s5_7 : ∀ j, j < lw_sl.getD 7 0 → Cond.eq (.elem (.field (lw_tx 7) "java/lang/String" "value" "[B") (.int (Int32.ofNat j))) (.int ((lw_sb.getD 7 []).getD j 0)) ∈ lw_F := by decide +kernel
theorem lw_s5_8 : ∀ j, j < lw_sl.getD 8 0 → Cond.eq (.elem (.field (lw_tx 8) "java/lang/String" "value" "[B") (.int (Int32.ofNat j))) (.int ((lw_sb.getD 8 []).getD j 0)) ∈ lw_F := by decide +kernel
theorem lw_s5_9 : ∀ j, j < lw_sl.getD 9 0 → Cond.eq (.elem (.field (lw_tx 9) "java/lang/String" "value" "[B") (.int (Int32.ofNat j))) (.int ((lw_sb.getD 9 []).getD j 0)) ∈ lw_F := by decide +kernel
theorem lw_s5_10 : ∀ j, j < lw_sl.getD 10 0 → Cond.eq (.elem (.field (lw_tx 10) "java/lang/String" "value" "[B") (.int (Int32.ofNat j))) (.int ((lw_sb.getD 10 []).getD j 0)) ∈ lw_F := by decide +kernel
theorem lw_s5_11 : ∀ j, j < lw_sl.getD 11 0 → Cond.eq (.elem (.field (lw_tx 11) "java/lang/String" "value" "[B") (.int (Int32.ofNat j))) (.int ((lw_sb.getD 11 []).getD j 0)) ∈ lw_F := by decide +kernel
theorem lw_s5_12 : ∀ j, j < lw_sl.getD 12 0 → Cond.eq (.elem (.field (lw_tx 12) "java/lang/String" "value" "[B") (.int (Int32.ofNat j))) (.int ((lw_sb.getD 12 []).getD j 0)) ∈ lw_F := by decide +kernel
theorem lw_s5_13 : ∀ j, j < lw_sl.getD 13 0 → Cond.eq (.elem (.field (lw_tx 13) "java/lang/String" "value" "[B") (.int (Int32.ofNat j))) (.int ((lw_sb.getD 13 []).getD j 0)) ∈ lw_F := by decide +kernel
theorem lw_s5_14 : ∀ j, j < lw_sl.getD 14 0 → Cond.eq (.elem (.field (lw_tx 14) "java/lang/String" "value" "[B") (.int (Int32.ofNat j))) (.int ((lw_sb.getD 14 []).getD j 0)) ∈ lw_F := by decide +kernel
theorem lw_s5_15 : ∀ j, j < lw_sl.getD 15 0 → Cond.eq (.elem (.field (lw_tx 15) "java/lang/String" "value" "[B") (.int (Int32.ofNat j))) (.int ((lw_sb.getD 15 []).getD j 0)) ∈ lw_F := by decide +kernel
theorem lw_s5_16 : ∀ j, j < lw_sl.getD 16 0 → Cond.eq (.elem (.field (lw_tx 16) "java/lang/String" "value" "[B") (.int (Int32.ofNat j))) (.int ((lw_sb.getD 16 []).getD j 0)) ∈ lw_F := by decide +kernel
theorem lw_s5_17 : ∀ j, j < lw_sl.getD 17 0 → Cond.eq (.elem (.field (lw_tx 17) "java/lang/String" "value" "[B") (.int (Int32.ofNat j))) (.int ((lw_sb.getD 17 []).getD j 0)) ∈ lw_F := by decide +kernel
theorem lw_s5_18 : ∀ j, j < lw_sl.getD 18 0 → Cond.eq (.elem (.field (lw_tx 18) "java/lang/String" "value" "[B") (.int (Int32.ofNat j))) (.int ((lw_sb.getD 18 []).getD j 0)) ∈ lw_F := by decide +kernel
theorem lw_s5_19 : ∀ j, j < lw_sl.getD 19 0 → Cond.eq (.elem (.field (lw_tx 19) "java/lang/String" "value" "[B") (.int (Int32.ofNat j))) (.int ((lw_sb.getD 19 []).getD j 0)) ∈ lw_F := by decide +kernel
theorem lw_s5_20 : ∀ j, j < lw_sl.getD 20 0 → Cond.eq (.elem (.field (lw_tx 20) "java/lang/String" "value" "[B") (.int (Int32.ofNat j))) (.int ((lw_sb.getD 20 []).getD j 0)) ∈ lw_F := by decide +kernel
theorem lw_s5_21 : ∀ j, j < lw_sl.getD 21 0 → Cond.eq (.elem (.field (lw_tx 21) "java/lang/String" "value" "[B") (.int (Int32.ofNat j))) (.int ((lw_sb.getD 21 []).getD j 0)) ∈ lw_F := by decide +kernel
theorem lw_s5_22 : ∀ j, j < lw_sl.getD 22 0 → Cond.eq (.elem (.field (lw_tx 22) "java/lang/String" "value" "[B") (.int (Int32.ofNat j))) (.int ((lw_sb.getD 22 []).getD j 0)) ∈ lw_F := by decide +kernel
theorem lw_s5_23 : ∀ j, j < lw_sl.getD 23 0 → Cond.eq (.elem (.field (lw_tx 23) "java/lang/String" "value" "[B") (.int (Int32.ofNat j))) (.int ((lw_sb.getD 23 []).getD j 0)) ∈ lw_F := by decide +kernel
theorem lw_s5_24 : ∀ j, j < lw_sl.getD 24 0 → Cond.eq (.elem (.field (lw_tx 24) "java/lang/String" "value" "[B") (.int (Int32.ofNat j))) (.int ((lw_sb.getD 24 []).getD j 0)) ∈ lw_F := by decide +kernel
theorem lw_s5_25 : ∀ j, j < lw_sl.getD 25 0 → Cond.eq (.elem (.field (lw_tx 25) "java/lang/String" "value" "[B") (.int (Int32.ofNat j))) (.int ((lw_sb.getD 25 []).getD j 0)) ∈ lw_F := by decide +kernel
theorem lw_s5_26 : ∀ j, j < lw_sl.getD 26 0 → Cond.eq (.elem (.field (lw_tx 26) "java/lang/String" "value" "[B") (.int (Int32.ofNat j))) (.int ((lw_sb.getD 26 []).getD j 0)) ∈ lw_F := by decide +kernel
theorem lw_s5_27 : ∀ j, j < lw_sl.getD 27 0 → Cond.eq (.elem (.field (lw_tx 27) "java/lang/String" "value" "[B") (.int (Int32.ofNat j))) (.int ((lw_sb.getD 27 []).getD j 0)) ∈ lw_F := by decide +kernel
theorem lw_s5 : ∀ i, i < 28 → ∀ j, j < lw_sl.getD i 0 → Cond.eq (.elem (.field (lw_tx i) "java/lang/String" "value" "[B") (.int (Int32.ofNat j))) (.int ((lw_sb.getD i []).getD j 0)) ∈ lw_F := by
  intro i hi
  rcases (show i = 0 ∨ i = 1 ∨ i = 2 ∨ i = 3 ∨ i = 4 ∨ i = 5 ∨ i = 6 ∨ i = 7 ∨ i = 8 ∨ i = 9 ∨ i = 10 ∨ i = 11 ∨ i = 12 ∨ i = 13 ∨ i = 14 ∨ i = 15 ∨ i = 16 ∨ i = 17 ∨ i = 18 ∨ i = 19 ∨ i = 20 ∨ i = 21 ∨ i = 22 ∨ i = 23 ∨ i = 24 ∨ i = 25 ∨ i = 26 ∨ i = 27 by omega) with rfl | rfl | rfl | rfl | rfl | rfl | rfl | rfl | rfl | rfl | rfl | rfl | rfl | rfl | rfl | rfl | rfl | rfl | rfl | rfl | rfl | rfl | rfl | rfl | rfl | rfl | rfl | rfl
  · exact lw_s5_0
  · exact lw_s5_1
  · exact lw_s5_2
  · exact lw_s5_3
  · exact lw_s5_4
  · exact lw_s5_5
  · exact lw_s5_6
  · exact lw_s5_7
  · exact lw_s5_8
  · exact lw_s5_9
  · exact lw_s5_10
  · exact lw_s5_11
  · exact lw_s5_12
  · exact lw_s5_13
  · exact lw_s5_14
  · exact lw_s5_15
  · exact lw_s5_16
  · exact lw_s5_17
  · exact lw_s5_18
  · exact lw_s5_19
  · exact lw_s5_20
  · exact lw_s5_21
  · exact lw_s5_22
  · exact lw_s5_23
  · exact lw_s5_24
  · exact lw_s5_25
  · exact lw_s5_26
  · exact lw_s5_27
theorem lw_v1 : Cond.exactly lw_va "[LForgetBread$Word;" ∈ lw_F := by decide +kernel
theorem lw_v2 : Cond.arrayOf lw_va (.object "ForgetBread$Word") ∈ lw_F := by decide +kernel
theorem lw_v3 : Cond.eq (.length lw_va) (.int (Int32.ofNat 17)) ∈ lw_F := by decide +kernel
theorem lw_v4 : ∀ j, j < 17 → Cond.eq (.elem lw_va (.int (Int32.ofNat j))) (lw_st j) ∈ lw_F := by decide +kernel
theorem lw_c1 : Cond.eq (.static "java/lang/String" "COMPACT_STRINGS" "Z") (.int 1) ∈ lw_F := by decide +kernel
theorem lw_q1 : Cond.isRef (.static "jdk/internal/util/Preconditions" "SIOOBE_FORMATTER" "Ljava/util/function/BiFunction;") ∈ lw_F := by decide +kernel
theorem lw_l1 : ∀ i, i < 17 → Cond.laysStatic "ForgetBread$Word" (lw_nm.getD i "") "LForgetBread$Word;" ∈ lw_tbl := by decide +kernel
theorem lw_l2 : Cond.initialized "ForgetBread$Word" ∈ lw_tbl ∧ Cond.laysStatic "ForgetBread$Word" "$VALUES" "[LForgetBread$Word;" ∈ lw_tbl ∧ Cond.laysStatic "java/lang/String" "COMPACT_STRINGS" "Z" ∈ lw_tbl ∧ Cond.initialized "java/lang/String" ∈ lw_tbl ∧ Cond.laysStatic "jdk/internal/util/Preconditions" "SIOOBE_FORMATTER" "Ljava/util/function/BiFunction;" ∈ lw_tbl ∧ Cond.initialized "jdk/internal/util/Preconditions" ∈ lw_tbl := by decide +kernel
theorem lw_l3 : (∀ q ∈ fg_nest, Cond.methodLinkNest q.1 q.2.1 q.2.2 "ForgetBread" ∈ lw_tbl) ∧ (∀ C ∈ [RX4, RX5, RX2, RX6], Cond.arrayOver (.object C) ∈ lw_tbl) ∧ Cond.castable "[LForgetBread$Word;" "java/lang/Cloneable" ∈ lw_tbl ∧ (∀ k, k < 3 → Cond.arrayClass (fg_aty k) ∈ lw_tbl) ∧ ∀ c, c < 8 → Cond.instantiable (fg_cl.getD c (RX0, TX0, 12)).1 (fg_cl.getD c (RX0, TX0, 12)).2.2 ∈ lw_tbl := by decide +kernel
section LWE
variable {args : Array Value} {s : State}
/-- what one text is -/
theorem lw_str (hs : ∀ w ∈ lw_F, w.before args s = true) (i : Nat) : ∃ q : Nat × Nat, i < 28 → va_O "java/lang/String" q.1 (fun a => s.heap.size ≤ a) s s.heap ∧ va_OF "java/lang/String" "coder" "B" (.int 0) q.1 (fun a => s.heap.size ≤ a) s s.heap ∧ va_OF "java/lang/String" "value" "[B" (.ref q.2) q.1 (fun a => s.heap.size ≤ a) s s.heap ∧ va_T .byte q.2 (lw_sl.getD i 0) (fun j => .int ((lw_sb.getD i []).getD j 0)) (fun a => s.heap.size ≤ a) s s.heap ∧ (lw_tx i).eval args s none [] s = some (.ref q.1) := by
  by_cases hi : i < 28
  · have hlen : ∀ i, i < 28 → lw_sl.getD i 0 < 2 ^ 31 := by decide
    obtain ⟨k, v, hS, hev⟩ := vk_Sof (args := args) (s := s) (N := 1) (tm := fun _ => lw_tx i) (len := [lw_sl.getD i 0]) (byt := [lw_sb.getD i []]) (A := fun a => s.heap.size ≤ a)
      (fun j hj => by rw [show j = 0 by omega]; exact hlen i hi) (fun _ _ => hs _ (lw_s1 i hi)) (fun _ _ => hs _ (lw_s2 i hi)) (fun _ _ => hs _ (lw_s3 i hi)) (fun j hj => by rw [show j = 0 by omega]; exact hs _ (lw_s4 i hi)) (fun j hj k hk => by
        rw [show j = 0 by omega] at hk ⊢
        exact hs _ (lw_s5 i hi k hk)) (fun a b ha hb hne => absurd (show a = b by omega) hne) (fun a ha => Nat.not_le.mpr ha)
    obtain ⟨h1, h2, h3, h4⟩ := hS.1 0 (by decide)
    exact ⟨(k 0, v 0), fun _ => ⟨h1, h2, h3, h4, hev 0 (by decide)⟩⟩
  · exact ⟨(0, 0), fun h => absurd h hi⟩
theorem lw_lenOf {t : Term} {n : Nat} (hn : n < 2 ^ 31) (h : (Term.length t).eval args s none [] s = some (.int (Int32.ofNat n))) : ∃ a cell, t.eval args s none [] s = some (.ref a) ∧ s.arrayAt? a = some cell ∧ cell.slots.size = n := by
  obtain ⟨a, cell, ht, hat, hv⟩ := Term.length_spec h
  refine ⟨a, cell, ht, hat, ?_⟩
  simp only [Term.eval, ht, hat, Option.bind_eq_bind, Option.bind_some] at h
  by_cases c : cell.slots.size < 2 ^ 31
  · have e : Int32.ofNat n = cell.slots.size.toInt32 := Value.int.inj hv
    exact (fg_nI_injW (a := n) (b := cell.slots.size) (by omega) (by omega) e).symm
  · rw [if_neg c] at h
    cases h
/-- the classes -/
theorem lw_cls (hts : ∀ w ∈ lw_tbl, w.before args s = true) (c : Nat) : ∃ q : ClassId × (Nat → Nat), ∀ (C : String) (T : u_T) (N : Nat), fg_cl[c]? = some (C, T, N) → u_Kn s C T N q.1 q.2 := by
  by_cases hc : c < 8
  · have hlt : c < fg_cl.length := hc
    obtain ⟨cC, iS, h⟩ := u_known (C := fg_cl[c].1) (T := fg_cl[c].2.1) (N := fg_cl[c].2.2) (n := fg_cl[c].2.2) hts (fun w hw => (List.mem_filter.mp ((fg_cls (ci := c) (C := fg_cl[c].1) (T := fg_cl[c].2.1) (N := fg_cl[c].2.2) (List.getElem?_eq_getElem hlt)).1 w hw)).1) (hts _ (by
      have := lw_l3.2.2.2.2 c hc
      rw [List.getD_eq_getElem?_getD, List.getElem?_eq_getElem hlt] at this
      exact this))
    refine ⟨(cC, iS), fun C T N hq => ?_⟩
    rw [List.getElem?_eq_getElem hlt] at hq
    have e := Option.some.inj hq
    rw [e] at h
    exact h
  · refine ⟨(0, fun _ => 0), fun C T N hq => ?_⟩
    rw [List.getElem?_eq_none (by show 8 ≤ c; omega)] at hq
    cases hq
/-- the arrays' classes -/
theorem lw_arr (hts : ∀ w ∈ lw_tbl, w.before args s = true) (k : Nat) : ∃ cA : ClassId, k < 7 → ArrOfT s cA (fg_aty k) ∧ va_RA s cA (fg_aty k) := by
  by_cases hk : k < 7
  · by_cases hk3 : k < 3
    · obtain ⟨c, kA, comp, h1, h2, h3⟩ := Cond.arrayClass_spec (hts _ (lw_l3.2.2.2.1 k hk3))
      refine ⟨c, fun _ => ⟨fun N z => ⟨(fun k h => by cases h), kA, h2, comp, h3⟩, ?_⟩⟩
      rcases (show k = 0 ∨ k = 1 ∨ k = 2 by omega) with rfl | rfl | rfl <;> exact h1
    · obtain ⟨C, hC, hin⟩ : ∃ C, fg_aty k = .object C ∧ C ∈ [RX4, RX5, RX2, RX6] := by
        rcases (show k = 3 ∨ k = 4 ∨ k = 5 ∨ k = 6 by omega) with rfl | rfl | rfl | rfl
        · exact ⟨RX4, rfl, by decide⟩
        · exact ⟨RX5, rfl, by decide⟩
        · exact ⟨RX2, rfl, by decide⟩
        · exact ⟨RX6, rfl, by decide⟩
      obtain ⟨comp, c, kA, h1, -, h2, h3, h4⟩ := Cond.arrayOver_spec (hts _ (lw_l3.2.1 C hin))
      rw [hC]
      exact ⟨c, fun _ => ⟨fun N z => ⟨(fun k h => by cases h), kA, h2, comp, h3⟩, kA, comp, h2, h3, h1, h4⟩⟩
  · exact ⟨0, fun h => absurd h hk⟩
end LWE
