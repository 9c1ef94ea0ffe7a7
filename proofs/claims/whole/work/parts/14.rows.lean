theorem fg_ix {i j w sz n : Nat} (hi : i < sz) (hj : j < w) (h : sz * w ≤ n) : i * w + j < n := by
  have h1 : (i + 1) * w ≤ sz * w := Nat.mul_le_mul_right w hi
  rw [Nat.add_mul, Nat.one_mul] at h1
  omega
theorem fg_pcAll : ∀ s, s < 4096 → True := fun _ _ => trivial
def fg_bcx (x : Int32) : Int32 := ((((((((x - ((((x).toUInt32 >>> (((nI 1)).toUInt32 &&& Int32.toUInt32 31)).toInt32) &&& (1431655765 : Int32))) &&& (858993459 : Int32)) + (((((x - ((((x).toUInt32 >>> (((nI 1)).toUInt32 &&& Int32.toUInt32 31)).toInt32) &&& (1431655765 : Int32)))).toUInt32 >>> (((nI 2)).toUInt32 &&& Int32.toUInt32 31)).toInt32) &&& (858993459 : Int32))) + ((((((x - ((((x).toUInt32 >>> (((nI 1)).toUInt32 &&& Int32.toUInt32 31)).toInt32) &&& (1431655765 : Int32))) &&& (858993459 : Int32)) + (((((x - ((((x).toUInt32 >>> (((nI 1)).toUInt32 &&& Int32.toUInt32 31)).toInt32) &&& (1431655765 : Int32)))).toUInt32 >>> (((nI 2)).toUInt32 &&& Int32.toUInt32 31)).toInt32) &&& (858993459 : Int32)))).toUInt32 >>> (((nI 4)).toUInt32 &&& Int32.toUInt32 31)).toInt32)) &&& (252645135 : Int32)) + ((((((((x - ((((x).toUInt32 >>> (((nI 1)).toUInt32 &&& Int32.toUInt32 31)).toInt32) &&& (1431655765 : Int32))) &&& (858993459 : Int32)) + (((((x - ((((x).toUInt32 >>> (((nI 1)).toUInt32 &&& Int32.toUInt32 31)).toInt32) &&& (1431655765 : Int32)))).toUInt32 >>> (((nI 2)).toUInt32 &&& Int32.toUInt32 31)).toInt32) &&& (858993459 : Int32))) + ((((((x - ((((x).toUInt32 >>> (((nI 1)).toUInt32 &&& Int32.toUInt32 31)).toInt32) &&& (1431655765 : Int32))) &&& (858993459 : Int32)) + (((((x - ((((x).toUInt32 >>> (((nI 1)).toUInt32 &&& Int32.toUInt32 31)).toInt32) &&& (1431655765 : Int32)))).toUInt32 >>> (((nI 2)).toUInt32 &&& Int32.toUInt32 31)).toInt32) &&& (858993459 : Int32)))).toUInt32 >>> (((nI 4)).toUInt32 &&& Int32.toUInt32 31)).toInt32)) &&& (252645135 : Int32))).toUInt32 >>> (((nI 8)).toUInt32 &&& Int32.toUInt32 31)).toInt32)) + (((((((((x - ((((x).toUInt32 >>> (((nI 1)).toUInt32 &&& Int32.toUInt32 31)).toInt32) &&& (1431655765 : Int32))) &&& (858993459 : Int32)) + (((((x - ((((x).toUInt32 >>> (((nI 1)).toUInt32 &&& Int32.toUInt32 31)).toInt32) &&& (1431655765 : Int32)))).toUInt32 >>> (((nI 2)).toUInt32 &&& Int32.toUInt32 31)).toInt32) &&& (858993459 : Int32))) + ((((((x - ((((x).toUInt32 >>> (((nI 1)).toUInt32 &&& Int32.toUInt32 31)).toInt32) &&& (1431655765 : Int32))) &&& (858993459 : Int32)) + (((((x - ((((x).toUInt32 >>> (((nI 1)).toUInt32 &&& Int32.toUInt32 31)).toInt32) &&& (1431655765 : Int32)))).toUInt32 >>> (((nI 2)).toUInt32 &&& Int32.toUInt32 31)).toInt32) &&& (858993459 : Int32)))).toUInt32 >>> (((nI 4)).toUInt32 &&& Int32.toUInt32 31)).toInt32)) &&& (252645135 : Int32)) + ((((((((x - ((((x).toUInt32 >>> (((nI 1)).toUInt32 &&& Int32.toUInt32 31)).toInt32) &&& (1431655765 : Int32))) &&& (858993459 : Int32)) + (((((x - ((((x).toUInt32 >>> (((nI 1)).toUInt32 &&& Int32.toUInt32 31)).toInt32) &&& (1431655765 : Int32)))).toUInt32 >>> (((nI 2)).toUInt32 &&& Int32.toUInt32 31)).toInt32) &&& (858993459 : Int32))) + ((((((x - ((((x).toUInt32 >>> (((nI 1)).toUInt32 &&& Int32.toUInt32 31)).toInt32) &&& (1431655765 : Int32))) &&& (858993459 : Int32)) + (((((x - ((((x).toUInt32 >>> (((nI 1)).toUInt32 &&& Int32.toUInt32 31)).toInt32) &&& (1431655765 : Int32)))).toUInt32 >>> (((nI 2)).toUInt32 &&& Int32.toUInt32 31)).toInt32) &&& (858993459 : Int32)))).toUInt32 >>> (((nI 4)).toUInt32 &&& Int32.toUInt32 31)).toInt32)) &&& (252645135 : Int32))).toUInt32 >>> (((nI 8)).toUInt32 &&& Int32.toUInt32 31)).toInt32))).toUInt32 >>> (((nI 16)).toUInt32 &&& Int32.toUInt32 31)).toInt32)) &&& (nI 63))
theorem fg_bcx_o2 : ∀ a, a < 64 → ∀ b, b < 64 → fg_bcx (nI (64 * a + b)) = nI (fg_pc (64 * a + b)) := by decide +kernel
theorem fg_bcx_ok (s : Nat) (h : s < 4096) : fg_bcx (nI s) = nI (fg_pc s) := by
  have h1 := fg_bcx_o2 (s / 64) (by omega) (s % 64) (by omega)
  rw [show 64 * (s / 64) + s % 64 = s by omega] at h1
  exact h1
theorem ev_Int_bitCount {E : fg_E} {d s : Nat} {M : fg_M} {Q : Option Value → fg_M → Prop} (hs : s < 4096) (hQ : Q (some (.int (nI (fg_pc s)))) M) : fg_Ev E yy_Int_bitCount (d + 1) [.int (nI s)] M M.2.2 Q := by
  rw [← fg_bcx_ok s hs] at hQ
  refine fg_intro (by decide +kernel) (Nat.le_of_ble_eq_true rfl) (fg_okAs rfl) (Nat.le_refl _) ?_
  refine fg_iloadn (fg_ft (pc := 0) tb_Int_bitCount 0 rfl) rfl ?_
  refine fg_iloadn (fg_ft (pc := 1) tb_Int_bitCount 1 rfl) rfl ?_
  refine fg_iconst (fg_ft (pc := 2) tb_Int_bitCount 2 rfl) ic_1 ?_
  refine fg_iushr (fg_ft (pc := 3) tb_Int_bitCount 3 rfl) ?_
  refine fg_ldcw (fg_ft (pc := 4) tb_Int_bitCount 4 rfl) fd_Int_265 ?_
  refine fg_iand (fg_ft (pc := 7) tb_Int_bitCount 5 rfl) ?_
  refine fg_isub (fg_ft (pc := 8) tb_Int_bitCount 6 rfl) ?_
  refine fg_istoren (fg_ft (pc := 9) tb_Int_bitCount 7 rfl) (Nat.le_of_ble_eq_true rfl) ?_
  refine fg_iloadn (fg_ft (pc := 10) tb_Int_bitCount 8 rfl) rfl ?_
  refine fg_ldcw (fg_ft (pc := 11) tb_Int_bitCount 9 rfl) fd_Int_266 ?_
  refine fg_iand (fg_ft (pc := 14) tb_Int_bitCount 10 rfl) ?_
  refine fg_iloadn (fg_ft (pc := 15) tb_Int_bitCount 11 rfl) rfl ?_
  refine fg_iconst (fg_ft (pc := 16) tb_Int_bitCount 12 rfl) ic_2 ?_
  refine fg_iushr (fg_ft (pc := 17) tb_Int_bitCount 13 rfl) ?_
  refine fg_ldcw (fg_ft (pc := 18) tb_Int_bitCount 14 rfl) fd_Int_266 ?_
  refine fg_iand (fg_ft (pc := 21) tb_Int_bitCount 15 rfl) ?_
  refine fg_iadd (fg_ft (pc := 22) tb_Int_bitCount 16 rfl) ?_
  refine fg_istoren (fg_ft (pc := 23) tb_Int_bitCount 17 rfl) (Nat.le_of_ble_eq_true rfl) ?_
  refine fg_iloadn (fg_ft (pc := 24) tb_Int_bitCount 18 rfl) rfl ?_
  refine fg_iloadn (fg_ft (pc := 25) tb_Int_bitCount 19 rfl) rfl ?_
  refine fg_iconst (fg_ft (pc := 26) tb_Int_bitCount 20 rfl) ic_4 ?_
  refine fg_iushr (fg_ft (pc := 27) tb_Int_bitCount 21 rfl) ?_
  refine fg_iadd (fg_ft (pc := 28) tb_Int_bitCount 22 rfl) ?_
  refine fg_ldcw (fg_ft (pc := 29) tb_Int_bitCount 23 rfl) fd_Int_267 ?_
  refine fg_iand (fg_ft (pc := 32) tb_Int_bitCount 24 rfl) ?_
  refine fg_istoren (fg_ft (pc := 33) tb_Int_bitCount 25 rfl) (Nat.le_of_ble_eq_true rfl) ?_
  refine fg_iloadn (fg_ft (pc := 34) tb_Int_bitCount 26 rfl) rfl ?_
  refine fg_iloadn (fg_ft (pc := 35) tb_Int_bitCount 27 rfl) rfl ?_
  refine fg_bipush (fg_ft (pc := 36) tb_Int_bitCount 28 rfl) ib_8 ?_
  refine fg_iushr (fg_ft (pc := 38) tb_Int_bitCount 29 rfl) ?_
  refine fg_iadd (fg_ft (pc := 39) tb_Int_bitCount 30 rfl) ?_
  refine fg_istoren (fg_ft (pc := 40) tb_Int_bitCount 31 rfl) (Nat.le_of_ble_eq_true rfl) ?_
  refine fg_iloadn (fg_ft (pc := 41) tb_Int_bitCount 32 rfl) rfl ?_
  refine fg_iloadn (fg_ft (pc := 42) tb_Int_bitCount 33 rfl) rfl ?_
  refine fg_bipush (fg_ft (pc := 43) tb_Int_bitCount 34 rfl) ib_16 ?_
  refine fg_iushr (fg_ft (pc := 45) tb_Int_bitCount 35 rfl) ?_
  refine fg_iadd (fg_ft (pc := 46) tb_Int_bitCount 36 rfl) ?_
  refine fg_istoren (fg_ft (pc := 47) tb_Int_bitCount 37 rfl) (Nat.le_of_ble_eq_true rfl) ?_
  refine fg_iloadn (fg_ft (pc := 48) tb_Int_bitCount 38 rfl) rfl ?_
  refine fg_bipush (fg_ft (pc := 49) tb_Int_bitCount 39 rfl) ib_63 ?_
  refine fg_iand (fg_ft (pc := 51) tb_Int_bitCount 40 rfl) ?_
  exact fg_iret (fg_ft (pc := 52) tb_Int_bitCount 41 rfl) rfl rfl (hQ)
section FGMM
variable {E : fg_E} {Y : fg_Y} {d n0 n1 : Nat} {Q : Option Value → fg_M → Prop} {pc : Nat} {L st : List Value} {M : fg_M}
theorem fg_mmin {index : Nat} {x y : Int32} (hd : decode Y.2.1 pc = .ok (.invokestatic index, 3)) (hf : fg_cS Y.1.cls index yy_Math_min 2) (hst : ((st.map (fg_tv E)).map fun v => v.category).sum ≤ 8) (k : fg_wp E Y (d + 1) n0 n1 Q (pc + 3) L (.int (if y < x then y else x) :: st) M) : fg_wp E Y (d + 1) n0 n1 Q pc L (.int y :: .int x :: st) M := by
  intro p e s m args below meth c C H locs ls hH hS h0 h1 hl hz
  obtain ⟨hx, hb, hret, hlk, hml, hown, hts, hU, hK, hbs, h100, hnm⟩ := id C
  obtain ⟨⟨w1, w2, -, -⟩, w3, w4⟩ := hf
  have hm0 : fg_SL M.2.2 ≤ fg_SL n1 := fg_SL_mono h1
  exact va_mmin hx hb (by rw [hl.1.1, hz, hml]) hown (hts _ (fg_in w3)) (hts _ (fg_in w4)) (hts _ (fg_in w2)) (hts _ (fg_in w1)) (by show 1 ≤ d + 1; omega) (by show _ ≤ 60 * (d + 1); omega) (by show M.2.2 - n0 ≤ n1 - n0; omega) (by show fg_SL M.2.2 - fg_SL n0 ≤ fg_SL n1 - fg_SL n0; omega) hd (k p e s m args below meth c C H locs ls hH hS h0 h1 hl hz)
theorem fg_mmax {index : Nat} {x y : Int32} (hd : decode Y.2.1 pc = .ok (.invokestatic index, 3)) (hf : fg_cS Y.1.cls index yy_Math_max 2) (hst : ((st.map (fg_tv E)).map fun v => v.category).sum ≤ 8) (k : fg_wp E Y (d + 1) n0 n1 Q (pc + 3) L (.int (if x < y then y else x) :: st) M) : fg_wp E Y (d + 1) n0 n1 Q pc L (.int y :: .int x :: st) M := by
  intro p e s m args below meth c C H locs ls hH hS h0 h1 hl hz
  obtain ⟨hx, hb, hret, hlk, hml, hown, hts, hU, hK, hbs, h100, hnm⟩ := id C
  obtain ⟨⟨w1, w2, -, -⟩, w3, w4⟩ := hf
  have hm0 : fg_SL M.2.2 ≤ fg_SL n1 := fg_SL_mono h1
  exact va_mmax hx hb (by rw [hl.1.1, hz, hml]) hown (hts _ (fg_in w3)) (hts _ (fg_in w4)) (hts _ (fg_in w2)) (hts _ (fg_in w1)) (by show 1 ≤ d + 1; omega) (by show _ ≤ 60 * (d + 1); omega) (by show M.2.2 - n0 ≤ n1 - n0; omega) (by show fg_SL M.2.2 - fg_SL n0 ≤ fg_SL n1 - fg_SL n0; omega) hd (k p e s m args below meth c C H locs ls hH hS h0 h1 hl hz)
theorem fg_mminN {index a b : Nat} (hd : decode Y.2.1 pc = .ok (.invokestatic index, 3)) (hf : fg_cS Y.1.cls index yy_Math_min 2) (hst : ((st.map (fg_tv E)).map fun v => v.category).sum ≤ 8) (ha : a < 2 ^ 31) (hb : b < 2 ^ 31) (k : fg_wp E Y (d + 1) n0 n1 Q (pc + 3) L (.int (nI (min a b)) :: st) M) : fg_wp E Y (d + 1) n0 n1 Q pc L (.int (nI b) :: .int (nI a) :: st) M := by
  refine fg_mmin hd hf hst ?_
  have h : (if nI b < nI a then nI b else nI a) = nI (min a b) := by
    by_cases h2 : nI b < nI a
    · have := (nI_ltI hb ha).mp h2
      rw [if_pos h2, Nat.min_eq_right (by omega)]
    · rw [if_neg h2]
      have : ¬ b < a := fun h => h2 ((nI_ltI hb ha).mpr h)
      rw [Nat.min_eq_left (by omega)]
  rw [h]
  exact k
theorem fg_mmaxN {index a b : Nat} (hd : decode Y.2.1 pc = .ok (.invokestatic index, 3)) (hf : fg_cS Y.1.cls index yy_Math_max 2) (hst : ((st.map (fg_tv E)).map fun v => v.category).sum ≤ 8) (ha : a < 2 ^ 31) (hb : b < 2 ^ 31) (k : fg_wp E Y (d + 1) n0 n1 Q (pc + 3) L (.int (nI (max a b)) :: st) M) : fg_wp E Y (d + 1) n0 n1 Q pc L (.int (nI b) :: .int (nI a) :: st) M := by
  refine fg_mmax hd hf hst ?_
  have h : (if nI a < nI b then nI b else nI a) = nI (max a b) := by
    by_cases h2 : nI a < nI b
    · have := (nI_ltI ha hb).mp h2
      rw [if_pos h2, Nat.max_eq_right (by omega)]
    · rw [if_neg h2]
      have : ¬ a < b := fun h => h2 ((nI_ltI ha hb).mpr h)
      rw [Nat.max_eq_left (by omega)]
  rw [h]
  exact k
end FGMM
theorem ev_Rows_cell {E : fg_E} {d : Nat} {μ : Nat → Nat → Int32} {R : fg_T4} {Q : Option Value → fg_M → Prop} {r c n w sz : Nat} (hr : fg_rows R r c n) (hw : μ r 0 = nI w) (hs : μ r 2 = nI sz) (hf : sz * w ≤ n) (hwl : w < 2 ^ 31) (hz : sz < 2 ^ 31) {i j : Nat} {v : Int32} (hi : i < sz) (hj : j < w) (hv : μ c (i * w + j) = v) (hQ : Q (some (.int v)) (μ, fg_rho R, 304)) : fg_Ev E yy_Rows_cell (d + 1) [.ref r, .int (nI i), .int (nI j)] (μ, fg_rho R, 304) 304 Q := by
  have hil : i < 2 ^ 31 := by omega
  have hjl : j < 2 ^ 31 := by omega
  refine fg_intro (by decide +kernel) (Nat.le_of_ble_eq_true rfl) (fg_okAs rfl) (Nat.le_refl _) ?_
  refine fg_iloadn (fg_ft (pc := 0) tb_Rows_cell 0 rfl) rfl ?_
  refine fg_if_ltN (tgt := 28) (fg_ft (pc := 1) tb_Rows_cell 1 rfl) (by decide) (hil) ?_
  refine fg_iloadn (fg_ft (pc := 4) tb_Rows_cell 2 rfl) rfl ?_
  refine fg_aloadn (fg_ft (pc := 5) tb_Rows_cell 3 rfl) rfl ?_
  refine fg_getV (v := (nI sz)) (fg_ft (pc := 6) tb_Rows_cell 4 rfl) ff_Rows_25 hr.1 rfl (fg_lt (hr.1) (by decide)) hs ?_
  refine fg_icmp_geN (tgt := 28) (fg_ft (pc := 9) tb_Rows_cell 5 rfl) (by decide) (hil) (hz) (fun c9 => (absurd hi (by omega))) (fun c9 => ?_)
  refine fg_iloadn (fg_ft (pc := 12) tb_Rows_cell 6 rfl) rfl ?_
  refine fg_if_ltN (tgt := 28) (fg_ft (pc := 13) tb_Rows_cell 7 rfl) (by decide) (hjl) ?_
  refine fg_iloadn (fg_ft (pc := 16) tb_Rows_cell 8 rfl) rfl ?_
  refine fg_aloadn (fg_ft (pc := 17) tb_Rows_cell 9 rfl) rfl ?_
  refine fg_getV (v := (nI w)) (fg_ft (pc := 18) tb_Rows_cell 10 rfl) ff_Rows_9 hr.1 rfl (fg_lt (hr.1) (by decide)) hw ?_
  refine fg_icmp_geN (tgt := 28) (fg_ft (pc := 21) tb_Rows_cell 11 rfl) (by decide) (hjl) (hwl) (fun c21 => (absurd hj (by omega))) (fun c21 => ?_)
  refine fg_iconst (fg_ft (pc := 24) tb_Rows_cell 12 rfl) ic_1 ?_
  refine fg_goto (tgt := 29) (fg_ft (pc := 25) tb_Rows_cell 13 rfl) (by decide) ?_
  refine fg_istoren (fg_ft (pc := 29) tb_Rows_cell 15 rfl) (Nat.le_of_ble_eq_true rfl) ?_
  refine fg_iloadn (fg_ft (pc := 30) tb_Rows_cell 16 rfl) rfl ?_
  refine fg_if_eq (tgt := 50) (fg_ft (pc := 31) tb_Rows_cell 17 rfl) (by decide) (fun h => absurd h (by decide)) (fun _ => ?_)
  refine fg_aloadn (fg_ft (pc := 34) tb_Rows_cell 18 rfl) rfl ?_
  refine fg_getR (fg_ft (pc := 35) tb_Rows_cell 19 rfl) ff_Rows_21 hr.1 rfl (fg_lt (hr.1) (by decide)) hr.2.1 ?_
  refine fg_iloadn (fg_ft (pc := 38) tb_Rows_cell 20 rfl) rfl ?_
  refine fg_aloadn (fg_ft (pc := 39) tb_Rows_cell 21 rfl) rfl ?_
  refine fg_getV (v := (nI w)) (fg_ft (pc := 40) tb_Rows_cell 22 rfl) ff_Rows_9 hr.1 rfl (fg_lt (hr.1) (by decide)) hw ?_
  refine fg_imulN (fg_ft (pc := 43) tb_Rows_cell 23 rfl) ?_
  refine fg_iloadn (fg_ft (pc := 44) tb_Rows_cell 24 rfl) rfl ?_
  refine fg_iaddN (fg_ft (pc := 45) tb_Rows_cell 25 rfl) ?_
  refine fg_ialdV (v := v) (fg_ft (pc := 46) tb_Rows_cell 26 rfl) hr.2.2 (fg_lt (hr.2.2) (by decide)) (fg_ix hi hj hf) hv ?_
  refine fg_goto (tgt := 51) (fg_ft (pc := 47) tb_Rows_cell 27 rfl) (by decide) ?_
  exact fg_iret (fg_ft (pc := 51) tb_Rows_cell 29 rfl) rfl rfl (hQ)
theorem ev_Rows_cellOut {E : fg_E} {d : Nat} {μ : Nat → Nat → Int32} {R : fg_T4} {Q : Option Value → fg_M → Prop} {r c n w sz : Nat} (hr : fg_rows R r c n) (hw : μ r 0 = nI w) (hs : μ r 2 = nI sz) (hf : sz * w ≤ n) (hwl : w < 2 ^ 31) (hz : sz < 2 ^ 31) {x y : Int32} (hout : ¬ (¬ x < 0 ∧ ¬ nI sz ≤ x ∧ ¬ y < 0 ∧ ¬ nI w ≤ y)) (hQ : Q (some (.int (-1))) (μ, fg_rho R, 304)) : fg_Ev E yy_Rows_cell (d + 1) [.ref r, .int x, .int y] (μ, fg_rho R, 304) 304 Q := by
  refine fg_intro (by decide +kernel) (Nat.le_of_ble_eq_true rfl) (fg_okAs rfl) (Nat.le_refl _) ?_
  refine fg_iloadn (fg_ft (pc := 0) tb_Rows_cell 0 rfl) rfl ?_
  refine fg_if_lt (tgt := 28) (fg_ft (pc := 1) tb_Rows_cell 1 rfl) (by decide) (fun c1 => ?_) (fun c1 => ?_)
  · refine fg_iconst (fg_ft (pc := 28) tb_Rows_cell 14 rfl) ic_0 ?_
    refine fg_istoren (fg_ft (pc := 29) tb_Rows_cell 15 rfl) (Nat.le_of_ble_eq_true rfl) ?_
    refine fg_iloadn (fg_ft (pc := 30) tb_Rows_cell 16 rfl) rfl ?_
    refine fg_if_eq (tgt := 50) (fg_ft (pc := 31) tb_Rows_cell 17 rfl) (by decide) (fun _ => ?_) (fun h => absurd h (by decide))
    refine fg_iconst (fg_ft (pc := 50) tb_Rows_cell 28 rfl) ic_m1 ?_
    exact fg_iret (fg_ft (pc := 51) tb_Rows_cell 29 rfl) rfl rfl (hQ)
  · refine fg_iloadn (fg_ft (pc := 4) tb_Rows_cell 2 rfl) rfl ?_
    refine fg_aloadn (fg_ft (pc := 5) tb_Rows_cell 3 rfl) rfl ?_
    refine fg_getV (v := (nI sz)) (fg_ft (pc := 6) tb_Rows_cell 4 rfl) ff_Rows_25 hr.1 rfl (fg_lt (hr.1) (by decide)) hs ?_
    refine fg_icmp_ge (tgt := 28) (fg_ft (pc := 9) tb_Rows_cell 5 rfl) (by decide) (fun c9 => ?_) (fun c9 => ?_)
    · refine fg_iconst (fg_ft (pc := 28) tb_Rows_cell 14 rfl) ic_0 ?_
      refine fg_istoren (fg_ft (pc := 29) tb_Rows_cell 15 rfl) (Nat.le_of_ble_eq_true rfl) ?_
      refine fg_iloadn (fg_ft (pc := 30) tb_Rows_cell 16 rfl) rfl ?_
      refine fg_if_eq (tgt := 50) (fg_ft (pc := 31) tb_Rows_cell 17 rfl) (by decide) (fun _ => ?_) (fun h => absurd h (by decide))
      refine fg_iconst (fg_ft (pc := 50) tb_Rows_cell 28 rfl) ic_m1 ?_
      exact fg_iret (fg_ft (pc := 51) tb_Rows_cell 29 rfl) rfl rfl (hQ)
    · refine fg_iloadn (fg_ft (pc := 12) tb_Rows_cell 6 rfl) rfl ?_
      refine fg_if_lt (tgt := 28) (fg_ft (pc := 13) tb_Rows_cell 7 rfl) (by decide) (fun c13 => ?_) (fun c13 => ?_)
      · refine fg_iconst (fg_ft (pc := 28) tb_Rows_cell 14 rfl) ic_0 ?_
        refine fg_istoren (fg_ft (pc := 29) tb_Rows_cell 15 rfl) (Nat.le_of_ble_eq_true rfl) ?_
        refine fg_iloadn (fg_ft (pc := 30) tb_Rows_cell 16 rfl) rfl ?_
        refine fg_if_eq (tgt := 50) (fg_ft (pc := 31) tb_Rows_cell 17 rfl) (by decide) (fun _ => ?_) (fun h => absurd h (by decide))
        refine fg_iconst (fg_ft (pc := 50) tb_Rows_cell 28 rfl) ic_m1 ?_
        exact fg_iret (fg_ft (pc := 51) tb_Rows_cell 29 rfl) rfl rfl (hQ)
      · refine fg_iloadn (fg_ft (pc := 16) tb_Rows_cell 8 rfl) rfl ?_
        refine fg_aloadn (fg_ft (pc := 17) tb_Rows_cell 9 rfl) rfl ?_
        refine fg_getV (v := (nI w)) (fg_ft (pc := 18) tb_Rows_cell 10 rfl) ff_Rows_9 hr.1 rfl (fg_lt (hr.1) (by decide)) hw ?_
        refine fg_icmp_ge (tgt := 28) (fg_ft (pc := 21) tb_Rows_cell 11 rfl) (by decide) (fun c21 => ?_) (fun c21 => ?_)
        · refine fg_iconst (fg_ft (pc := 28) tb_Rows_cell 14 rfl) ic_0 ?_
          refine fg_istoren (fg_ft (pc := 29) tb_Rows_cell 15 rfl) (Nat.le_of_ble_eq_true rfl) ?_
          refine fg_iloadn (fg_ft (pc := 30) tb_Rows_cell 16 rfl) rfl ?_
          refine fg_if_eq (tgt := 50) (fg_ft (pc := 31) tb_Rows_cell 17 rfl) (by decide) (fun _ => ?_) (fun h => absurd h (by decide))
          refine fg_iconst (fg_ft (pc := 50) tb_Rows_cell 28 rfl) ic_m1 ?_
          exact fg_iret (fg_ft (pc := 51) tb_Rows_cell 29 rfl) rfl rfl (hQ)
        · refine fg_iconst (fg_ft (pc := 24) tb_Rows_cell 12 rfl) ic_1 ?_
          refine fg_goto (tgt := 29) (fg_ft (pc := 25) tb_Rows_cell 13 rfl) (by decide) ?_
          refine fg_istoren (fg_ft (pc := 29) tb_Rows_cell 15 rfl) (Nat.le_of_ble_eq_true rfl) ?_
          refine fg_iloadn (fg_ft (pc := 30) tb_Rows_cell 16 rfl) rfl ?_
          refine fg_if_eq (tgt := 50) (fg_ft (pc := 31) tb_Rows_cell 17 rfl) (by decide) (fun h => absurd h (by decide)) (fun _ => ?_)
          exact absurd ⟨c1, c9, c13, c21⟩ hout
theorem ev_Rows_has {E : fg_E} {d : Nat} {μ : Nat → Nat → Int32} {R : fg_T4} {Q : Option Value → fg_M → Prop} {r c n w sz : Nat} (hr : fg_rows R r c n) (hw : μ r 0 = nI w) (hs : μ r 2 = nI sz) (hf : sz * w ≤ n) (hwl : w < 2 ^ 31) (hz : sz < 2 ^ 31) {x y : Int32} (hQ : Q (some (.int (fg_bI (¬ x < 0 ∧ ¬ nI sz ≤ x ∧ ¬ y < 0 ∧ ¬ nI w ≤ y)))) (μ, fg_rho R, 304)) : fg_Ev E yy_Rows_has (d + 1) [.ref r, .int x, .int y] (μ, fg_rho R, 304) 304 Q := by
  refine fg_intro (by decide +kernel) (Nat.le_of_ble_eq_true rfl) (fg_okAs rfl) (Nat.le_refl _) ?_
  refine fg_iloadn (fg_ft (pc := 0) tb_Rows_has 0 rfl) rfl ?_
  refine fg_if_lt (tgt := 28) (fg_ft (pc := 1) tb_Rows_has 1 rfl) (by decide) (fun c1 => ?_) (fun c1 => ?_)
  · refine fg_iconst (fg_ft (pc := 28) tb_Rows_has 14 rfl) ic_0 ?_
    exact fg_zret (fg_ft (pc := 29) tb_Rows_has 15 rfl) rfl (by decide) rfl (by rw [fg_bF (fun hh => by first | exact hh.1 c1 | exact hh.2.1 c9 | exact hh.2.2.1 c13 | exact hh.2.2.2 c21)] at hQ; exact hQ)
  · refine fg_iloadn (fg_ft (pc := 4) tb_Rows_has 2 rfl) rfl ?_
    refine fg_aloadn (fg_ft (pc := 5) tb_Rows_has 3 rfl) rfl ?_
    refine fg_getV (v := (nI sz)) (fg_ft (pc := 6) tb_Rows_has 4 rfl) ff_Rows_25 hr.1 rfl (fg_lt (hr.1) (by decide)) hs ?_
    refine fg_icmp_ge (tgt := 28) (fg_ft (pc := 9) tb_Rows_has 5 rfl) (by decide) (fun c9 => ?_) (fun c9 => ?_)
    · refine fg_iconst (fg_ft (pc := 28) tb_Rows_has 14 rfl) ic_0 ?_
      exact fg_zret (fg_ft (pc := 29) tb_Rows_has 15 rfl) rfl (by decide) rfl (by rw [fg_bF (fun hh => by first | exact hh.1 c1 | exact hh.2.1 c9 | exact hh.2.2.1 c13 | exact hh.2.2.2 c21)] at hQ; exact hQ)
    · refine fg_iloadn (fg_ft (pc := 12) tb_Rows_has 6 rfl) rfl ?_
      refine fg_if_lt (tgt := 28) (fg_ft (pc := 13) tb_Rows_has 7 rfl) (by decide) (fun c13 => ?_) (fun c13 => ?_)
      · refine fg_iconst (fg_ft (pc := 28) tb_Rows_has 14 rfl) ic_0 ?_
        exact fg_zret (fg_ft (pc := 29) tb_Rows_has 15 rfl) rfl (by decide) rfl (by rw [fg_bF (fun hh => by first | exact hh.1 c1 | exact hh.2.1 c9 | exact hh.2.2.1 c13 | exact hh.2.2.2 c21)] at hQ; exact hQ)
      · refine fg_iloadn (fg_ft (pc := 16) tb_Rows_has 8 rfl) rfl ?_
        refine fg_aloadn (fg_ft (pc := 17) tb_Rows_has 9 rfl) rfl ?_
        refine fg_getV (v := (nI w)) (fg_ft (pc := 18) tb_Rows_has 10 rfl) ff_Rows_9 hr.1 rfl (fg_lt (hr.1) (by decide)) hw ?_
        refine fg_icmp_ge (tgt := 28) (fg_ft (pc := 21) tb_Rows_has 11 rfl) (by decide) (fun c21 => ?_) (fun c21 => ?_)
        · refine fg_iconst (fg_ft (pc := 28) tb_Rows_has 14 rfl) ic_0 ?_
          exact fg_zret (fg_ft (pc := 29) tb_Rows_has 15 rfl) rfl (by decide) rfl (by rw [fg_bF (fun hh => by first | exact hh.1 c1 | exact hh.2.1 c9 | exact hh.2.2.1 c13 | exact hh.2.2.2 c21)] at hQ; exact hQ)
        · refine fg_iconst (fg_ft (pc := 24) tb_Rows_has 12 rfl) ic_1 ?_
          refine fg_goto (tgt := 29) (fg_ft (pc := 25) tb_Rows_has 13 rfl) (by decide) ?_
          exact fg_zret (fg_ft (pc := 29) tb_Rows_has 15 rfl) rfl (by decide) rfl (by rw [fg_bT ⟨c1, c9, c13, c21⟩] at hQ; exact hQ)
theorem fg_inN {x : Int32} {n : Nat} (hn : n < 2 ^ 31) : (¬ x < 0 ∧ ¬ nI n ≤ x) ↔ ∃ k : Nat, k < n ∧ x = nI k := by
  constructor
  · intro h
    obtain ⟨k, hk, rfl⟩ := nI_of h.1
    refine ⟨k, ?_, rfl⟩
    rcases Nat.lt_or_ge k n with q | q
    · exact q
    · exact absurd (nI_le q hk) h.2
  · rintro ⟨k, hk, rfl⟩
    exact ⟨nI_pos (by omega), nI_ge hk hn⟩
theorem ev_Rows_put {E : fg_E} {d : Nat} {μ : Nat → Nat → Int32} {R : fg_T4} {Q : Option Value → fg_M → Prop} {r c n w sz : Nat} (hr : fg_rows R r c n) (hw : μ r 0 = nI w) (hs : μ r 2 = nI sz) (hf : sz * w ≤ n) (hwl : w < 2 ^ 31) (hz : sz < 2 ^ 31) {i j : Nat} {x : Int32} (hi : i < sz) (hj : j < w) (hQ : Q none (fg_u2 μ c (i * w + j) x, fg_rho R, 304)) : fg_Ev E yy_Rows_put (d + 2) [.ref r, .int (nI i), .int (nI j), .int x] (μ, fg_rho R, 304) 304 Q := by
  refine fg_intro (by decide +kernel) (Nat.le_of_ble_eq_true rfl) (fg_okAs rfl) (Nat.le_refl _) ?_
  refine fg_aloadn (fg_ft (pc := 0) tb_Rows_put 0 rfl) rfl ?_
  refine fg_iloadn (fg_ft (pc := 1) tb_Rows_put 1 rfl) rfl ?_
  refine fg_iloadn (fg_ft (pc := 2) tb_Rows_put 2 rfl) rfl ?_
  refine fg_callV (fg_ft (pc := 3) tb_Rows_put 3 rfl) cf_Rows_36 (fg_isOf hr.1 rfl (fg_lt (hr.1) (by decide))) (as := [.int (nI i), .int (nI j)]) (st := []) rfl rfl (Nat.le_of_ble_eq_true rfl) (Nat.le_refl _) (Nat.le_refl _) (ev_Rows_has hr hw hs hf hwl hz ?_)
  refine fg_ifB_eq (tgt := 23) (fg_ft (pc := 6) tb_Rows_put 4 rfl) (by decide) (fun c6 => (absurd ⟨nI_pos (by omega), nI_ge hi hz, nI_pos (by omega), nI_ge hj hwl⟩ c6)) (fun c6 => ?_)
  refine fg_aloadn (fg_ft (pc := 9) tb_Rows_put 5 rfl) rfl ?_
  refine fg_getR (fg_ft (pc := 10) tb_Rows_put 6 rfl) ff_Rows_21 hr.1 rfl (fg_lt (hr.1) (by decide)) hr.2.1 ?_
  refine fg_iloadn (fg_ft (pc := 13) tb_Rows_put 7 rfl) rfl ?_
  refine fg_aloadn (fg_ft (pc := 14) tb_Rows_put 8 rfl) rfl ?_
  refine fg_getV (v := (nI w)) (fg_ft (pc := 15) tb_Rows_put 9 rfl) ff_Rows_9 hr.1 rfl (fg_lt (hr.1) (by decide)) hw ?_
  refine fg_imulN (fg_ft (pc := 18) tb_Rows_put 10 rfl) ?_
  refine fg_iloadn (fg_ft (pc := 19) tb_Rows_put 11 rfl) rfl ?_
  refine fg_iaddN (fg_ft (pc := 20) tb_Rows_put 12 rfl) ?_
  refine fg_iloadn (fg_ft (pc := 21) tb_Rows_put 13 rfl) rfl ?_
  refine fg_iastN (fg_ft (pc := 22) tb_Rows_put 14 rfl) hr.2.2 (fg_lt (hr.2.2) (by decide)) (fg_ix hi hj hf) ?_
  show fg_wp _ _ _ _ _ _ _ _ _ (fg_u2 μ c ((i * w) + j) x, fg_rho R, 304)
  exact fg_vret (fg_ft (pc := 23) tb_Rows_put 15 rfl) rfl rfl (hQ)
theorem ev_Rows_putOut {E : fg_E} {d : Nat} {μ : Nat → Nat → Int32} {R : fg_T4} {Q : Option Value → fg_M → Prop} {r c n w sz : Nat} (hr : fg_rows R r c n) (hw : μ r 0 = nI w) (hs : μ r 2 = nI sz) (hf : sz * w ≤ n) (hwl : w < 2 ^ 31) (hz : sz < 2 ^ 31) {x y z : Int32} (hout : ¬ (¬ x < 0 ∧ ¬ nI sz ≤ x ∧ ¬ y < 0 ∧ ¬ nI w ≤ y)) (hQ : Q none (μ, fg_rho R, 304)) : fg_Ev E yy_Rows_put (d + 2) [.ref r, .int x, .int y, .int z] (μ, fg_rho R, 304) 304 Q := by
  refine fg_intro (by decide +kernel) (Nat.le_of_ble_eq_true rfl) (fg_okAs rfl) (Nat.le_refl _) ?_
  refine fg_aloadn (fg_ft (pc := 0) tb_Rows_put 0 rfl) rfl ?_
  refine fg_iloadn (fg_ft (pc := 1) tb_Rows_put 1 rfl) rfl ?_
  refine fg_iloadn (fg_ft (pc := 2) tb_Rows_put 2 rfl) rfl ?_
  refine fg_callV (fg_ft (pc := 3) tb_Rows_put 3 rfl) cf_Rows_36 (fg_isOf hr.1 rfl (fg_lt (hr.1) (by decide))) (as := [.int x, .int y]) (st := []) rfl rfl (Nat.le_of_ble_eq_true rfl) (Nat.le_refl _) (Nat.le_refl _) (ev_Rows_has hr hw hs hf hwl hz ?_)
  refine fg_ifB_eq (tgt := 23) (fg_ft (pc := 6) tb_Rows_put 4 rfl) (by decide) (fun c6 => ?_) (fun c6 => (absurd c6 hout))
  exact fg_vret (fg_ft (pc := 23) tb_Rows_put 15 rfl) rfl rfl (hQ)
theorem ev_Rows_putBit {E : fg_E} {d : Nat} {μ : Nat → Nat → Int32} {R : fg_T4} {Q : Option Value → fg_M → Prop} {r c n w sz : Nat} (hr : fg_rows R r c n) (hw : μ r 0 = nI w) (hs : μ r 2 = nI sz) (hf : sz * w ≤ n) (hwl : w < 2 ^ 31) (hz : sz < 2 ^ 31) {i j v b : Nat} (hi : i < sz) (hj : j < w) (hb : b < 32) (hv : μ c (i * w + j) = nI v) (hQ : Q none (fg_u2 μ c (i * w + j) (nI (v ||| 2 ^ b)), fg_rho R, 304)) : fg_Ev E yy_Rows_putBit (d + 2) [.ref r, .int (nI i), .int (nI j), .int (nI b)] (μ, fg_rho R, 304) 304 Q := by
  refine fg_intro (by decide +kernel) (Nat.le_of_ble_eq_true rfl) (fg_okAs rfl) (Nat.le_refl _) ?_
  refine fg_aloadn (fg_ft (pc := 0) tb_Rows_putBit 0 rfl) rfl ?_
  refine fg_iloadn (fg_ft (pc := 1) tb_Rows_putBit 1 rfl) rfl ?_
  refine fg_iloadn (fg_ft (pc := 2) tb_Rows_putBit 2 rfl) rfl ?_
  refine fg_callV (fg_ft (pc := 3) tb_Rows_putBit 3 rfl) cf_Rows_36 (fg_isOf hr.1 rfl (fg_lt (hr.1) (by decide))) (as := [.int (nI i), .int (nI j)]) (st := []) rfl rfl (Nat.le_of_ble_eq_true rfl) (Nat.le_refl _) (Nat.le_refl _) (ev_Rows_has hr hw hs hf hwl hz ?_)
  refine fg_ifB_eq (tgt := 28) (fg_ft (pc := 6) tb_Rows_putBit 4 rfl) (by decide) (fun c6 => (absurd ⟨nI_pos (by omega), nI_ge hi hz, nI_pos (by omega), nI_ge hj hwl⟩ c6)) (fun c6 => ?_)
  refine fg_aloadn (fg_ft (pc := 9) tb_Rows_putBit 5 rfl) rfl ?_
  refine fg_getR (fg_ft (pc := 10) tb_Rows_putBit 6 rfl) ff_Rows_21 hr.1 rfl (fg_lt (hr.1) (by decide)) hr.2.1 ?_
  refine fg_iloadn (fg_ft (pc := 13) tb_Rows_putBit 7 rfl) rfl ?_
  refine fg_aloadn (fg_ft (pc := 14) tb_Rows_putBit 8 rfl) rfl ?_
  refine fg_getV (v := (nI w)) (fg_ft (pc := 15) tb_Rows_putBit 9 rfl) ff_Rows_9 hr.1 rfl (fg_lt (hr.1) (by decide)) hw ?_
  refine fg_imulN (fg_ft (pc := 18) tb_Rows_putBit 10 rfl) ?_
  refine fg_iloadn (fg_ft (pc := 19) tb_Rows_putBit 11 rfl) rfl ?_
  refine fg_iaddN (fg_ft (pc := 20) tb_Rows_putBit 12 rfl) ?_
  refine fg_dup2 (fg_ft (pc := 21) tb_Rows_putBit 13 rfl) rfl rfl ?_
  refine fg_ialdV (v := (nI v)) (fg_ft (pc := 22) tb_Rows_putBit 14 rfl) hr.2.2 (fg_lt (hr.2.2) (by decide)) (fg_ix hi hj hf) hv ?_
  refine fg_iconst (fg_ft (pc := 23) tb_Rows_putBit 15 rfl) ic_1 ?_
  refine fg_iloadn (fg_ft (pc := 24) tb_Rows_putBit 16 rfl) rfl ?_
  refine fg_ishl1 (fg_ft (pc := 25) tb_Rows_putBit 17 rfl) (hb) ?_
  refine fg_iorN (fg_ft (pc := 26) tb_Rows_putBit 18 rfl) ?_
  refine fg_iastN (fg_ft (pc := 27) tb_Rows_putBit 19 rfl) hr.2.2 (fg_lt (hr.2.2) (by decide)) (fg_ix hi hj hf) ?_
  show fg_wp _ _ _ _ _ _ _ _ _ (fg_u2 μ c ((i * w) + j) (nI (v ||| (2 ^ b))), fg_rho R, 304)
  exact fg_vret (fg_ft (pc := 28) tb_Rows_putBit 20 rfl) rfl rfl (hQ)
theorem ev_Rows_putBitOut {E : fg_E} {d : Nat} {μ : Nat → Nat → Int32} {R : fg_T4} {Q : Option Value → fg_M → Prop} {r c n w sz : Nat} (hr : fg_rows R r c n) (hw : μ r 0 = nI w) (hs : μ r 2 = nI sz) (hf : sz * w ≤ n) (hwl : w < 2 ^ 31) (hz : sz < 2 ^ 31) {x y z : Int32} (hout : ¬ (¬ x < 0 ∧ ¬ nI sz ≤ x ∧ ¬ y < 0 ∧ ¬ nI w ≤ y)) (hQ : Q none (μ, fg_rho R, 304)) : fg_Ev E yy_Rows_putBit (d + 2) [.ref r, .int x, .int y, .int z] (μ, fg_rho R, 304) 304 Q := by
  refine fg_intro (by decide +kernel) (Nat.le_of_ble_eq_true rfl) (fg_okAs rfl) (Nat.le_refl _) ?_
  refine fg_aloadn (fg_ft (pc := 0) tb_Rows_putBit 0 rfl) rfl ?_
  refine fg_iloadn (fg_ft (pc := 1) tb_Rows_putBit 1 rfl) rfl ?_
  refine fg_iloadn (fg_ft (pc := 2) tb_Rows_putBit 2 rfl) rfl ?_
  refine fg_callV (fg_ft (pc := 3) tb_Rows_putBit 3 rfl) cf_Rows_36 (fg_isOf hr.1 rfl (fg_lt (hr.1) (by decide))) (as := [.int x, .int y]) (st := []) rfl rfl (Nat.le_of_ble_eq_true rfl) (Nat.le_refl _) (Nat.le_refl _) (ev_Rows_has hr hw hs hf hwl hz ?_)
  refine fg_ifB_eq (tgt := 28) (fg_ft (pc := 6) tb_Rows_putBit 4 rfl) (by decide) (fun c6 => ?_) (fun c6 => (absurd c6 hout))
  exact fg_vret (fg_ft (pc := 28) tb_Rows_putBit 20 rfl) rfl rfl (hQ)
theorem ev_Rows_isFull {E : fg_E} {d : Nat} {μ : Nat → Nat → Int32} {R : fg_T4} {Q : Option Value → fg_M → Prop} {r c n w sz : Nat} (hr : fg_rows R r c n) (hw : μ r 0 = nI w) (hs : μ r 2 = nI sz) (hf : sz * w ≤ n) (hwl : w < 2 ^ 31) (hz : sz < 2 ^ 31) (hb : (sz + 1) * w < 2 ^ 31) (hQ : Q (some (.int (fg_bI (n < (sz + 1) * w)))) (μ, fg_rho R, 304)) : fg_Ev E yy_Rows_isFull (d + 1) [.ref r] (μ, fg_rho R, 304) 304 Q := by
  refine fg_intro (by decide +kernel) (Nat.le_of_ble_eq_true rfl) (fg_okAs rfl) (Nat.le_refl _) ?_
  refine fg_aloadn (fg_ft (pc := 0) tb_Rows_isFull 0 rfl) rfl ?_
  refine fg_getV (v := (nI sz)) (fg_ft (pc := 1) tb_Rows_isFull 1 rfl) ff_Rows_25 hr.1 rfl (fg_lt (hr.1) (by decide)) hs ?_
  refine fg_iconst (fg_ft (pc := 4) tb_Rows_isFull 2 rfl) ic_1 ?_
  refine fg_iaddN (fg_ft (pc := 5) tb_Rows_isFull 3 rfl) ?_
  refine fg_aloadn (fg_ft (pc := 6) tb_Rows_isFull 4 rfl) rfl ?_
  refine fg_getV (v := (nI w)) (fg_ft (pc := 7) tb_Rows_isFull 5 rfl) ff_Rows_9 hr.1 rfl (fg_lt (hr.1) (by decide)) hw ?_
  refine fg_imulN (fg_ft (pc := 10) tb_Rows_isFull 6 rfl) ?_
  refine fg_aloadn (fg_ft (pc := 11) tb_Rows_isFull 7 rfl) rfl ?_
  refine fg_getR (fg_ft (pc := 12) tb_Rows_isFull 8 rfl) ff_Rows_21 hr.1 rfl (fg_lt (hr.1) (by decide)) hr.2.1 ?_
  refine fg_alen (fg_ft (pc := 15) tb_Rows_isFull 9 rfl) hr.2.2 (by decide) (fg_lt (hr.2.2) (by decide)) ?_
  refine fg_icmp_leN (tgt := 23) (fg_ft (pc := 16) tb_Rows_isFull 10 rfl) (by decide) (hb) (by have := fg_szLe hr.2.2; omega) (fun c16 => ?_) (fun c16 => ?_)
  · refine fg_iconst (fg_ft (pc := 23) tb_Rows_isFull 13 rfl) ic_0 ?_
    exact fg_zret (fg_ft (pc := 24) tb_Rows_isFull 14 rfl) rfl (by decide) rfl (by rw [fg_bF (by omega)] at hQ; exact hQ)
  · refine fg_iconst (fg_ft (pc := 19) tb_Rows_isFull 11 rfl) ic_1 ?_
    refine fg_goto (tgt := 24) (fg_ft (pc := 20) tb_Rows_isFull 12 rfl) (by decide) ?_
    exact fg_zret (fg_ft (pc := 24) tb_Rows_isFull 14 rfl) rfl (by decide) rfl (by rw [fg_bT (by omega)] at hQ; exact hQ)
theorem ev_Rows_copyFrom {E : fg_E} {d : Nat} {μ : Nat → Nat → Int32} {R : fg_T4} {Q : Option Value → fg_M → Prop} {r c n o co : Nat} (hr : fg_rows R r c n) (ho : fg_rows R o co n) (hQ : Q none (fg_u2 (fg_cp1 μ co c n) r 2 (fg_cp1 μ co c n o 2), fg_rho R, 304)) : fg_Ev E yy_Rows_copyFrom (d + 1) [.ref r, .ref o] (μ, fg_rho R, 304) 304 Q := by
  refine fg_intro (by decide +kernel) (Nat.le_of_ble_eq_true rfl) (fg_okAs rfl) (Nat.le_refl _) ?_
  refine fg_aloadn (fg_ft (pc := 0) tb_Rows_copyFrom 0 rfl) rfl ?_
  refine fg_getR (fg_ft (pc := 1) tb_Rows_copyFrom 1 rfl) ff_Rows_21 ho.1 rfl (fg_lt (ho.1) (by decide)) ho.2.1 ?_
  refine fg_alen (fg_ft (pc := 4) tb_Rows_copyFrom 2 rfl) ho.2.2 (by decide) (fg_lt (ho.2.2) (by decide)) ?_
  refine fg_aloadn (fg_ft (pc := 5) tb_Rows_copyFrom 3 rfl) rfl ?_
  refine fg_getR (fg_ft (pc := 6) tb_Rows_copyFrom 4 rfl) ff_Rows_21 hr.1 rfl (fg_lt (hr.1) (by decide)) hr.2.1 ?_
  refine fg_alen (fg_ft (pc := 9) tb_Rows_copyFrom 5 rfl) hr.2.2 (by decide) (fg_lt (hr.2.2) (by decide)) ?_
  refine fg_icmp_neN (tgt := 39) (fg_ft (pc := 10) tb_Rows_copyFrom 6 rfl) (by decide) (by have := fg_szLe hr.2.2; omega) (by have := fg_szLe hr.2.2; omega) (fun c10 => (absurd rfl c10)) (fun c10 => ?_)
  refine fg_aloadn (fg_ft (pc := 13) tb_Rows_copyFrom 7 rfl) rfl ?_
  refine fg_getR (fg_ft (pc := 14) tb_Rows_copyFrom 8 rfl) ff_Rows_21 ho.1 rfl (fg_lt (ho.1) (by decide)) ho.2.1 ?_
  refine fg_iconst (fg_ft (pc := 17) tb_Rows_copyFrom 9 rfl) ic_0 ?_
  refine fg_aloadn (fg_ft (pc := 18) tb_Rows_copyFrom 10 rfl) rfl ?_
  refine fg_getR (fg_ft (pc := 19) tb_Rows_copyFrom 11 rfl) ff_Rows_21 hr.1 rfl (fg_lt (hr.1) (by decide)) hr.2.1 ?_
  refine fg_iconst (fg_ft (pc := 22) tb_Rows_copyFrom 12 rfl) ic_0 ?_
  refine fg_aloadn (fg_ft (pc := 23) tb_Rows_copyFrom 13 rfl) rfl ?_
  refine fg_getR (fg_ft (pc := 24) tb_Rows_copyFrom 14 rfl) ff_Rows_21 hr.1 rfl (fg_lt (hr.1) (by decide)) hr.2.1 ?_
  refine fg_alen (fg_ft (pc := 27) tb_Rows_copyFrom 15 rfl) hr.2.2 (by decide) (fg_lt (hr.2.2) (by decide)) ?_
  refine fg_copy (fg_ft (pc := 28) tb_Rows_copyFrom 16 rfl) fy_Rows_40 fy_native fy_static fy_init (Or.inl rfl) ho.2.2 hr.2.2 (fg_lt (ho.2.2) (by decide)) (fg_lt (hr.2.2) (by decide)) rfl rfl rfl (by omega) (by omega) (fun _ _ => rfl) (Nat.le_of_ble_eq_true rfl) ?_
  show fg_wp _ _ _ _ _ _ _ _ _ (fg_cp1 μ co c n, fg_rho R, 304)
  refine fg_aloadn (fg_ft (pc := 31) tb_Rows_copyFrom 17 rfl) rfl ?_
  refine fg_aloadn (fg_ft (pc := 32) tb_Rows_copyFrom 18 rfl) rfl ?_
  refine fg_getI (fg_ft (pc := 33) tb_Rows_copyFrom 19 rfl) ff_Rows_25 ho.1 rfl (fg_lt (ho.1) (by decide)) ?_
  refine fg_putI (fg_ft (pc := 36) tb_Rows_copyFrom 20 rfl) ff_Rows_25 hr.1 rfl (fg_lt (hr.1) (by decide)) (fg_nokI _) (fun _ _ h => by cases h; rfl) ?_
  show fg_wp _ _ _ _ _ _ _ _ _ (fg_u2 (fg_cp1 μ co c n) r 2 ((fg_cp1 μ co c n) o 2), fg_rho R, 304)
  exact fg_vret (fg_ft (pc := 39) tb_Rows_copyFrom 21 rfl) rfl rfl (hQ)
