/-- a sum over the bits of a set -/
def fg_swp (s : Nat) (u : Nat → Nat) : Nat → Nat
  | 0 => 0
  | n + 1 => fg_swp s u n + (s.testBit n).toNat * u n
theorem fg_lie_bt (g : Nat → Nat) (m : Nat) : ∀ n i, (fg_lie g m n).testBit i = true ↔ (i < n ∧ fg_df (g i) m = 0) := by
  intro n
  induction n with
  | zero => intro i; show (0 : Nat).testBit i = true ↔ _; rw [Nat.zero_testBit]; exact ⟨fun h => Bool.noConfusion h, fun h => absurd h.1 (Nat.not_lt_zero _)⟩
  | succ n ih =>
    intro i
    show (fg_lie g m n ||| (if fg_df (g n) m = 0 then 2 ^ n else 0)).testBit i = true ↔ _
    rw [Nat.testBit_or]
    rcases Nat.decEq i n with e | e
    · have e2 : (if fg_df (g n) m = 0 then 2 ^ n else 0).testBit i = false := by
        split
        · exact Nat.testBit_two_pow_of_ne (Ne.symm e)
        · exact Nat.zero_testBit i
      rw [e2, Bool.or_false, ih i]
      exact ⟨fun h => ⟨by omega, h.2⟩, fun h => ⟨by omega, h.2⟩⟩
    · subst e
      have e1 : (fg_lie g m i).testBit i = false := by
        cases hx : (fg_lie g m i).testBit i
        · rfl
        · exact absurd ((ih i).mp hx).1 (Nat.lt_irrefl _)
      rw [e1, Bool.false_or]
      by_cases h : fg_df (g i) m = 0
      · rw [if_pos h, Nat.testBit_two_pow_self]; exact ⟨fun _ => ⟨by omega, h⟩, fun _ => rfl⟩
      · rw [if_neg h, Nat.zero_testBit]; exact ⟨fun hh => Bool.noConfusion hh, fun hh => absurd hh.2 h⟩
theorem fg_swp_lie {u g : Nat → Nat} {m n : Nat} : ∀ k, fg_swp (fg_lie g m n) u k = fg_smw u g m (min k n) := by
  intro k
  induction k with
  | zero => rw [Nat.zero_min]; rfl
  | succ k ih =>
    show fg_swp _ u k + _ = _
    rw [ih]
    rcases Nat.lt_or_ge k n with g1 | g1
    · rw [show min k n = k by omega, show min (k + 1) n = k + 1 by omega]
      show _ = fg_smw u g m k + (if fg_df (g k) m = 0 then u k else 0)
      by_cases h : fg_df (g k) m = 0
      · rw [if_pos h, (fg_lie_bt g m n k).mpr ⟨g1, h⟩]; simp
      · rw [if_neg h]
        cases hx : (fg_lie g m n).testBit k
        · simp
        · exact absurd ((fg_lie_bt g m n k).mp hx).2 h
    · rw [show min k n = n by omega, show min (k + 1) n = n by omega]
      cases hx : (fg_lie g m n).testBit k
      · simp
      · exact absurd ((fg_lie_bt g m n k).mp hx).1 (by omega)
theorem fg_sub4 (a b x y : Int32) : (a - b) + (x - y) = (a + x) - (b + y) := by
  apply Int32.toBitVec_inj.mp
  show (a.toBitVec - b.toBitVec) + (x.toBitVec - y.toBitVec) = (a.toBitVec + x.toBitVec) - (b.toBitVec + y.toBitVec)
  rw [BitVec.sub_eq_add_neg, BitVec.sub_eq_add_neg, BitVec.sub_eq_add_neg, BitVec.neg_add, BitVec.sub_eq_add_neg]
  ac_rfl
theorem fg_wstep {a b s h u w k : Nat} : (nI a - nI b) + (nI ((s >>> k) &&& 1) * nI u - nI ((h >>> k) &&& 1) * nI w) = nI (a + (s.testBit k).toNat * u) - nI (b + (h.testBit k).toNat * w) := by
  rw [fg_bit1, fg_bit1, pk_mul, pk_mul, fg_sub4, nI_add, nI_add]
theorem ev_Mo_fullOfS {E : fg_E} {d : Nat} {μ : Nat → Nat → Int32} {R : fg_T4} {Q : Option Value → fg_M → Prop} {v : Nat} {T : Nat → Nat} (hM : fg_MT (μ 288) v T) (hok : fg_ok T) {m : Nat} (hm : m < 2 ^ 31) (hQ : Q (some (.int (nI (fg_lS T m)))) (μ, fg_rho R, 304))  : fg_Ev E yy_Mo_fullOf (d + 1) [.ref 287, .int (nI v), .int (nI 5), .int (nI 127), .int (nI m)] (μ, fg_rho R, 304) 304 Q := by
  have hv0 := hM.1
  have hb0 := hok.1
  have hb1 := hok.2.1
  have hp := hok.p
  have hq := Nat.two_pow_pos (T 0)
  have loop : ∀ (n k a : Nat), T 5 - k < n → k ≤ T 5 → a = fg_lie (fun k => T (128 + 2 * k)) m k → fg_wp E yy_Mo_fullOf (d + 1) 304 304 Q 6 [.ref 287, .int (nI v), .int (nI 5), .int (nI 127), .int (nI m), .int (nI a), .int (nI k)] [] (μ, fg_rho R, 304) := by
    intro n
    induction n with
    | zero => intro k a h; exact absurd h (Nat.not_lt_zero _)
    | succ n ih =>
      intro k a hn hk ha
      refine fg_iload (fg_ft (pc := 6) tb_Mo_fullOf 4 rfl) rfl ?_
      refine fg_aloadn (fg_ft (pc := 8) tb_Mo_fullOf 5 rfl) rfl ?_
      refine fg_getR (fg_ft (pc := 9) tb_Mo_fullOf 6 rfl) ff_Mo_7 ly_287 rfl (fg_lt ly_287 (by decide)) (rh_287_0 R) ?_
      refine fg_iloadn (fg_ft (pc := 12) tb_Mo_fullOf 7 rfl) rfl ?_
      refine fg_iloadn (fg_ft (pc := 13) tb_Mo_fullOf 8 rfl) rfl ?_
      refine fg_iaddN (fg_ft (pc := 14) tb_Mo_fullOf 9 rfl) ?_
      refine fg_ialdV (v := (nI (T 5))) (fg_ft (pc := 15) tb_Mo_fullOf 10 rfl) ly_288 (fg_lt ly_288 (by decide)) (by omega) (fg_MTat hM (i := v + 5) (k := 5) (by omega) (by omega)) ?_
      refine fg_icmp_geN (tgt := 61) (fg_ft (pc := 16) tb_Mo_fullOf 11 rfl) (by decide) (by omega) (by omega) (fun c16 => ?_) (fun c16 => ?_)
      · refine fg_iload (fg_ft (pc := 61) tb_Mo_fullOf 39 rfl) rfl ?_
        exact fg_iret (fg_ft (pc := 63) tb_Mo_fullOf 40 rfl) rfl rfl (by rw [ha, show k = T 5 by omega]; exact hQ)
      · refine fg_iload (fg_ft (pc := 19) tb_Mo_fullOf 12 rfl) rfl ?_
        refine fg_aloadn (fg_ft (pc := 21) tb_Mo_fullOf 13 rfl) rfl ?_
        refine fg_getR (fg_ft (pc := 22) tb_Mo_fullOf 14 rfl) ff_Mo_7 ly_287 rfl (fg_lt ly_287 (by decide)) (rh_287_0 R) ?_
        refine fg_iloadn (fg_ft (pc := 25) tb_Mo_fullOf 15 rfl) rfl ?_
        refine fg_iloadn (fg_ft (pc := 26) tb_Mo_fullOf 16 rfl) rfl ?_
        refine fg_iaddN (fg_ft (pc := 27) tb_Mo_fullOf 17 rfl) ?_
        refine fg_iconst (fg_ft (pc := 28) tb_Mo_fullOf 18 rfl) ic_2 ?_
        refine fg_iload (fg_ft (pc := 29) tb_Mo_fullOf 19 rfl) rfl ?_
        refine fg_imulN (fg_ft (pc := 31) tb_Mo_fullOf 20 rfl) ?_
        refine fg_iaddN (fg_ft (pc := 32) tb_Mo_fullOf 21 rfl) ?_
        refine fg_iconst (fg_ft (pc := 33) tb_Mo_fullOf 22 rfl) ic_1 ?_
        refine fg_iaddN (fg_ft (pc := 34) tb_Mo_fullOf 23 rfl) ?_
        refine fg_ialdV (v := (nI (T (128 + 2 * k)))) (fg_ft (pc := 35) tb_Mo_fullOf 24 rfl) ly_288 (fg_lt ly_288 (by decide)) (by omega) (fg_MTat hM (i := ((v + 127) + (2 * k)) + 1) (k := 128 + 2 * k) (by omega) (by omega)) ?_
        refine fg_iload (fg_ft (pc := 36) tb_Mo_fullOf 25 rfl) rfl ?_
        refine fg_iconst (fg_ft (pc := 38) tb_Mo_fullOf 26 rfl) ic_m1 ?_
        refine fg_ixor (fg_ft (pc := 39) tb_Mo_fullOf 27 rfl) ?_
        refine fg_iandD (fg_ft (pc := 40) tb_Mo_fullOf 28 rfl) ?_
        refine fg_if_neN (tgt := 51) (fg_ft (pc := 41) tb_Mo_fullOf 29 rfl) (by decide) (fg_df_le31 (by have := (hok.2.2.2.2.2.2.1 k (by omega)).2; omega)) (fun c41 => ?_) (fun c41 => ?_)
        · refine fg_iconst (fg_ft (pc := 51) tb_Mo_fullOf 34 rfl) ic_0 ?_
          refine fg_iorN (fg_ft (pc := 52) tb_Mo_fullOf 35 rfl) ?_
          refine fg_istore (fg_ft (pc := 53) tb_Mo_fullOf 36 rfl) (Nat.le_of_ble_eq_true rfl) ?_
          refine fg_iincN (fg_ft (pc := 55) tb_Mo_fullOf 37 rfl) rfl ic_1 rfl ?_
          refine fg_goto (tgt := 6) (fg_ft (pc := 58) tb_Mo_fullOf 38 rfl) (by decide) ?_
          exact ih (k + 1) _ (by omega) (by omega) (by rw [ha]; show _ = fg_lie (fun k => T (128 + 2 * k)) m k ||| _; rw [if_neg c41])
        · refine fg_iconst (fg_ft (pc := 44) tb_Mo_fullOf 30 rfl) ic_1 ?_
          refine fg_iload (fg_ft (pc := 45) tb_Mo_fullOf 31 rfl) rfl ?_
          refine fg_ishl1 (fg_ft (pc := 47) tb_Mo_fullOf 32 rfl) (by omega) ?_
          refine fg_goto (tgt := 52) (fg_ft (pc := 48) tb_Mo_fullOf 33 rfl) (by decide) ?_
          refine fg_iorN (fg_ft (pc := 52) tb_Mo_fullOf 35 rfl) ?_
          refine fg_istore (fg_ft (pc := 53) tb_Mo_fullOf 36 rfl) (Nat.le_of_ble_eq_true rfl) ?_
          refine fg_iincN (fg_ft (pc := 55) tb_Mo_fullOf 37 rfl) rfl ic_1 rfl ?_
          refine fg_goto (tgt := 6) (fg_ft (pc := 58) tb_Mo_fullOf 38 rfl) (by decide) ?_
          exact ih (k + 1) _ (by omega) (by omega) (by rw [ha]; show _ = fg_lie (fun k => T (128 + 2 * k)) m k ||| _; rw [if_pos c41])
  refine fg_intro (by decide +kernel) (Nat.le_of_ble_eq_true rfl) (fg_okAs rfl) (Nat.le_refl _) ?_
  refine fg_iconst (fg_ft (pc := 0) tb_Mo_fullOf 0 rfl) ic_0 ?_
  refine fg_istore (fg_ft (pc := 1) tb_Mo_fullOf 1 rfl) (Nat.le_of_ble_eq_true rfl) ?_
  refine fg_iconst (fg_ft (pc := 3) tb_Mo_fullOf 2 rfl) ic_0 ?_
  refine fg_istore (fg_ft (pc := 4) tb_Mo_fullOf 3 rfl) (Nat.le_of_ble_eq_true rfl) ?_
  exact loop (T 5 + 1) 0 0 (by omega) (by omega) rfl
theorem ev_Mo_fullOfH {E : fg_E} {d : Nat} {μ : Nat → Nat → Int32} {R : fg_T4} {Q : Option Value → fg_M → Prop} {v : Nat} {T : Nat → Nat} (hM : fg_MT (μ 288) v T) (hok : fg_ok T) {m : Nat} (hm : m < 2 ^ 31) (hQ : Q (some (.int (nI (fg_lH T m)))) (μ, fg_rho R, 304))  : fg_Ev E yy_Mo_fullOf (d + 1) [.ref 287, .int (nI v), .int (nI 6), .int (nI 139), .int (nI m)] (μ, fg_rho R, 304) 304 Q := by
  have hv0 := hM.1
  have hb0 := hok.1
  have hb1 := hok.2.1
  have hp := hok.p
  have hq := Nat.two_pow_pos (T 0)
  have loop : ∀ (n k a : Nat), T 6 - k < n → k ≤ T 6 → a = fg_lie (fun k => T (140 + 2 * k)) m k → fg_wp E yy_Mo_fullOf (d + 1) 304 304 Q 6 [.ref 287, .int (nI v), .int (nI 6), .int (nI 139), .int (nI m), .int (nI a), .int (nI k)] [] (μ, fg_rho R, 304) := by
    intro n
    induction n with
    | zero => intro k a h; exact absurd h (Nat.not_lt_zero _)
    | succ n ih =>
      intro k a hn hk ha
      refine fg_iload (fg_ft (pc := 6) tb_Mo_fullOf 4 rfl) rfl ?_
      refine fg_aloadn (fg_ft (pc := 8) tb_Mo_fullOf 5 rfl) rfl ?_
      refine fg_getR (fg_ft (pc := 9) tb_Mo_fullOf 6 rfl) ff_Mo_7 ly_287 rfl (fg_lt ly_287 (by decide)) (rh_287_0 R) ?_
      refine fg_iloadn (fg_ft (pc := 12) tb_Mo_fullOf 7 rfl) rfl ?_
      refine fg_iloadn (fg_ft (pc := 13) tb_Mo_fullOf 8 rfl) rfl ?_
      refine fg_iaddN (fg_ft (pc := 14) tb_Mo_fullOf 9 rfl) ?_
      refine fg_ialdV (v := (nI (T 6))) (fg_ft (pc := 15) tb_Mo_fullOf 10 rfl) ly_288 (fg_lt ly_288 (by decide)) (by omega) (fg_MTat hM (i := v + 6) (k := 6) (by omega) (by omega)) ?_
      refine fg_icmp_geN (tgt := 61) (fg_ft (pc := 16) tb_Mo_fullOf 11 rfl) (by decide) (by omega) (by omega) (fun c16 => ?_) (fun c16 => ?_)
      · refine fg_iload (fg_ft (pc := 61) tb_Mo_fullOf 39 rfl) rfl ?_
        exact fg_iret (fg_ft (pc := 63) tb_Mo_fullOf 40 rfl) rfl rfl (by rw [ha, show k = T 6 by omega]; exact hQ)
      · refine fg_iload (fg_ft (pc := 19) tb_Mo_fullOf 12 rfl) rfl ?_
        refine fg_aloadn (fg_ft (pc := 21) tb_Mo_fullOf 13 rfl) rfl ?_
        refine fg_getR (fg_ft (pc := 22) tb_Mo_fullOf 14 rfl) ff_Mo_7 ly_287 rfl (fg_lt ly_287 (by decide)) (rh_287_0 R) ?_
        refine fg_iloadn (fg_ft (pc := 25) tb_Mo_fullOf 15 rfl) rfl ?_
        refine fg_iloadn (fg_ft (pc := 26) tb_Mo_fullOf 16 rfl) rfl ?_
        refine fg_iaddN (fg_ft (pc := 27) tb_Mo_fullOf 17 rfl) ?_
        refine fg_iconst (fg_ft (pc := 28) tb_Mo_fullOf 18 rfl) ic_2 ?_
        refine fg_iload (fg_ft (pc := 29) tb_Mo_fullOf 19 rfl) rfl ?_
        refine fg_imulN (fg_ft (pc := 31) tb_Mo_fullOf 20 rfl) ?_
        refine fg_iaddN (fg_ft (pc := 32) tb_Mo_fullOf 21 rfl) ?_
        refine fg_iconst (fg_ft (pc := 33) tb_Mo_fullOf 22 rfl) ic_1 ?_
        refine fg_iaddN (fg_ft (pc := 34) tb_Mo_fullOf 23 rfl) ?_
        refine fg_ialdV (v := (nI (T (140 + 2 * k)))) (fg_ft (pc := 35) tb_Mo_fullOf 24 rfl) ly_288 (fg_lt ly_288 (by decide)) (by omega) (fg_MTat hM (i := ((v + 139) + (2 * k)) + 1) (k := 140 + 2 * k) (by omega) (by omega)) ?_
        refine fg_iload (fg_ft (pc := 36) tb_Mo_fullOf 25 rfl) rfl ?_
        refine fg_iconst (fg_ft (pc := 38) tb_Mo_fullOf 26 rfl) ic_m1 ?_
        refine fg_ixor (fg_ft (pc := 39) tb_Mo_fullOf 27 rfl) ?_
        refine fg_iandD (fg_ft (pc := 40) tb_Mo_fullOf 28 rfl) ?_
        refine fg_if_neN (tgt := 51) (fg_ft (pc := 41) tb_Mo_fullOf 29 rfl) (by decide) (fg_df_le31 (by have := (hok.2.2.2.2.2.2.2 k (by omega)).2; omega)) (fun c41 => ?_) (fun c41 => ?_)
        · refine fg_iconst (fg_ft (pc := 51) tb_Mo_fullOf 34 rfl) ic_0 ?_
          refine fg_iorN (fg_ft (pc := 52) tb_Mo_fullOf 35 rfl) ?_
          refine fg_istore (fg_ft (pc := 53) tb_Mo_fullOf 36 rfl) (Nat.le_of_ble_eq_true rfl) ?_
          refine fg_iincN (fg_ft (pc := 55) tb_Mo_fullOf 37 rfl) rfl ic_1 rfl ?_
          refine fg_goto (tgt := 6) (fg_ft (pc := 58) tb_Mo_fullOf 38 rfl) (by decide) ?_
          exact ih (k + 1) _ (by omega) (by omega) (by rw [ha]; show _ = fg_lie (fun k => T (140 + 2 * k)) m k ||| _; rw [if_neg c41])
        · refine fg_iconst (fg_ft (pc := 44) tb_Mo_fullOf 30 rfl) ic_1 ?_
          refine fg_iload (fg_ft (pc := 45) tb_Mo_fullOf 31 rfl) rfl ?_
          refine fg_ishl1 (fg_ft (pc := 47) tb_Mo_fullOf 32 rfl) (by omega) ?_
          refine fg_goto (tgt := 52) (fg_ft (pc := 48) tb_Mo_fullOf 33 rfl) (by decide) ?_
          refine fg_iorN (fg_ft (pc := 52) tb_Mo_fullOf 35 rfl) ?_
          refine fg_istore (fg_ft (pc := 53) tb_Mo_fullOf 36 rfl) (Nat.le_of_ble_eq_true rfl) ?_
          refine fg_iincN (fg_ft (pc := 55) tb_Mo_fullOf 37 rfl) rfl ic_1 rfl ?_
          refine fg_goto (tgt := 6) (fg_ft (pc := 58) tb_Mo_fullOf 38 rfl) (by decide) ?_
          exact ih (k + 1) _ (by omega) (by omega) (by rw [ha]; show _ = fg_lie (fun k => T (140 + 2 * k)) m k ||| _; rw [if_pos c41])
  refine fg_intro (by decide +kernel) (Nat.le_of_ble_eq_true rfl) (fg_okAs rfl) (Nat.le_refl _) ?_
  refine fg_iconst (fg_ft (pc := 0) tb_Mo_fullOf 0 rfl) ic_0 ?_
  refine fg_istore (fg_ft (pc := 1) tb_Mo_fullOf 1 rfl) (Nat.le_of_ble_eq_true rfl) ?_
  refine fg_iconst (fg_ft (pc := 3) tb_Mo_fullOf 2 rfl) ic_0 ?_
  refine fg_istore (fg_ft (pc := 4) tb_Mo_fullOf 3 rfl) (Nat.le_of_ble_eq_true rfl) ?_
  exact loop (T 6 + 1) 0 0 (by omega) (by omega) rfl
theorem ev_Mo_worthOf {E : fg_E} {d : Nat} {μ : Nat → Nat → Int32} {R : fg_T4} {Q : Option Value → fg_M → Prop} {v : Nat} {T : Nat → Nat} (hM : fg_MT (μ 288) v T) (hok : fg_ok T) {m : Nat} (hm : m < 2 ^ 10) (hQ : Q (some (.int (fg_w T m))) (μ, fg_rho R, 304))  : fg_Ev E yy_Mo_worthOf (d + 2) [.ref 287, .int (nI v), .int (nI m)] (μ, fg_rho R, 304) 304 Q := by
  have hv0 := hM.1
  have hb0 := hok.1
  have hb1 := hok.2.1
  have hp := hok.p
  have hq := Nat.two_pow_pos (T 0)
  have loop : ∀ (n k a b : Nat), 6 - k < n → k ≤ 6 → a = fg_swp (fg_lS T m) (fun k => T (127 + 2 * k)) k → b = fg_swp (fg_lH T m) (fun k => T (139 + 2 * k)) k → fg_wp E yy_Mo_worthOf (d + 2) 304 304 Q 29 [.ref 287, .int (nI v), .int (nI m), .int (nI (fg_lS T m)), .int (nI (fg_lH T m)), .int (nI a - nI b), .int (nI k)] [] (μ, fg_rho R, 304) := by
    intro n
    induction n with
    | zero => intro k a b h; exact absurd h (Nat.not_lt_zero _)
    | succ n ih =>
      intro k a b hn hk ha hb
      refine fg_iload (fg_ft (pc := 29) tb_Mo_worthOf 18 rfl) rfl ?_
      refine fg_bipush (fg_ft (pc := 31) tb_Mo_worthOf 19 rfl) ib_6 ?_
      refine fg_icmp_geN (tgt := 92) (fg_ft (pc := 33) tb_Mo_worthOf 20 rfl) (by decide) (by omega) (by decide) (fun c33 => ?_) (fun c33 => ?_)
      · refine fg_iload (fg_ft (pc := 92) tb_Mo_worthOf 59 rfl) rfl ?_
        exact fg_iret (fg_ft (pc := 94) tb_Mo_worthOf 60 rfl) rfl rfl (fg_q hQ (by rw [ha, hb, show k = 6 by omega]; unfold fg_lS fg_lH; rw [fg_swp_lie, fg_swp_lie, show min 6 (T 5) = T 5 by omega, show min 6 (T 6) = T 6 by omega]; rfl))
      · refine fg_iload (fg_ft (pc := 36) tb_Mo_worthOf 21 rfl) rfl ?_
        refine fg_iloadn (fg_ft (pc := 38) tb_Mo_worthOf 22 rfl) rfl ?_
        refine fg_iload (fg_ft (pc := 39) tb_Mo_worthOf 23 rfl) rfl ?_
        refine fg_ishrN (fg_ft (pc := 41) tb_Mo_worthOf 24 rfl) (by have := fg_lS_lt hok m; omega) (by omega) ?_
        refine fg_iconst (fg_ft (pc := 42) tb_Mo_worthOf 25 rfl) ic_1 ?_
        refine fg_iandN (fg_ft (pc := 43) tb_Mo_worthOf 26 rfl) ?_
        refine fg_aloadn (fg_ft (pc := 44) tb_Mo_worthOf 27 rfl) rfl ?_
        refine fg_getR (fg_ft (pc := 45) tb_Mo_worthOf 28 rfl) ff_Mo_7 ly_287 rfl (fg_lt ly_287 (by decide)) (rh_287_0 R) ?_
        refine fg_iloadn (fg_ft (pc := 48) tb_Mo_worthOf 29 rfl) rfl ?_
        refine fg_bipush (fg_ft (pc := 49) tb_Mo_worthOf 30 rfl) ib_127 ?_
        refine fg_iaddN (fg_ft (pc := 51) tb_Mo_worthOf 31 rfl) ?_
        refine fg_iconst (fg_ft (pc := 52) tb_Mo_worthOf 32 rfl) ic_2 ?_
        refine fg_iload (fg_ft (pc := 53) tb_Mo_worthOf 33 rfl) rfl ?_
        refine fg_imulN (fg_ft (pc := 55) tb_Mo_worthOf 34 rfl) ?_
        refine fg_iaddN (fg_ft (pc := 56) tb_Mo_worthOf 35 rfl) ?_
        refine fg_ialdV (v := (nI (T (127 + 2 * k)))) (fg_ft (pc := 57) tb_Mo_worthOf 36 rfl) ly_288 (fg_lt ly_288 (by decide)) (by omega) (fg_MTat hM (i := (v + 127) + (2 * k)) (k := 127 + 2 * k) (by omega) (by omega)) ?_
        refine fg_imul (fg_ft (pc := 58) tb_Mo_worthOf 37 rfl) ?_
        refine fg_iload (fg_ft (pc := 59) tb_Mo_worthOf 38 rfl) rfl ?_
        refine fg_iload (fg_ft (pc := 61) tb_Mo_worthOf 39 rfl) rfl ?_
        refine fg_ishrN (fg_ft (pc := 63) tb_Mo_worthOf 40 rfl) (by have := fg_lH_lt hok m; omega) (by omega) ?_
        refine fg_iconst (fg_ft (pc := 64) tb_Mo_worthOf 41 rfl) ic_1 ?_
        refine fg_iandN (fg_ft (pc := 65) tb_Mo_worthOf 42 rfl) ?_
        refine fg_aloadn (fg_ft (pc := 66) tb_Mo_worthOf 43 rfl) rfl ?_
        refine fg_getR (fg_ft (pc := 67) tb_Mo_worthOf 44 rfl) ff_Mo_7 ly_287 rfl (fg_lt ly_287 (by decide)) (rh_287_0 R) ?_
        refine fg_iloadn (fg_ft (pc := 70) tb_Mo_worthOf 45 rfl) rfl ?_
        refine fg_sipush (fg_ft (pc := 71) tb_Mo_worthOf 46 rfl) is_139 ?_
        refine fg_iaddN (fg_ft (pc := 74) tb_Mo_worthOf 47 rfl) ?_
        refine fg_iconst (fg_ft (pc := 75) tb_Mo_worthOf 48 rfl) ic_2 ?_
        refine fg_iload (fg_ft (pc := 76) tb_Mo_worthOf 49 rfl) rfl ?_
        refine fg_imulN (fg_ft (pc := 78) tb_Mo_worthOf 50 rfl) ?_
        refine fg_iaddN (fg_ft (pc := 79) tb_Mo_worthOf 51 rfl) ?_
        refine fg_ialdV (v := (nI (T (139 + 2 * k)))) (fg_ft (pc := 80) tb_Mo_worthOf 52 rfl) ly_288 (fg_lt ly_288 (by decide)) (by omega) (fg_MTat hM (i := (v + 139) + (2 * k)) (k := 139 + 2 * k) (by omega) (by omega)) ?_
        refine fg_imul (fg_ft (pc := 81) tb_Mo_worthOf 53 rfl) ?_
        refine fg_isub (fg_ft (pc := 82) tb_Mo_worthOf 54 rfl) ?_
        refine fg_iadd (fg_ft (pc := 83) tb_Mo_worthOf 55 rfl) ?_
        refine fg_top fg_wstep ?_
        refine fg_istore (fg_ft (pc := 84) tb_Mo_worthOf 56 rfl) (Nat.le_of_ble_eq_true rfl) ?_
        refine fg_iincN (fg_ft (pc := 86) tb_Mo_worthOf 57 rfl) rfl ic_1 rfl ?_
        refine fg_goto (tgt := 29) (fg_ft (pc := 89) tb_Mo_worthOf 58 rfl) (by decide) ?_
        exact ih (k + 1) _ _ (by omega) (by omega) (by rw [ha]; rfl) (by rw [hb]; rfl)
  refine fg_intro (by decide +kernel) (Nat.le_of_ble_eq_true rfl) (fg_okAs rfl) (Nat.le_refl _) ?_
  refine fg_aloadn (fg_ft (pc := 0) tb_Mo_worthOf 0 rfl) rfl ?_
  refine fg_iloadn (fg_ft (pc := 1) tb_Mo_worthOf 1 rfl) rfl ?_
  refine fg_iconst (fg_ft (pc := 2) tb_Mo_worthOf 2 rfl) ic_5 ?_
  refine fg_bipush (fg_ft (pc := 3) tb_Mo_worthOf 3 rfl) ib_127 ?_
  refine fg_iloadn (fg_ft (pc := 5) tb_Mo_worthOf 4 rfl) rfl ?_
  refine fg_callV (fg_ft (pc := 6) tb_Mo_worthOf 5 rfl) cf_Mo_262 (fg_isOf ly_287 rfl (fg_lt ly_287 (by decide))) (as := [.int (nI v), .int (nI 5), .int (nI 127), .int (nI m)]) (st := []) rfl rfl (Nat.le_of_ble_eq_true rfl) (Nat.le_refl _) (Nat.le_refl _) (ev_Mo_fullOfS hM hok (m := m) (by omega) ?_)
  refine fg_istoren (fg_ft (pc := 9) tb_Mo_worthOf 6 rfl) (Nat.le_of_ble_eq_true rfl) ?_
  refine fg_aloadn (fg_ft (pc := 10) tb_Mo_worthOf 7 rfl) rfl ?_
  refine fg_iloadn (fg_ft (pc := 11) tb_Mo_worthOf 8 rfl) rfl ?_
  refine fg_bipush (fg_ft (pc := 12) tb_Mo_worthOf 9 rfl) ib_6 ?_
  refine fg_sipush (fg_ft (pc := 14) tb_Mo_worthOf 10 rfl) is_139 ?_
  refine fg_iloadn (fg_ft (pc := 17) tb_Mo_worthOf 11 rfl) rfl ?_
  refine fg_callV (fg_ft (pc := 18) tb_Mo_worthOf 12 rfl) cf_Mo_262 (fg_isOf ly_287 rfl (fg_lt ly_287 (by decide))) (as := [.int (nI v), .int (nI 6), .int (nI 139), .int (nI m)]) (st := []) rfl rfl (Nat.le_of_ble_eq_true rfl) (Nat.le_refl _) (Nat.le_refl _) (ev_Mo_fullOfH hM hok (m := m) (by omega) ?_)
  refine fg_istore (fg_ft (pc := 21) tb_Mo_worthOf 13 rfl) (Nat.le_of_ble_eq_true rfl) ?_
  refine fg_iconst (fg_ft (pc := 23) tb_Mo_worthOf 14 rfl) ic_0 ?_
  refine fg_istore (fg_ft (pc := 24) tb_Mo_worthOf 15 rfl) (Nat.le_of_ble_eq_true rfl) ?_
  refine fg_iconst (fg_ft (pc := 26) tb_Mo_worthOf 16 rfl) ic_0 ?_
  refine fg_istore (fg_ft (pc := 27) tb_Mo_worthOf 17 rfl) (Nat.le_of_ble_eq_true rfl) ?_
  exact loop 7 0 0 0 (by decide) (by decide) rfl rfl
theorem ev_Mo_worth {E : fg_E} {d : Nat} {μ : Nat → Nat → Int32} {R : fg_T4} {Q : Option Value → fg_M → Prop} {A : fg_Tl} (hL : fg_ML (μ 288) A) (hw : fg_wA A) (h17 : μ 287 17 = -1) (h19 : μ 287 19 = nI 0) {town day n person what : Nat} (htown : town < 2 ^ 32) (hday : day < 2 ^ 32) (hn : n < 2 ^ 32) (hperson : person < 2 ^ 32) (hwhat : what < 2 ^ 32) (hQ : ∀ μ' : Nat → Nat → Int32, fg_agR μ μ' → Q (some (.int (an_worth A town day n person what))) (μ', fg_rho R, 304)) : fg_Ev E yy_Mo_worth (d + 12) [.ref 287, .int (nI town), .int (nI day), .int (nI n), .int (nI person), .int (nI what)] (μ, fg_rho R, 304) 304 Q := by
  have ht2 := hw.2.1
  have hd3 := hw.2.2.1
  refine fg_intro (by decide +kernel) (Nat.le_of_ble_eq_true rfl) (fg_okAs rfl) (Nat.le_refl _) ?_
  refine fg_iload (fg_ft (pc := 0) tb_Mo_worth 0 rfl) rfl ?_
  refine fg_iconst (fg_ft (pc := 2) tb_Mo_worth 1 rfl) ic_0 ?_
  refine fg_iconst (fg_ft (pc := 3) tb_Mo_worth 2 rfl) ic_2 ?_
  refine fg_callS (fg_ft (pc := 4) tb_Mo_worth 3 rfl) cf_Mo_110 (as := [.int (nI what), .int (nI 0), .int (nI 2)]) (st := []) rfl rfl (Nat.le_of_ble_eq_true rfl) (Nat.le_refl _) (Nat.le_refl _) (ev_Mo_isInC (k := what) (a := 0) (b := 2) (hwhat) (by omega) (by omega) ?_)
  refine fg_ifB_eq (tgt := 22) (fg_ft (pc := 7) tb_Mo_worth 4 rfl) (by decide) (fun c7 => ?_) (fun c7 => ?_)
  · refine fg_ldcw (fg_ft (pc := 22) tb_Mo_worth 12 rfl) fd_Mo_265 ?_
    exact fg_iret (fg_ft (pc := 25) tb_Mo_worth 13 rfl) rfl rfl (fg_q (hQ _ (fg_agR_rf μ)) (by unfold an_worth; rw [fg_g1_cst (by intro T S lv; (repeat (first | rw [if_neg (by omega)] | rw [if_pos (by omega)])); (try (split <;> first | rfl | rw [if_neg (by omega)] | (exfalso; omega))))]))
  · refine fg_aloadn (fg_ft (pc := 10) tb_Mo_worth 5 rfl) rfl ?_
    refine fg_iloadn (fg_ft (pc := 11) tb_Mo_worth 6 rfl) rfl ?_
    refine fg_iloadn (fg_ft (pc := 12) tb_Mo_worth 7 rfl) rfl ?_
    refine fg_iloadn (fg_ft (pc := 13) tb_Mo_worth 8 rfl) rfl ?_
    refine fg_iload (fg_ft (pc := 14) tb_Mo_worth 9 rfl) rfl ?_
    refine fg_callV (fg_ft (pc := 16) tb_Mo_worth 10 rfl) cf_Mo_258 (fg_isOf ly_287 rfl (fg_lt ly_287 (by decide))) (as := [.int (nI town), .int (nI day), .int (nI n), .int (nI person)]) (st := []) rfl rfl (Nat.le_of_ble_eq_true rfl) (Nat.le_refl _) (Nat.le_refl _) (ev_Mo_isOne hL hw h17 h19 htown hday hn hperson (fun n4 μ1 ha1 => ?_) (fun S lv y4 y5 μ1 n1 y1 ha1 hC1 hS1 => ?_))
    · refine fg_if_ne (tgt := 26) (fg_ft (pc := 19) tb_Mo_worth 11 rfl) (by decide) (fun h => absurd h (by decide)) (fun _ => ?_)
      refine fg_ldcw (fg_ft (pc := 22) tb_Mo_worth 12 rfl) fd_Mo_265 ?_
      exact fg_iret (fg_ft (pc := 25) tb_Mo_worth 13 rfl) rfl rfl (fg_q (hQ _ (fg_agR_A ha1)) (by unfold an_worth; rw [fg_g1_none n4] <;> ((repeat (first | rw [if_pos (by omega)] | rw [if_neg (by omega)])); (try rfl))))
    · have ytc := fg_fnd_t y4
      have hok := hw.2.2.2.1 town ytc
      have hM1 := (hL.2.2.1 town ytc).ag ha1.m
      have hz : fg_zok (A.ts town) S.1 (S.2.1.1, 0, 0, 0) S.2.2 := fg_zok.news (fg_fnd_okW hw y4)
      have hv0 := hM1.1
      have hb0 := hok.1
      have hb1 := hok.2.1
      have hp := hok.p
      have hz9 := hz.1
      have hm2 := hz.2.1 person y5
      have hm0 : S.2.1.1 person < 2 ^ A.ts town 0 := hm2.1
      have hmc : fg_clsd (A.ts town) (S.2.1.1 person) := hm2.2
      have hm10 : S.2.1.1 person < 1024 := by omega
      refine fg_if_ne (tgt := 26) (fg_ft (pc := 19) tb_Mo_worth 11 rfl) (by decide) (fun _ => ?_) (fun h => absurd h (by decide))
      refine fg_iconst (fg_ft (pc := 26) tb_Mo_worth 14 rfl) ic_0 ?_
      refine fg_iloadn (fg_ft (pc := 27) tb_Mo_worth 15 rfl) rfl ?_
      refine fg_callS (fg_ft (pc := 28) tb_Mo_worth 16 rfl) cf_Mo_166 (as := [.int (nI 0), .int (nI town)]) (st := []) rfl rfl (Nat.le_of_ble_eq_true rfl) (Nat.le_refl _) (Nat.le_refl _) (ev_Mo_placeOf0 (k := town) ?_)
      refine fg_istore (fg_ft (pc := 31) tb_Mo_worth 17 rfl) (Nat.le_of_ble_eq_true rfl) ?_
      refine fg_iload (fg_ft (pc := 33) tb_Mo_worth 18 rfl) rfl ?_
      refine fg_if_neW (tgt := 54) (fg_ft (pc := 35) tb_Mo_worth 19 rfl) (by decide) (hwhat) (fun c35 => ?_) (fun c35 => ?_)
      · refine fg_iload (fg_ft (pc := 54) tb_Mo_worth 28 rfl) rfl ?_
        refine fg_iconst (fg_ft (pc := 56) tb_Mo_worth 29 rfl) ic_1 ?_
        refine fg_icmp_neW (tgt := 79) (fg_ft (pc := 57) tb_Mo_worth 30 rfl) (by decide) (hwhat) (by decide) (fun c57 => ?_) (fun c57 => ?_)
        · refine fg_aloadn (fg_ft (pc := 79) tb_Mo_worth 41 rfl) rfl ?_
          refine fg_iload (fg_ft (pc := 80) tb_Mo_worth 42 rfl) rfl ?_
          refine fg_bipush (fg_ft (pc := 82) tb_Mo_worth 43 rfl) ib_6 ?_
          refine fg_sipush (fg_ft (pc := 84) tb_Mo_worth 44 rfl) is_139 ?_
          refine fg_aloadn (fg_ft (pc := 87) tb_Mo_worth 45 rfl) rfl ?_
          refine fg_getR (fg_ft (pc := 88) tb_Mo_worth 46 rfl) ff_Mo_23 ly_287 rfl (fg_lt ly_287 (by decide)) (rh_287_12 R) ?_
          refine fg_iload (fg_ft (pc := 91) tb_Mo_worth 47 rfl) rfl ?_
          refine fg_ialdV (v := (nI (S.2.1.1 person))) (fg_ft (pc := 93) tb_Mo_worth 48 rfl) ly_292 (fg_lt ly_292 (by decide)) (by omega) (hS1.2.1 _ (by omega)) ?_
          refine fg_callV (fg_ft (pc := 94) tb_Mo_worth 49 rfl) cf_Mo_262 (fg_isOf ly_287 rfl (fg_lt ly_287 (by decide))) (as := [.int (nI (610 + 152 * town)), .int (nI 6), .int (nI 139), .int (nI (S.2.1.1 person))]) (st := []) rfl rfl (Nat.le_of_ble_eq_true rfl) (Nat.le_refl _) (Nat.le_refl _) (ev_Mo_fullOfH hM1 hok (m := (S.2.1.1 person)) (by omega) ?_)
          exact fg_iret (fg_ft (pc := 97) tb_Mo_worth 50 rfl) rfl rfl (fg_q (hQ _ (fg_agR_A ha1)) (by unfold an_worth; rw [fg_g1_some y4 y5] <;> ((repeat (first | rw [if_pos (by omega)] | rw [if_neg (by omega)])); (try rfl))))
        · refine fg_aloadn (fg_ft (pc := 60) tb_Mo_worth 31 rfl) rfl ?_
          refine fg_iload (fg_ft (pc := 61) tb_Mo_worth 32 rfl) rfl ?_
          refine fg_iconst (fg_ft (pc := 63) tb_Mo_worth 33 rfl) ic_5 ?_
          refine fg_bipush (fg_ft (pc := 64) tb_Mo_worth 34 rfl) ib_127 ?_
          refine fg_aloadn (fg_ft (pc := 66) tb_Mo_worth 35 rfl) rfl ?_
          refine fg_getR (fg_ft (pc := 67) tb_Mo_worth 36 rfl) ff_Mo_23 ly_287 rfl (fg_lt ly_287 (by decide)) (rh_287_12 R) ?_
          refine fg_iload (fg_ft (pc := 70) tb_Mo_worth 37 rfl) rfl ?_
          refine fg_ialdV (v := (nI (S.2.1.1 person))) (fg_ft (pc := 72) tb_Mo_worth 38 rfl) ly_292 (fg_lt ly_292 (by decide)) (by omega) (hS1.2.1 _ (by omega)) ?_
          refine fg_callV (fg_ft (pc := 73) tb_Mo_worth 39 rfl) cf_Mo_262 (fg_isOf ly_287 rfl (fg_lt ly_287 (by decide))) (as := [.int (nI (610 + 152 * town)), .int (nI 5), .int (nI 127), .int (nI (S.2.1.1 person))]) (st := []) rfl rfl (Nat.le_of_ble_eq_true rfl) (Nat.le_refl _) (Nat.le_refl _) (ev_Mo_fullOfS hM1 hok (m := (S.2.1.1 person)) (by omega) ?_)
          refine fg_goto (tgt := 97) (fg_ft (pc := 76) tb_Mo_worth 40 rfl) (by decide) ?_
          exact fg_iret (fg_ft (pc := 97) tb_Mo_worth 50 rfl) rfl rfl (fg_q (hQ _ (fg_agR_A ha1)) (by unfold an_worth; rw [fg_g1_some y4 y5] <;> ((repeat (first | rw [if_pos (by omega)] | rw [if_neg (by omega)])); (try rfl))))
      · refine fg_aloadn (fg_ft (pc := 38) tb_Mo_worth 20 rfl) rfl ?_
        refine fg_iload (fg_ft (pc := 39) tb_Mo_worth 21 rfl) rfl ?_
        refine fg_aloadn (fg_ft (pc := 41) tb_Mo_worth 22 rfl) rfl ?_
        refine fg_getR (fg_ft (pc := 42) tb_Mo_worth 23 rfl) ff_Mo_23 ly_287 rfl (fg_lt ly_287 (by decide)) (rh_287_12 R) ?_
        refine fg_iload (fg_ft (pc := 45) tb_Mo_worth 24 rfl) rfl ?_
        refine fg_ialdV (v := (nI (S.2.1.1 person))) (fg_ft (pc := 47) tb_Mo_worth 25 rfl) ly_292 (fg_lt ly_292 (by decide)) (by omega) (hS1.2.1 _ (by omega)) ?_
        refine fg_callV (fg_ft (pc := 48) tb_Mo_worth 26 rfl) cf_Mo_266 (fg_isOf ly_287 rfl (fg_lt ly_287 (by decide))) (as := [.int (nI (610 + 152 * town)), .int (nI (S.2.1.1 person))]) (st := []) rfl rfl (Nat.le_of_ble_eq_true rfl) (Nat.le_refl _) (Nat.le_refl _) (ev_Mo_worthOf hM1 hok (m := (S.2.1.1 person)) (by omega) ?_)
        refine fg_goto (tgt := 97) (fg_ft (pc := 51) tb_Mo_worth 27 rfl) (by decide) ?_
        exact fg_iret (fg_ft (pc := 97) tb_Mo_worth 50 rfl) rfl rfl (fg_q (hQ _ (fg_agR_A ha1)) (by unfold an_worth; rw [fg_g1_some y4 y5] <;> ((repeat (first | rw [if_pos (by omega)] | rw [if_neg (by omega)])); (try rfl))))
theorem ev_Mo_gainOf {E : fg_E} {d : Nat} {μ : Nat → Nat → Int32} {R : fg_T4} {Q : Option Value → fg_M → Prop} {v : Nat} {T : Nat → Nat} (hM : fg_MT (μ 288) v T) (hok : fg_ok T) (hC : fg_MC μ T) {m f kd : Nat} (hm : m < 2 ^ T 0) (hb : m.testBit f = true) (hkd : kd < 2 ^ 31) (hQ : Q (some (.int (fg_w T (fg_fgt T m f kd) - fg_w T m))) (μ, fg_rho R, 304))  : fg_Ev E yy_Mo_gainOf (d + 4) [.ref 287, .int (nI v), .int (nI m), .int (nI f), .int (nI kd)] (μ, fg_rho R, 304) 304 Q := by
  have hv0 := hM.1
  have hb0 := hok.1
  have hb1 := hok.2.1
  have hp := hok.p
  have hq := Nat.two_pow_pos (T 0)
  refine fg_intro (by decide +kernel) (Nat.le_of_ble_eq_true rfl) (fg_okAs rfl) (Nat.le_refl _) ?_
  refine fg_aloadn (fg_ft (pc := 0) tb_Mo_gainOf 0 rfl) rfl ?_
  refine fg_iloadn (fg_ft (pc := 1) tb_Mo_gainOf 1 rfl) rfl ?_
  refine fg_aloadn (fg_ft (pc := 2) tb_Mo_gainOf 2 rfl) rfl ?_
  refine fg_iloadn (fg_ft (pc := 3) tb_Mo_gainOf 3 rfl) rfl ?_
  refine fg_iloadn (fg_ft (pc := 4) tb_Mo_gainOf 4 rfl) rfl ?_
  refine fg_iloadn (fg_ft (pc := 5) tb_Mo_gainOf 5 rfl) rfl ?_
  refine fg_iload (fg_ft (pc := 6) tb_Mo_gainOf 6 rfl) rfl ?_
  refine fg_callV (fg_ft (pc := 8) tb_Mo_gainOf 7 rfl) cf_Mo_236 (fg_isOf ly_287 rfl (fg_lt ly_287 (by decide))) (as := [.int (nI v), .int (nI m), .int (nI f), .int (nI kd)]) (st := [.int (nI v), .ref 287]) rfl rfl (Nat.le_of_ble_eq_true rfl) (Nat.le_refl _) (Nat.le_refl _) (ev_Mo_forget hM hok hC (m := m) (f := f) (kd := kd) (hm) (hb) (by omega) ?_)
  refine fg_callV (fg_ft (pc := 11) tb_Mo_gainOf 8 rfl) cf_Mo_266 (fg_isOf ly_287 rfl (fg_lt ly_287 (by decide))) (as := [.int (nI v), .int (nI (fg_fgt T m f kd))]) (st := []) rfl rfl (Nat.le_of_ble_eq_true rfl) (Nat.le_refl _) (Nat.le_refl _) (ev_Mo_worthOf hM hok (m := (fg_fgt T m f kd)) (fg_fgt_lt hok (n := 10) (by omega)) ?_)
  refine fg_aloadn (fg_ft (pc := 14) tb_Mo_gainOf 9 rfl) rfl ?_
  refine fg_iloadn (fg_ft (pc := 15) tb_Mo_gainOf 10 rfl) rfl ?_
  refine fg_iloadn (fg_ft (pc := 16) tb_Mo_gainOf 11 rfl) rfl ?_
  refine fg_callV (fg_ft (pc := 17) tb_Mo_gainOf 12 rfl) cf_Mo_266 (fg_isOf ly_287 rfl (fg_lt ly_287 (by decide))) (as := [.int (nI v), .int (nI m)]) (st := [.int (fg_w T (fg_fgt T m f kd))]) rfl rfl (Nat.le_of_ble_eq_true rfl) (Nat.le_refl _) (Nat.le_refl _) (ev_Mo_worthOf hM hok (m := m) (by omega) ?_)
  refine fg_isub (fg_ft (pc := 20) tb_Mo_gainOf 13 rfl) ?_
  exact fg_iret (fg_ft (pc := 21) tb_Mo_gainOf 14 rfl) rfl rfl (hQ)
theorem ev_Mo_gain {E : fg_E} {d : Nat} {μ : Nat → Nat → Int32} {R : fg_T4} {Q : Option Value → fg_M → Prop} {A : fg_Tl} (hL : fg_ML (μ 288) A) (hw : fg_wA A) (h17 : μ 287 17 = -1) (h19 : μ 287 19 = nI 0) {town day n person fact kind : Nat} (htown : town < 2 ^ 32) (hday : day < 2 ^ 32) (hn : n < 2 ^ 32) (hperson : person < 2 ^ 32) (hfact : fact < 2 ^ 32) (hkind : kind < 2 ^ 32) (hQ : ∀ μ' : Nat → Nat → Int32, fg_agR μ μ' → Q (some (.int (an_gain A town day n person fact kind))) (μ', fg_rho R, 304)) : fg_Ev E yy_Mo_gain (d + 12) [.ref 287, .int (nI town), .int (nI day), .int (nI n), .int (nI person), .int (nI fact), .int (nI kind)] (μ, fg_rho R, 304) 304 Q := by
  have ht2 := hw.2.1
  have hd3 := hw.2.2.1
  refine fg_intro (by decide +kernel) (Nat.le_of_ble_eq_true rfl) (fg_okAs rfl) (Nat.le_refl _) ?_
  refine fg_iload (fg_ft (pc := 0) tb_Mo_gain 0 rfl) rfl ?_
  refine fg_iconst (fg_ft (pc := 2) tb_Mo_gain 1 rfl) ic_0 ?_
  refine fg_iconst (fg_ft (pc := 3) tb_Mo_gain 2 rfl) ic_2 ?_
  refine fg_callS (fg_ft (pc := 4) tb_Mo_gain 3 rfl) cf_Mo_110 (as := [.int (nI kind), .int (nI 0), .int (nI 2)]) (st := []) rfl rfl (Nat.le_of_ble_eq_true rfl) (Nat.le_refl _) (Nat.le_refl _) (ev_Mo_isInC (k := kind) (a := 0) (b := 2) (hkind) (by omega) (by omega) ?_)
  refine fg_ifB_eq (tgt := 24) (fg_ft (pc := 7) tb_Mo_gain 4 rfl) (by decide) (fun c7 => ?_) (fun c7 => ?_)
  · refine fg_ldcw (fg_ft (pc := 24) tb_Mo_gain 13 rfl) fd_Mo_265 ?_
    exact fg_iret (fg_ft (pc := 27) tb_Mo_gain 14 rfl) rfl rfl (fg_q (hQ _ (fg_agR_rf μ)) (by unfold an_gain; rw [fg_g1_cst (by intro T S lv; (repeat (first | rw [if_neg (by omega)] | rw [if_pos (by omega)])); (try (split <;> first | rfl | rw [if_neg (by omega)] | (exfalso; omega))))]))
  · refine fg_aloadn (fg_ft (pc := 10) tb_Mo_gain 5 rfl) rfl ?_
    refine fg_iloadn (fg_ft (pc := 11) tb_Mo_gain 6 rfl) rfl ?_
    refine fg_iloadn (fg_ft (pc := 12) tb_Mo_gain 7 rfl) rfl ?_
    refine fg_iloadn (fg_ft (pc := 13) tb_Mo_gain 8 rfl) rfl ?_
    refine fg_iload (fg_ft (pc := 14) tb_Mo_gain 9 rfl) rfl ?_
    refine fg_iload (fg_ft (pc := 16) tb_Mo_gain 10 rfl) rfl ?_
    refine fg_callV (fg_ft (pc := 18) tb_Mo_gain 11 rfl) cf_Mo_269 (fg_isOf ly_287 rfl (fg_lt ly_287 (by decide))) (as := [.int (nI town), .int (nI day), .int (nI n), .int (nI person), .int (nI fact)]) (st := []) rfl rfl (Nat.le_of_ble_eq_true rfl) (Nat.le_refl _) (Nat.le_refl _) (ev_Mo_hasFact hL hw h17 h19 htown hday hn hperson hfact (fun n4 μ1 ha1 => ?_) (fun S lv y4 y5 y6 μ1 n1 y1 ha1 hC1 hS1 => ?_))
    · refine fg_if_ne (tgt := 28) (fg_ft (pc := 21) tb_Mo_gain 12 rfl) (by decide) (fun h => absurd h (by decide)) (fun _ => ?_)
      refine fg_ldcw (fg_ft (pc := 24) tb_Mo_gain 13 rfl) fd_Mo_265 ?_
      exact fg_iret (fg_ft (pc := 27) tb_Mo_gain 14 rfl) rfl rfl (fg_q (hQ _ (fg_agR_A ha1)) (by rcases n4 with n4 | ⟨S, lv, y4, y5, y6⟩; (unfold an_gain; rw [fg_g1_none n4]); (unfold an_gain; rw [fg_g1_some y4 y5] <;> ((repeat (first | rw [if_pos (by assumption)] | rw [if_neg (by assumption)] | rw [if_pos (by omega)] | rw [if_neg (by omega)] | rw [if_pos (by constructor <;> assumption)] | rw [if_neg (by intro hh; exact absurd hh.1 (by assumption))] | rw [if_neg (by intro hh; exact absurd hh.2 (by assumption))])); (try rfl)))))
    · have ytc := fg_fnd_t y4
      have hok := hw.2.2.2.1 town ytc
      have hM1 := (hL.2.2.1 town ytc).ag ha1.m
      have hz : fg_zok (A.ts town) S.1 (S.2.1.1, 0, 0, 0) S.2.2 := fg_zok.news (fg_fnd_okW hw y4)
      have hv0 := hM1.1
      have hb0 := hok.1
      have hb1 := hok.2.1
      have hp := hok.p
      have hz9 := hz.1
      have hm2 := hz.2.1 person y5
      have hm0 : S.2.1.1 person < 2 ^ A.ts town 0 := hm2.1
      have hmc : fg_clsd (A.ts town) (S.2.1.1 person) := hm2.2
      have hm10 : S.2.1.1 person < 1024 := by omega
      have hfT : fact < A.ts town 0 := fg_bit_lt hm0 y6
      refine fg_if_ne (tgt := 28) (fg_ft (pc := 21) tb_Mo_gain 12 rfl) (by decide) (fun _ => ?_) (fun h => absurd h (by decide))
      refine fg_aloadn (fg_ft (pc := 28) tb_Mo_gain 15 rfl) rfl ?_
      refine fg_iconst (fg_ft (pc := 29) tb_Mo_gain 16 rfl) ic_0 ?_
      refine fg_iloadn (fg_ft (pc := 30) tb_Mo_gain 17 rfl) rfl ?_
      refine fg_callS (fg_ft (pc := 31) tb_Mo_gain 18 rfl) cf_Mo_166 (as := [.int (nI 0), .int (nI town)]) (st := [.ref 287]) rfl rfl (Nat.le_of_ble_eq_true rfl) (Nat.le_refl _) (Nat.le_refl _) (ev_Mo_placeOf0 (k := town) ?_)
      refine fg_aloadn (fg_ft (pc := 34) tb_Mo_gain 19 rfl) rfl ?_
      refine fg_getR (fg_ft (pc := 35) tb_Mo_gain 20 rfl) ff_Mo_23 ly_287 rfl (fg_lt ly_287 (by decide)) (rh_287_12 R) ?_
      refine fg_iload (fg_ft (pc := 38) tb_Mo_gain 21 rfl) rfl ?_
      refine fg_ialdV (v := (nI (S.2.1.1 person))) (fg_ft (pc := 40) tb_Mo_gain 22 rfl) ly_292 (fg_lt ly_292 (by decide)) (by omega) (hS1.2.1 _ (by omega)) ?_
      refine fg_iload (fg_ft (pc := 41) tb_Mo_gain 23 rfl) rfl ?_
      refine fg_iload (fg_ft (pc := 43) tb_Mo_gain 24 rfl) rfl ?_
      refine fg_callV (fg_ft (pc := 45) tb_Mo_gain 25 rfl) cf_Mo_321 (fg_isOf ly_287 rfl (fg_lt ly_287 (by decide))) (as := [.int (nI (610 + 152 * town)), .int (nI (S.2.1.1 person)), .int (nI fact), .int (nI kind)]) (st := []) rfl rfl (Nat.le_of_ble_eq_true rfl) (Nat.le_refl _) (Nat.le_refl _) (ev_Mo_gainOf hM1 hok hC1 (m := (S.2.1.1 person)) (f := fact) (kd := kind) (by assumption) (y6) (by omega) ?_)
      exact fg_iret (fg_ft (pc := 48) tb_Mo_gain 26 rfl) rfl rfl (fg_q (hQ _ (fg_agR_A ha1)) (by unfold an_gain; rw [fg_g1_some y4 y5] <;> ((repeat (first | rw [if_pos (by assumption)] | rw [if_neg (by assumption)] | rw [if_pos (by omega)] | rw [if_neg (by omega)] | rw [if_pos (by constructor <;> assumption)] | rw [if_neg (by intro hh; exact absurd hh.1 (by assumption))] | rw [if_neg (by intro hh; exact absurd hh.2 (by assumption))])); (try rfl))))
theorem ev_Mo_spread {E : fg_E} {d : Nat} {μ : Nat → Nat → Int32} {R : fg_T4} {Q : Option Value → fg_M → Prop} {A : fg_Tl} (hL : fg_ML (μ 288) A) (hw : fg_wA A) (h17 : μ 287 17 = -1) (h19 : μ 287 19 = nI 0) {town day n fact : Nat} (htown : town < 2 ^ 32) (hday : day < 2 ^ 32) (hn : n < 2 ^ 32) (hfact : fact < 2 ^ 32) (hQ : ∀ μ' : Nat → Nat → Int32, fg_agR μ μ' → Q (some (.int (an_spread A town day n fact))) (μ', fg_rho R, 304)) : fg_Ev E yy_Mo_spread (d + 12) [.ref 287, .int (nI town), .int (nI day), .int (nI n), .int (nI fact)] (μ, fg_rho R, 304) 304 Q := by
  have ht2 := hw.2.1
  have hd3 := hw.2.2.1
  refine fg_intro (by decide +kernel) (Nat.le_of_ble_eq_true rfl) (fg_okAs rfl) (Nat.le_refl _) ?_
  refine fg_aloadn (fg_ft (pc := 0) tb_Mo_spread 0 rfl) rfl ?_
  refine fg_iloadn (fg_ft (pc := 1) tb_Mo_spread 1 rfl) rfl ?_
  refine fg_iloadn (fg_ft (pc := 2) tb_Mo_spread 2 rfl) rfl ?_
  refine fg_iloadn (fg_ft (pc := 3) tb_Mo_spread 3 rfl) rfl ?_
  refine fg_callV (fg_ft (pc := 4) tb_Mo_spread 4 rfl) cf_Mo_249 (fg_isOf ly_287 rfl (fg_lt ly_287 (by decide))) (as := [.int (nI town), .int (nI day), .int (nI n)]) (st := []) rfl rfl (Nat.le_of_ble_eq_true rfl) (Nat.le_refl _) (Nat.le_refl _) (ev_Mo_isState hL hw h17 h19 htown hday hn (fun n4 μ1 ha1 => ?_) (fun S lv y4 μ1 n1 y1 ha1 hC1 hS1 => ?_))
  · refine fg_if_eq (tgt := 24) (fg_ft (pc := 7) tb_Mo_spread 5 rfl) (by decide) (fun _ => ?_) (fun h => absurd h (by decide))
    refine fg_iconst (fg_ft (pc := 24) tb_Mo_spread 13 rfl) ic_m1 ?_
    exact fg_iret (fg_ft (pc := 25) tb_Mo_spread 14 rfl) rfl rfl (fg_q (hQ _ (fg_agR_A ha1)) (by unfold an_spread; rw [fg_g0_none n4] <;> ((repeat (first | rw [if_pos (by assumption)] | rw [if_neg (by assumption)] | rw [if_pos (by omega)] | rw [if_neg (by omega)] | rw [if_pos (by constructor <;> assumption)] | rw [if_neg (by intro hh; exact absurd hh.1 (by assumption))] | rw [if_neg (by intro hh; exact absurd hh.2 (by assumption))])); (try rfl))))
  · have ytc := fg_fnd_t y4
    have hok := hw.2.2.2.1 town ytc
    have hM1 := (hL.2.2.1 town ytc).ag ha1.m
    have hz : fg_zok (A.ts town) S.1 (S.2.1.1, 0, 0, 0) S.2.2 := fg_zok.news (fg_fnd_okW hw y4)
    have hv0 := hM1.1
    have hb0 := hok.1
    have hb1 := hok.2.1
    have hp := hok.p
    have hz9 := hz.1
    refine fg_if_eq (tgt := 24) (fg_ft (pc := 7) tb_Mo_spread 5 rfl) (by decide) (fun h => absurd h (by decide)) (fun _ => ?_)
    refine fg_aloadn (fg_ft (pc := 10) tb_Mo_spread 6 rfl) rfl ?_
    refine fg_iconst (fg_ft (pc := 11) tb_Mo_spread 7 rfl) ic_0 ?_
    refine fg_iloadn (fg_ft (pc := 12) tb_Mo_spread 8 rfl) rfl ?_
    refine fg_callS (fg_ft (pc := 13) tb_Mo_spread 9 rfl) cf_Mo_166 (as := [.int (nI 0), .int (nI town)]) (st := [.ref 287]) rfl rfl (Nat.le_of_ble_eq_true rfl) (Nat.le_refl _) (Nat.le_refl _) (ev_Mo_placeOf0 (k := town) ?_)
    refine fg_iload (fg_ft (pc := 16) tb_Mo_spread 10 rfl) rfl ?_
    refine fg_callV (fg_ft (pc := 18) tb_Mo_spread 11 rfl) cf_Mo_233 (fg_isOf ly_287 rfl (fg_lt ly_287 (by decide))) (as := [.int (nI (610 + 152 * town)), .int (nI fact)]) (st := []) rfl rfl (Nat.le_of_ble_eq_true rfl) (Nat.le_refl _) (Nat.le_refl _) (ev_Mo_isFact hM1 hok (k := fact) (hfact) ?_)
    refine fg_ifB_ne (tgt := 26) (fg_ft (pc := 21) tb_Mo_spread 12 rfl) (by decide) (fun c21 => ?_) (fun c21 => ?_)
    · refine fg_iconst (fg_ft (pc := 26) tb_Mo_spread 15 rfl) ic_0 ?_
      refine fg_iloadn (fg_ft (pc := 27) tb_Mo_spread 16 rfl) rfl ?_
      refine fg_callS (fg_ft (pc := 28) tb_Mo_spread 17 rfl) cf_Mo_166 (as := [.int (nI 0), .int (nI town)]) (st := []) rfl rfl (Nat.le_of_ble_eq_true rfl) (Nat.le_refl _) (Nat.le_refl _) (ev_Mo_placeOf0 (k := town) ?_)
      refine fg_istore (fg_ft (pc := 31) tb_Mo_spread 18 rfl) (Nat.le_of_ble_eq_true rfl) ?_
      refine fg_aloadn (fg_ft (pc := 33) tb_Mo_spread 19 rfl) rfl ?_
      refine fg_iload (fg_ft (pc := 34) tb_Mo_spread 20 rfl) rfl ?_
      refine fg_callV (fg_ft (pc := 36) tb_Mo_spread 21 rfl) cf_Mo_255 (fg_isOf ly_287 rfl (fg_lt ly_287 (by decide))) (as := [.int (nI (610 + 152 * town))]) (st := []) rfl rfl (Nat.le_of_ble_eq_true rfl) (Nat.le_refl _) (Nat.le_refl _) (ev_Mo_toEvening hM1 hok hC1 (h := S.1) (Z := (S.2.1.1, 0, 0, 0)) (hv := S.2.2) (lv := lv) (o := ((none : Option Nat), 0, 0)) (n0 := n1) (y := y1) hS1 hz (fun q hq => by cases hq) (by decide) (by decide) ?_)
      intro μ2 hag2 hS2
      have hM2 := hM1.agP hag2
      have hC2 := hC1.agP hag2
      have hS2 : fg_MS μ2 (A.ts town) (fg_ev (A.ts town) S) lv ((none : Option Nat), 0, 0) n1 y1 := hS2
      have hz2 := fg_ev_ok hok (S := S) hz
      show fg_wp _ _ _ _ _ _ _ _ _ (μ2, fg_rho R, 304)
      refine fg_iconst (fg_ft (pc := 39) tb_Mo_spread 22 rfl) ic_0 ?_
      refine fg_istore (fg_ft (pc := 40) tb_Mo_spread 23 rfl) (Nat.le_of_ble_eq_true rfl) ?_
      refine fg_iconst (fg_ft (pc := 42) tb_Mo_spread 24 rfl) ic_0 ?_
      refine fg_istore (fg_ft (pc := 43) tb_Mo_spread 25 rfl) (Nat.le_of_ble_eq_true rfl) ?_
      have loop : ∀ (m k a : Nat), A.ts town 2 - k < m → k ≤ A.ts town 2 → a = fg_whoL (fg_ev (A.ts town) S).2.1.1 fact k → fg_wp E yy_Mo_spread (d + 12) 304 304 Q 45 [.ref 287, .int (nI town), .int (nI day), .int (nI n), .int (nI fact), .int (nI (610 + 152 * town)), .int (nI a), .int (nI k)] [] (μ2, fg_rho R, 304) := by
        intro m
        induction m with
        | zero => intro k a h; exact absurd h (Nat.not_lt_zero _)
        | succ m ih =>
          intro k a hm hk ha
          refine fg_iload (fg_ft (pc := 45) tb_Mo_spread 26 rfl) rfl ?_
          refine fg_aloadn (fg_ft (pc := 47) tb_Mo_spread 27 rfl) rfl ?_
          refine fg_getR (fg_ft (pc := 48) tb_Mo_spread 28 rfl) ff_Mo_7 ly_287 rfl (fg_lt ly_287 (by decide)) (rh_287_0 R) ?_
          refine fg_iload (fg_ft (pc := 51) tb_Mo_spread 29 rfl) rfl ?_
          refine fg_iconst (fg_ft (pc := 53) tb_Mo_spread 30 rfl) ic_2 ?_
          refine fg_iaddN (fg_ft (pc := 54) tb_Mo_spread 31 rfl) ?_
          refine fg_ialdV (v := (nI ((A.ts town) 2))) (fg_ft (pc := 55) tb_Mo_spread 32 rfl) ly_288 (fg_lt ly_288 (by decide)) (by omega) (fg_MTat hM2 (i := (610 + 152 * town) + 2) (k := 2) (by omega) (by omega)) ?_
          refine fg_icmp_geN (tgt := 89) (fg_ft (pc := 56) tb_Mo_spread 33 rfl) (by decide) (by omega) (by omega) (fun c56 => ?_) (fun c56 => ?_)
          · refine fg_iload (fg_ft (pc := 89) tb_Mo_spread 49 rfl) rfl ?_
            exact fg_iret (fg_ft (pc := 91) tb_Mo_spread 50 rfl) rfl rfl (fg_q (hQ _ (fg_agR_tr (fg_agR_A ha1) (fg_agR_P hag2))) (by unfold an_spread; rw [fg_g0_some y4] <;> (rw [if_pos c21, ha, show k = A.ts town 2 by omega])))
          · refine fg_iload (fg_ft (pc := 59) tb_Mo_spread 34 rfl) rfl ?_
            refine fg_aloadn (fg_ft (pc := 61) tb_Mo_spread 35 rfl) rfl ?_
            refine fg_iload (fg_ft (pc := 62) tb_Mo_spread 36 rfl) rfl ?_
            refine fg_iload (fg_ft (pc := 64) tb_Mo_spread 37 rfl) rfl ?_
            refine fg_callV (fg_ft (pc := 66) tb_Mo_spread 38 rfl) cf_Mo_212 (fg_isOf ly_287 rfl (fg_lt ly_287 (by decide))) (as := [.int (nI k), .int (nI fact)]) (st := [.int (nI a)]) rfl rfl (Nat.le_of_ble_eq_true rfl) (Nat.le_refl _) (Nat.le_refl _) (ev_Mo_knows (Mv := (fg_ev (A.ts town) S).2.1.1) (T := (A.ts town)) (hS2.2.1) (p := k) (f := fact) (by omega) (by omega) (fg_km hok hz2 (by omega)) ?_)
            refine fg_ifB_eq (tgt := 79) (fg_ft (pc := 69) tb_Mo_spread 39 rfl) (by decide) (fun c69 => ?_) (fun c69 => ?_)
            · refine fg_iconst (fg_ft (pc := 79) tb_Mo_spread 44 rfl) ic_0 ?_
              refine fg_iorN (fg_ft (pc := 80) tb_Mo_spread 45 rfl) ?_
              refine fg_istore (fg_ft (pc := 81) tb_Mo_spread 46 rfl) (Nat.le_of_ble_eq_true rfl) ?_
              refine fg_iincN (fg_ft (pc := 83) tb_Mo_spread 47 rfl) rfl ic_1 rfl ?_
              refine fg_goto (tgt := 45) (fg_ft (pc := 86) tb_Mo_spread 48 rfl) (by decide) ?_
              exact ih (k + 1) _ (by omega) (by omega) (by rw [ha]; show _ = fg_whoL (fg_ev (A.ts town) S).2.1.1 fact k ||| _; rw [if_neg c69])
            · refine fg_iconst (fg_ft (pc := 72) tb_Mo_spread 40 rfl) ic_1 ?_
              refine fg_iload (fg_ft (pc := 73) tb_Mo_spread 41 rfl) rfl ?_
              refine fg_ishl1 (fg_ft (pc := 75) tb_Mo_spread 42 rfl) (by omega) ?_
              refine fg_goto (tgt := 80) (fg_ft (pc := 76) tb_Mo_spread 43 rfl) (by decide) ?_
              refine fg_iorN (fg_ft (pc := 80) tb_Mo_spread 45 rfl) ?_
              refine fg_istore (fg_ft (pc := 81) tb_Mo_spread 46 rfl) (Nat.le_of_ble_eq_true rfl) ?_
              refine fg_iincN (fg_ft (pc := 83) tb_Mo_spread 47 rfl) rfl ic_1 rfl ?_
              refine fg_goto (tgt := 45) (fg_ft (pc := 86) tb_Mo_spread 48 rfl) (by decide) ?_
              exact ih (k + 1) _ (by omega) (by omega) (by rw [ha]; show _ = fg_whoL (fg_ev (A.ts town) S).2.1.1 fact k ||| _; rw [if_pos c69])
      exact loop (A.ts town 2 + 1) 0 0 (by omega) (by omega) rfl
    · refine fg_iconst (fg_ft (pc := 24) tb_Mo_spread 13 rfl) ic_m1 ?_
      exact fg_iret (fg_ft (pc := 25) tb_Mo_spread 14 rfl) rfl rfl (fg_q (hQ _ (fg_agR_A ha1)) (by unfold an_spread; rw [fg_g0_some y4] <;> ((repeat (first | rw [if_pos (by assumption)] | rw [if_neg (by assumption)] | rw [if_pos (by omega)] | rw [if_neg (by omega)] | rw [if_pos (by constructor <;> assumption)] | rw [if_neg (by intro hh; exact absurd hh.1 (by assumption))] | rw [if_neg (by intro hh; exact absurd hh.2 (by assumption))])); (try rfl))))
theorem fg_ch_step {T : Nat → Nat} {o : Option Nat × Nat × Nat} {p k : Nat} {S : fg_H3} (hn : ¬ (S.2.1.1 p).testBit k = true) (h : S.1 < 9) : fg_ch T o p k (9 - (fg_ph T o S).1) (fg_ph T o S) = fg_ch T o p k (9 - S.1) S := by
  rw [fg_ph_h h, show 9 - S.1 = 9 - (S.1 + 1) + 1 by omega]
  simp only [fg_ch]
  rw [if_neg (fun hh => hn hh.2)]
theorem fg_ch_stop {T : Nat → Nat} {o : Option Nat × Nat × Nat} {p k : Nat} {S : fg_H3} (hp : p < T 2) (h : (S.2.1.1 p).testBit k = true ∨ ¬ S.1 < 9) : fg_ch T o p k (9 - S.1) S = S := by
  rcases Nat.eq_zero_or_pos (9 - S.1) with z | z
  · rw [z]; rfl
  · obtain ⟨n, hn⟩ : ∃ n, 9 - S.1 = n + 1 := ⟨9 - S.1 - 1, by omega⟩
    rw [hn]
    simp only [fg_ch]
    rcases h with h | h
    · rw [if_pos ⟨hp, h⟩]
    · exact absurd h (by omega)
theorem ev_Mo_again {E : fg_E} {d : Nat} {μ : Nat → Nat → Int32} {R : fg_T4} {Q : Option Value → fg_M → Prop} {A : fg_Tl} (hL : fg_ML (μ 288) A) (hw : fg_wA A) (h17 : μ 287 17 = -1) (h19 : μ 287 19 = nI 0) {town day n person fact : Nat} (htown : town < 2 ^ 32) (hday : day < 2 ^ 32) (hn : n < 2 ^ 32) (hperson : person < 2 ^ 32) (hfact : fact < 2 ^ 32) (hQ : ∀ μ' : Nat → Nat → Int32, fg_agR μ μ' → Q (some (.int (an_again A town day n person fact))) (μ', fg_rho R, 304)) : fg_Ev E yy_Mo_again (d + 12) [.ref 287, .int (nI town), .int (nI day), .int (nI n), .int (nI person), .int (nI fact)] (μ, fg_rho R, 304) 304 Q := by
  have ht2 := hw.2.1
  have hd3 := hw.2.2.1
  refine fg_intro (by decide +kernel) (Nat.le_of_ble_eq_true rfl) (fg_okAs rfl) (Nat.le_refl _) ?_
  refine fg_aloadn (fg_ft (pc := 0) tb_Mo_again 0 rfl) rfl ?_
  refine fg_iloadn (fg_ft (pc := 1) tb_Mo_again 1 rfl) rfl ?_
  refine fg_iloadn (fg_ft (pc := 2) tb_Mo_again 2 rfl) rfl ?_
  refine fg_iloadn (fg_ft (pc := 3) tb_Mo_again 3 rfl) rfl ?_
  refine fg_iload (fg_ft (pc := 4) tb_Mo_again 4 rfl) rfl ?_
  refine fg_callV (fg_ft (pc := 6) tb_Mo_again 5 rfl) cf_Mo_258 (fg_isOf ly_287 rfl (fg_lt ly_287 (by decide))) (as := [.int (nI town), .int (nI day), .int (nI n), .int (nI person)]) (st := []) rfl rfl (Nat.le_of_ble_eq_true rfl) (Nat.le_refl _) (Nat.le_refl _) (ev_Mo_isOne hL hw h17 h19 htown hday hn hperson (fun n4 μ1 ha1 => ?_) (fun S lv y4 y5 μ1 n1 y1 ha1 hC1 hS1 => ?_))
  · refine fg_if_eq (tgt := 26) (fg_ft (pc := 9) tb_Mo_again 6 rfl) (by decide) (fun _ => ?_) (fun h => absurd h (by decide))
    refine fg_iconst (fg_ft (pc := 26) tb_Mo_again 14 rfl) ic_m1 ?_
    exact fg_iret (fg_ft (pc := 27) tb_Mo_again 15 rfl) rfl rfl (fg_q (hQ _ (fg_agR_A ha1)) (by unfold an_again; rw [fg_g1_none n4] <;> ((repeat (first | rw [if_pos (by assumption)] | rw [if_neg (by assumption)] | rw [if_pos (by omega)] | rw [if_neg (by omega)] | rw [if_pos (by constructor <;> assumption)] | rw [if_neg (by intro hh; exact absurd hh.1 (by assumption))] | rw [if_neg (by intro hh; exact absurd hh.2 (by assumption))])); (try rfl))))
  · have ytc := fg_fnd_t y4
    have hok := hw.2.2.2.1 town ytc
    have hM1 := (hL.2.2.1 town ytc).ag ha1.m
    have hz : fg_zok (A.ts town) S.1 (S.2.1.1, 0, 0, 0) S.2.2 := fg_zok.news (fg_fnd_okW hw y4)
    have hv0 := hM1.1
    have hb0 := hok.1
    have hb1 := hok.2.1
    have hp := hok.p
    have hz9 := hz.1
    have hm2 := hz.2.1 person y5
    have hm0 : S.2.1.1 person < 2 ^ A.ts town 0 := hm2.1
    have hmc : fg_clsd (A.ts town) (S.2.1.1 person) := hm2.2
    have hm10 : S.2.1.1 person < 1024 := by omega
    refine fg_if_eq (tgt := 26) (fg_ft (pc := 9) tb_Mo_again 6 rfl) (by decide) (fun h => absurd h (by decide)) (fun _ => ?_)
    refine fg_aloadn (fg_ft (pc := 12) tb_Mo_again 7 rfl) rfl ?_
    refine fg_iconst (fg_ft (pc := 13) tb_Mo_again 8 rfl) ic_0 ?_
    refine fg_iloadn (fg_ft (pc := 14) tb_Mo_again 9 rfl) rfl ?_
    refine fg_callS (fg_ft (pc := 15) tb_Mo_again 10 rfl) cf_Mo_166 (as := [.int (nI 0), .int (nI town)]) (st := [.ref 287]) rfl rfl (Nat.le_of_ble_eq_true rfl) (Nat.le_refl _) (Nat.le_refl _) (ev_Mo_placeOf0 (k := town) ?_)
    refine fg_iload (fg_ft (pc := 18) tb_Mo_again 11 rfl) rfl ?_
    refine fg_callV (fg_ft (pc := 20) tb_Mo_again 12 rfl) cf_Mo_233 (fg_isOf ly_287 rfl (fg_lt ly_287 (by decide))) (as := [.int (nI (610 + 152 * town)), .int (nI fact)]) (st := []) rfl rfl (Nat.le_of_ble_eq_true rfl) (Nat.le_refl _) (Nat.le_refl _) (ev_Mo_isFact hM1 hok (k := fact) (hfact) ?_)
    refine fg_ifB_ne (tgt := 28) (fg_ft (pc := 23) tb_Mo_again 13 rfl) (by decide) (fun c23 => ?_) (fun c23 => ?_)
    · have loop : ∀ (m : Nat) (S' : fg_H3) (ν : Nat → Nat → Int32), 9 - S'.1 < m → fg_zs (A.ts town) S' → fg_agP μ1 ν → fg_MS ν (A.ts town) S' lv ((none : Option Nat), 0, 0) n1 y1 → fg_ch (A.ts town) ((none : Option Nat), 0, 0) person fact (9 - S'.1) S' = (fg_cm (A.ts town) S person fact) → fg_wp E yy_Mo_again (d + 12) 304 304 Q 28 [.ref 287, .int (nI town), .int (nI day), .int (nI n), .int (nI person), .int (nI fact)] [] (ν, fg_rho R, 304) := by
        intro m
        induction m with
        | zero => intro S' ν h; exact absurd h (Nat.not_lt_zero _)
        | succ m ih =>
          intro S' ν hm hzn hag hSn hch
          have hMn := hM1.agP hag
          have hCn := hC1.agP hag
          have hz9n := hzn.1
          refine fg_aloadn (fg_ft (pc := 28) tb_Mo_again 16 rfl) rfl ?_
          refine fg_iload (fg_ft (pc := 29) tb_Mo_again 17 rfl) rfl ?_
          refine fg_iload (fg_ft (pc := 31) tb_Mo_again 18 rfl) rfl ?_
          refine fg_callV (fg_ft (pc := 33) tb_Mo_again 19 rfl) cf_Mo_212 (fg_isOf ly_287 rfl (fg_lt ly_287 (by decide))) (as := [.int (nI person), .int (nI fact)]) (st := []) rfl rfl (Nat.le_of_ble_eq_true rfl) (Nat.le_refl _) (Nat.le_refl _) (ev_Mo_knows (Mv := S'.2.1.1) (T := (A.ts town)) (hSn.2.1) (p := person) (f := fact) (by omega) (by omega) (fg_km hok hzn (by omega)) ?_)
          refine fg_ifB_ne (tgt := 60) (fg_ft (pc := 36) tb_Mo_again 20 rfl) (by decide) (fun c36 => ?_) (fun c36 => ?_)
          · refine fg_aloadn (fg_ft (pc := 60) tb_Mo_again 31 rfl) rfl ?_
            refine fg_iload (fg_ft (pc := 61) tb_Mo_again 32 rfl) rfl ?_
            refine fg_iload (fg_ft (pc := 63) tb_Mo_again 33 rfl) rfl ?_
            refine fg_callV (fg_ft (pc := 65) tb_Mo_again 34 rfl) cf_Mo_212 (fg_isOf ly_287 rfl (fg_lt ly_287 (by decide))) (as := [.int (nI person), .int (nI fact)]) (st := []) rfl rfl (Nat.le_of_ble_eq_true rfl) (Nat.le_refl _) (Nat.le_refl _) (ev_Mo_knows (Mv := S'.2.1.1) (T := (A.ts town)) (hSn.2.1) (p := person) (f := fact) (by omega) (by omega) (fg_km hok hzn (by omega)) ?_)
            refine fg_ifB_eq (tgt := 78) (fg_ft (pc := 68) tb_Mo_again 35 rfl) (by decide) (fun c68 => ?_) (fun c68 => ?_)
            · refine fg_iconst (fg_ft (pc := 78) tb_Mo_again 39 rfl) ic_m1 ?_
              exact fg_iret (fg_ft (pc := 79) tb_Mo_again 40 rfl) rfl rfl (fg_q (hQ _ (fg_agR_tr (fg_agR_A ha1) (fg_agR_P hag))) (by unfold an_again; rw [fg_g1_some y4 y5] <;> (rw [if_pos c23, ← hch, fg_ch_stop y5 (by first | exact Or.inl c36 | exact Or.inr (by omega))]; first | rw [if_pos c68] | rw [if_neg c68])))
            · refine fg_aloadn (fg_ft (pc := 71) tb_Mo_again 36 rfl) rfl ?_
              refine fg_getV (v := (nI (S'.1))) (fg_ft (pc := 72) tb_Mo_again 37 rfl) ff_Mo_200 ly_287 rfl (fg_lt ly_287 (by decide)) hSn.1 ?_
              refine fg_goto (tgt := 79) (fg_ft (pc := 75) tb_Mo_again 38 rfl) (by decide) ?_
              exact fg_iret (fg_ft (pc := 79) tb_Mo_again 40 rfl) rfl rfl (fg_q (hQ _ (fg_agR_tr (fg_agR_A ha1) (fg_agR_P hag))) (by unfold an_again; rw [fg_g1_some y4 y5] <;> (rw [if_pos c23, ← hch, fg_ch_stop y5 (by first | exact Or.inl c36 | exact Or.inr (by omega))]; first | rw [if_pos c68] | rw [if_neg c68])))
          · refine fg_aloadn (fg_ft (pc := 39) tb_Mo_again 21 rfl) rfl ?_
            refine fg_getV (v := (nI (S'.1))) (fg_ft (pc := 40) tb_Mo_again 22 rfl) ff_Mo_200 ly_287 rfl (fg_lt ly_287 (by decide)) hSn.1 ?_
            refine fg_bipush (fg_ft (pc := 43) tb_Mo_again 23 rfl) ib_9 ?_
            refine fg_icmp_geN (tgt := 60) (fg_ft (pc := 45) tb_Mo_again 24 rfl) (by decide) (by omega) (by decide) (fun c45 => ?_) (fun c45 => ?_)
            · refine fg_aloadn (fg_ft (pc := 60) tb_Mo_again 31 rfl) rfl ?_
              refine fg_iload (fg_ft (pc := 61) tb_Mo_again 32 rfl) rfl ?_
              refine fg_iload (fg_ft (pc := 63) tb_Mo_again 33 rfl) rfl ?_
              refine fg_callV (fg_ft (pc := 65) tb_Mo_again 34 rfl) cf_Mo_212 (fg_isOf ly_287 rfl (fg_lt ly_287 (by decide))) (as := [.int (nI person), .int (nI fact)]) (st := []) rfl rfl (Nat.le_of_ble_eq_true rfl) (Nat.le_refl _) (Nat.le_refl _) (ev_Mo_knows (Mv := S'.2.1.1) (T := (A.ts town)) (hSn.2.1) (p := person) (f := fact) (by omega) (by omega) (fg_km hok hzn (by omega)) ?_)
              refine fg_ifB_eq (tgt := 78) (fg_ft (pc := 68) tb_Mo_again 35 rfl) (by decide) (fun c68 => ?_) (fun c68 => ?_)
              · refine fg_iconst (fg_ft (pc := 78) tb_Mo_again 39 rfl) ic_m1 ?_
                exact fg_iret (fg_ft (pc := 79) tb_Mo_again 40 rfl) rfl rfl (fg_q (hQ _ (fg_agR_tr (fg_agR_A ha1) (fg_agR_P hag))) (by unfold an_again; rw [fg_g1_some y4 y5] <;> (rw [if_pos c23, ← hch, fg_ch_stop y5 (by first | exact Or.inl c36 | exact Or.inr (by omega))]; first | rw [if_pos c68] | rw [if_neg c68])))
              · refine fg_aloadn (fg_ft (pc := 71) tb_Mo_again 36 rfl) rfl ?_
                refine fg_getV (v := (nI (S'.1))) (fg_ft (pc := 72) tb_Mo_again 37 rfl) ff_Mo_200 ly_287 rfl (fg_lt ly_287 (by decide)) hSn.1 ?_
                refine fg_goto (tgt := 79) (fg_ft (pc := 75) tb_Mo_again 38 rfl) (by decide) ?_
                exact fg_iret (fg_ft (pc := 79) tb_Mo_again 40 rfl) rfl rfl (fg_q (hQ _ (fg_agR_tr (fg_agR_A ha1) (fg_agR_P hag))) (by unfold an_again; rw [fg_g1_some y4 y5] <;> (rw [if_pos c23, ← hch, fg_ch_stop y5 (by first | exact Or.inl c36 | exact Or.inr (by omega))]; first | rw [if_pos c68] | rw [if_neg c68])))
            · refine fg_aloadn (fg_ft (pc := 48) tb_Mo_again 25 rfl) rfl ?_
              refine fg_iconst (fg_ft (pc := 49) tb_Mo_again 26 rfl) ic_0 ?_
              refine fg_iloadn (fg_ft (pc := 50) tb_Mo_again 27 rfl) rfl ?_
              refine fg_callS (fg_ft (pc := 51) tb_Mo_again 28 rfl) cf_Mo_166 (as := [.int (nI 0), .int (nI town)]) (st := [.ref 287]) rfl rfl (Nat.le_of_ble_eq_true rfl) (Nat.le_refl _) (Nat.le_refl _) (ev_Mo_placeOf0 (k := town) ?_)
              refine fg_callV (fg_ft (pc := 54) tb_Mo_again 29 rfl) cf_Mo_227 (fg_isOf ly_287 rfl (fg_lt ly_287 (by decide))) (as := [.int (nI (610 + 152 * town))]) (st := []) rfl rfl (Nat.le_of_ble_eq_true rfl) (Nat.le_refl _) (Nat.le_refl _) (ev_Mo_passHour (R := R) hMn hok hCn (h := S'.1) (Z := S'.2.1) (hv := S'.2.2) (lv := lv) (o := ((none : Option Nat), 0, 0)) (n0 := n1) (y := y1) hSn hzn (fun q hq => by cases hq) (by decide) (by decide) (by omega) ?_)
              intro μ2 hag2 hS2
              show fg_wp _ _ _ _ _ _ _ _ _ (μ2, fg_rho R, 304)
              refine fg_goto (tgt := 28) (fg_ft (pc := 57) tb_Mo_again 30 rfl) (by decide) ?_
              exact ih (fg_ph (A.ts town) ((none : Option Nat), 0, 0) S') μ2 (by rw [fg_ph_h c45]; omega) (fg_zok.ph hok hzn) (fg_agP_tr hag hag2) hS2 (by rw [fg_ch_step c36 c45]; exact hch)
      exact loop 10 (S.1, (S.2.1.1, 0, 0, 0), S.2.2) μ1 (by show 9 - S.1 < 10; omega) hz (fg_agP_rf μ1) hS1 rfl
    · refine fg_iconst (fg_ft (pc := 26) tb_Mo_again 14 rfl) ic_m1 ?_
      exact fg_iret (fg_ft (pc := 27) tb_Mo_again 15 rfl) rfl rfl (fg_q (hQ _ (fg_agR_A ha1)) (by unfold an_again; rw [fg_g1_some y4 y5] <;> ((repeat (first | rw [if_pos (by assumption)] | rw [if_neg (by assumption)] | rw [if_pos (by omega)] | rw [if_neg (by omega)] | rw [if_pos (by constructor <;> assumption)] | rw [if_neg (by intro hh; exact absurd hh.1 (by assumption))] | rw [if_neg (by intro hh; exact absurd hh.2 (by assumption))])); (try rfl))))
