theorem ev_Town_all {E : fg_E} {d : Nat} {μ : Nat → Nat → Int32} {R : fg_T4} {Q : Option Value → fg_M → Prop} {t : Nat} {T : Nat → Nat} (ht : fg_isT t) (hT : fg_TW μ t T) (hok : fg_ok T) (hQ : Q (some (.int (nI (2 ^ T 0 - 1)))) (μ, fg_rho R, 304)) : fg_Ev E yy_Town_all (d + 1) [.ref t] (μ, fg_rho R, 304) 304 Q := by
  have hb0 := hok.1
  have hb1 := hok.2.1
  have hp := hok.p
  have hq := Nat.two_pow_pos (T 0)
  refine fg_intro (by decide +kernel) (Nat.le_of_ble_eq_true rfl) (fg_okAs rfl) (Nat.le_refl _) ?_
  refine fg_iconst (fg_ft (pc := 0) tb_Town_all 0 rfl) ic_1 ?_
  refine fg_aloadn (fg_ft (pc := 1) tb_Town_all 1 rfl) rfl ?_
  refine fg_getV (v := (nI (T 0))) (fg_ft (pc := 2) tb_Town_all 2 rfl) ff_Town_9 (tT_lay ht) rfl (fg_lt (tT_lay ht) (by decide)) hT.1.1 ?_
  refine fg_ishl1 (fg_ft (pc := 5) tb_Town_all 3 rfl) (by omega) ?_
  refine fg_iconst (fg_ft (pc := 6) tb_Town_all 4 rfl) ic_1 ?_
  refine fg_isubN (fg_ft (pc := 7) tb_Town_all 5 rfl) (by omega) ?_
  exact fg_iret (fg_ft (pc := 8) tb_Town_all 6 rfl) rfl rfl (hQ)
theorem ev_Town_hasFact {E : fg_E} {d : Nat} {μ : Nat → Nat → Int32} {R : fg_T4} {Q : Option Value → fg_M → Prop} {t : Nat} {T : Nat → Nat} (ht : fg_isT t) (hT : fg_TW μ t T) (hok : fg_ok T) {k : Nat} (hk : k < 2 ^ 31) (hQ : Q (some (.int (fg_bI (k < T 0)))) (μ, fg_rho R, 304)) : fg_Ev E yy_Town_hasFact (d + 1) [.ref t, .int (nI k)] (μ, fg_rho R, 304) 304 Q := by
  have hb0 := hok.1
  have hb1 := hok.2.1
  have hp := hok.p
  have hq := Nat.two_pow_pos (T 0)
  refine fg_intro (by decide +kernel) (Nat.le_of_ble_eq_true rfl) (fg_okAs rfl) (Nat.le_refl _) ?_
  refine fg_iloadn (fg_ft (pc := 0) tb_Town_hasFact 0 rfl) rfl ?_
  refine fg_if_ltN (tgt := 16) (fg_ft (pc := 1) tb_Town_hasFact 1 rfl) (by decide) (hk) ?_
  refine fg_iloadn (fg_ft (pc := 4) tb_Town_hasFact 2 rfl) rfl ?_
  refine fg_aloadn (fg_ft (pc := 5) tb_Town_hasFact 3 rfl) rfl ?_
  refine fg_getV (v := (nI (T 0))) (fg_ft (pc := 6) tb_Town_hasFact 4 rfl) ff_Town_9 (tT_lay ht) rfl (fg_lt (tT_lay ht) (by decide)) hT.1.1 ?_
  refine fg_icmp_geN (tgt := 16) (fg_ft (pc := 9) tb_Town_hasFact 5 rfl) (by decide) (hk) (by omega) (fun c9 => ?_) (fun c9 => ?_)
  · refine fg_iconst (fg_ft (pc := 16) tb_Town_hasFact 8 rfl) ic_0 ?_
    exact fg_zret (fg_ft (pc := 17) tb_Town_hasFact 9 rfl) rfl (by decide) rfl (by rw [fg_bF (by omega)] at hQ; exact hQ)
  · refine fg_iconst (fg_ft (pc := 12) tb_Town_hasFact 6 rfl) ic_1 ?_
    refine fg_goto (tgt := 17) (fg_ft (pc := 13) tb_Town_hasFact 7 rfl) (by decide) ?_
    exact fg_zret (fg_ft (pc := 17) tb_Town_hasFact 9 rfl) rfl (by decide) rfl (by rw [fg_bT (by omega)] at hQ; exact hQ)
theorem ev_Town_hasFactNeg {E : fg_E} {d : Nat} {μ : Nat → Nat → Int32} {R : fg_T4} {Q : Option Value → fg_M → Prop} {t : Nat} {T : Nat → Nat} (ht : fg_isT t) (hT : fg_TW μ t T) (hok : fg_ok T) {x : Int32} (hx : x < 0) (hQ : Q (some (.int (nI 0))) (μ, fg_rho R, 304)) : fg_Ev E yy_Town_hasFact (d + 1) [.ref t, .int x] (μ, fg_rho R, 304) 304 Q := by
  have hb0 := hok.1
  have hb1 := hok.2.1
  have hp := hok.p
  have hq := Nat.two_pow_pos (T 0)
  refine fg_intro (by decide +kernel) (Nat.le_of_ble_eq_true rfl) (fg_okAs rfl) (Nat.le_refl _) ?_
  refine fg_iloadn (fg_ft (pc := 0) tb_Town_hasFact 0 rfl) rfl ?_
  refine fg_if_lt (tgt := 16) (fg_ft (pc := 1) tb_Town_hasFact 1 rfl) (by decide) (fun c1 => ?_) (fun c1 => (absurd hx c1))
  refine fg_iconst (fg_ft (pc := 16) tb_Town_hasFact 8 rfl) ic_0 ?_
  exact fg_zret (fg_ft (pc := 17) tb_Town_hasFact 9 rfl) rfl (by decide) rfl (hQ)
theorem ev_Town_hasPerson {E : fg_E} {d : Nat} {μ : Nat → Nat → Int32} {R : fg_T4} {Q : Option Value → fg_M → Prop} {t : Nat} {T : Nat → Nat} (ht : fg_isT t) (hT : fg_TW μ t T) (hok : fg_ok T) {k : Nat} (hk : k < 2 ^ 31) (hQ : Q (some (.int (fg_bI (k < T 2)))) (μ, fg_rho R, 304)) : fg_Ev E yy_Town_hasPerson (d + 1) [.ref t, .int (nI k)] (μ, fg_rho R, 304) 304 Q := by
  have hb0 := hok.1
  have hb1 := hok.2.1
  have hp := hok.p
  have hq := Nat.two_pow_pos (T 0)
  refine fg_intro (by decide +kernel) (Nat.le_of_ble_eq_true rfl) (fg_okAs rfl) (Nat.le_refl _) ?_
  refine fg_iloadn (fg_ft (pc := 0) tb_Town_hasPerson 0 rfl) rfl ?_
  refine fg_if_ltN (tgt := 19) (fg_ft (pc := 1) tb_Town_hasPerson 1 rfl) (by decide) (hk) ?_
  refine fg_iloadn (fg_ft (pc := 4) tb_Town_hasPerson 2 rfl) rfl ?_
  refine fg_aloadn (fg_ft (pc := 5) tb_Town_hasPerson 3 rfl) rfl ?_
  refine fg_getR (fg_ft (pc := 6) tb_Town_hasPerson 4 rfl) ff_Town_27 (tT_lay ht) rfl (fg_lt (tT_lay ht) (by decide)) (tT_r3 ht) ?_
  refine fg_getV (v := (nI (T 2))) (fg_ft (pc := 9) tb_Town_hasPerson 5 rfl) ff_Town_46 ((tT_w3 (R := R) ht).1) rfl (fg_lt ((tT_w3 (R := R) ht).1) (by decide)) hT.2.2.1.2.1 ?_
  refine fg_icmp_geN (tgt := 19) (fg_ft (pc := 12) tb_Town_hasPerson 6 rfl) (by decide) (hk) (by omega) (fun c12 => ?_) (fun c12 => ?_)
  · refine fg_iconst (fg_ft (pc := 19) tb_Town_hasPerson 9 rfl) ic_0 ?_
    exact fg_zret (fg_ft (pc := 20) tb_Town_hasPerson 10 rfl) rfl (by decide) rfl (by rw [fg_bF (by omega)] at hQ; exact hQ)
  · refine fg_iconst (fg_ft (pc := 15) tb_Town_hasPerson 7 rfl) ic_1 ?_
    refine fg_goto (tgt := 20) (fg_ft (pc := 16) tb_Town_hasPerson 8 rfl) (by decide) ?_
    exact fg_zret (fg_ft (pc := 20) tb_Town_hasPerson 10 rfl) rfl (by decide) rfl (by rw [fg_bT (by omega)] at hQ; exact hQ)
theorem ev_Town_hasPersonNeg {E : fg_E} {d : Nat} {μ : Nat → Nat → Int32} {R : fg_T4} {Q : Option Value → fg_M → Prop} {t : Nat} {T : Nat → Nat} (ht : fg_isT t) (hT : fg_TW μ t T) (hok : fg_ok T) {x : Int32} (hx : x < 0) (hQ : Q (some (.int (nI 0))) (μ, fg_rho R, 304)) : fg_Ev E yy_Town_hasPerson (d + 1) [.ref t, .int x] (μ, fg_rho R, 304) 304 Q := by
  have hb0 := hok.1
  have hb1 := hok.2.1
  have hp := hok.p
  have hq := Nat.two_pow_pos (T 0)
  refine fg_intro (by decide +kernel) (Nat.le_of_ble_eq_true rfl) (fg_okAs rfl) (Nat.le_refl _) ?_
  refine fg_iloadn (fg_ft (pc := 0) tb_Town_hasPerson 0 rfl) rfl ?_
  refine fg_if_lt (tgt := 19) (fg_ft (pc := 1) tb_Town_hasPerson 1 rfl) (by decide) (fun c1 => ?_) (fun c1 => (absurd hx c1))
  refine fg_iconst (fg_ft (pc := 19) tb_Town_hasPerson 9 rfl) ic_0 ?_
  exact fg_zret (fg_ft (pc := 20) tb_Town_hasPerson 10 rfl) rfl (by decide) rfl (hQ)
theorem fg_df_all {s n : Nat} : fg_df s (2 ^ n - 1) = 0 ↔ s < 2 ^ n := by rw [fg_df0, fg_le_all]
theorem fg_df_le31 {s a : Nat} (h : s < 2 ^ 31) : fg_df s a < 2 ^ 31 := fg_df_lt h
theorem fg_negAnd {x : Int32} {a : Nat} (hx : x < 0) (ha : a < 2 ^ 31) : ¬ x &&& (nI a ^^^ (-1)) = 0 := by
  intro h
  have h1 := congrArg (fun z : Int32 => z.toBitVec.getLsbD 31) h
  have hm : ((-1 : Int32)).toBitVec = BitVec.allOnes 32 := by decide
  have hx1 : x.toBitVec.msb = true := by
    have h2 : x.toBitVec.toInt < 0 := by
      have := Int32.lt_iff_toInt_lt.mp hx
      simpa using this
    rw [BitVec.msb_eq_toInt]
    exact decide_eq_true h2
  rw [BitVec.msb_eq_getLsbD_last] at hx1
  simp only [Int32.toBitVec_and, Int32.toBitVec_xor, nI_bv, hm, BitVec.getLsbD_and, BitVec.getLsbD_xor, BitVec.getLsbD_ofNat, BitVec.getLsbD_allOnes] at h1
  have hb : a.testBit 31 = false := Nat.testBit_lt_two_pow ha
  rw [hb] at h1
  simp only [Nat.reduceSub] at hx1
  rw [hx1] at h1
  revert h1
  decide
theorem ev_Town_hasFacts {E : fg_E} {d : Nat} {μ : Nat → Nat → Int32} {R : fg_T4} {Q : Option Value → fg_M → Prop} {t : Nat} {T : Nat → Nat} (ht : fg_isT t) (hT : fg_TW μ t T) (hok : fg_ok T) {s : Nat} (hs : s < 2 ^ 31) (hQ : Q (some (.int (fg_bI (s < 2 ^ T 0)))) (μ, fg_rho R, 304)) : fg_Ev E yy_Town_hasFacts (d + 2) [.ref t, .int (nI s)] (μ, fg_rho R, 304) 304 Q := by
  have hb0 := hok.1
  have hb1 := hok.2.1
  have hp := hok.p
  have hq := Nat.two_pow_pos (T 0)
  refine fg_intro (by decide +kernel) (Nat.le_of_ble_eq_true rfl) (fg_okAs rfl) (Nat.le_refl _) ?_
  refine fg_iloadn (fg_ft (pc := 0) tb_Town_hasFacts 0 rfl) rfl ?_
  refine fg_aloadn (fg_ft (pc := 1) tb_Town_hasFacts 1 rfl) rfl ?_
  refine fg_callV (fg_ft (pc := 2) tb_Town_hasFacts 2 rfl) cf_Town_59 (fg_isOf (tT_lay ht) rfl (fg_lt (tT_lay ht) (by decide))) (as := []) (st := [.int (nI s)]) rfl rfl (Nat.le_of_ble_eq_true rfl) (Nat.le_refl _) (Nat.le_refl _) (ev_Town_all ht hT hok ?_)
  refine fg_iconst (fg_ft (pc := 5) tb_Town_hasFacts 3 rfl) ic_m1 ?_
  refine fg_ixor (fg_ft (pc := 6) tb_Town_hasFacts 4 rfl) ?_
  refine fg_iandD (fg_ft (pc := 7) tb_Town_hasFacts 5 rfl) ?_
  refine fg_if_neN (tgt := 15) (fg_ft (pc := 8) tb_Town_hasFacts 6 rfl) (by decide) (fg_df_le31 hs) (fun c8 => ?_) (fun c8 => ?_)
  · refine fg_iconst (fg_ft (pc := 15) tb_Town_hasFacts 9 rfl) ic_0 ?_
    exact fg_zret (fg_ft (pc := 16) tb_Town_hasFacts 10 rfl) rfl (by decide) rfl (by rw [fg_bF (fun h => c8 (fg_df_all.mpr h))] at hQ; exact hQ)
  · refine fg_iconst (fg_ft (pc := 11) tb_Town_hasFacts 7 rfl) ic_1 ?_
    refine fg_goto (tgt := 16) (fg_ft (pc := 12) tb_Town_hasFacts 8 rfl) (by decide) ?_
    exact fg_zret (fg_ft (pc := 16) tb_Town_hasFacts 10 rfl) rfl (by decide) rfl (by rw [fg_bT (fg_df_all.mp c8)] at hQ; exact hQ)
theorem ev_Town_hasFactsNeg {E : fg_E} {d : Nat} {μ : Nat → Nat → Int32} {R : fg_T4} {Q : Option Value → fg_M → Prop} {t : Nat} {T : Nat → Nat} (ht : fg_isT t) (hT : fg_TW μ t T) (hok : fg_ok T) {x : Int32} (hx : x < 0) (hQ : Q (some (.int (nI 0))) (μ, fg_rho R, 304)) : fg_Ev E yy_Town_hasFacts (d + 2) [.ref t, .int x] (μ, fg_rho R, 304) 304 Q := by
  have hb0 := hok.1
  have hb1 := hok.2.1
  have hp := hok.p
  have hq := Nat.two_pow_pos (T 0)
  refine fg_intro (by decide +kernel) (Nat.le_of_ble_eq_true rfl) (fg_okAs rfl) (Nat.le_refl _) ?_
  refine fg_iloadn (fg_ft (pc := 0) tb_Town_hasFacts 0 rfl) rfl ?_
  refine fg_aloadn (fg_ft (pc := 1) tb_Town_hasFacts 1 rfl) rfl ?_
  refine fg_callV (fg_ft (pc := 2) tb_Town_hasFacts 2 rfl) cf_Town_59 (fg_isOf (tT_lay ht) rfl (fg_lt (tT_lay ht) (by decide))) (as := []) (st := [.int x]) rfl rfl (Nat.le_of_ble_eq_true rfl) (Nat.le_refl _) (Nat.le_refl _) (ev_Town_all ht hT hok ?_)
  refine fg_iconst (fg_ft (pc := 5) tb_Town_hasFacts 3 rfl) ic_m1 ?_
  refine fg_ixor (fg_ft (pc := 6) tb_Town_hasFacts 4 rfl) ?_
  refine fg_iand (fg_ft (pc := 7) tb_Town_hasFacts 5 rfl) ?_
  refine fg_if_ne (tgt := 15) (fg_ft (pc := 8) tb_Town_hasFacts 6 rfl) (by decide) (fun c8 => ?_) (fun c8 => (absurd c8 (fg_negAnd hx (by omega))))
  refine fg_iconst (fg_ft (pc := 15) tb_Town_hasFacts 9 rfl) ic_0 ?_
  exact fg_zret (fg_ft (pc := 16) tb_Town_hasFacts 10 rfl) rfl (by decide) rfl (hQ)
theorem ev_Town_close {E : fg_E} {d : Nat} {μ : Nat → Nat → Int32} {R : fg_T4} {Q : Option Value → fg_M → Prop} {t : Nat} {T : Nat → Nat} (ht : fg_isT t) (hT : fg_TW μ t T) (hok : fg_ok T) {s : Nat} (hs : s < 2 ^ T 0) (hQ : Q (some (.int (nI (fg_clo T s)))) (μ, fg_rho R, 304)) : fg_Ev E yy_Town_close (d + 1) [.ref t, .int (nI s)] (μ, fg_rho R, 304) 304 Q := by
  have hb0 := hok.1
  have hb1 := hok.2.1
  have hp := hok.p
  have hq := Nat.two_pow_pos (T 0)
  refine fg_intro (by decide +kernel) (Nat.le_of_ble_eq_true rfl) (fg_okAs rfl) (Nat.le_refl _) ?_
  refine fg_iloadn (fg_ft (pc := 0) tb_Town_close 0 rfl) rfl ?_
  refine fg_if_ltN (tgt := 22) (fg_ft (pc := 1) tb_Town_close 1 rfl) (by decide) (by omega) ?_
  refine fg_iloadn (fg_ft (pc := 4) tb_Town_close 2 rfl) rfl ?_
  refine fg_aloadn (fg_ft (pc := 5) tb_Town_close 3 rfl) rfl ?_
  refine fg_getR (fg_ft (pc := 6) tb_Town_close 4 rfl) ff_Town_42 (tT_lay ht) rfl (fg_lt (tT_lay ht) (by decide)) (tT_r8 ht) ?_
  refine fg_alen (fg_ft (pc := 9) tb_Town_close 5 rfl) (tT_c8 ht) (by decide) (fg_lt (tT_c8 ht) (by decide)) ?_
  refine fg_icmp_geN (tgt := 22) (fg_ft (pc := 10) tb_Town_close 6 rfl) (by decide) (by omega) (by decide) (fun c10 => (absurd c10 (by omega))) (fun c10 => ?_)
  refine fg_aloadn (fg_ft (pc := 13) tb_Town_close 7 rfl) rfl ?_
  refine fg_getR (fg_ft (pc := 14) tb_Town_close 8 rfl) ff_Town_42 (tT_lay ht) rfl (fg_lt (tT_lay ht) (by decide)) (tT_r8 ht) ?_
  refine fg_iloadn (fg_ft (pc := 17) tb_Town_close 9 rfl) rfl ?_
  refine fg_ialdV (v := (nI (fg_clo T s))) (fg_ft (pc := 18) tb_Town_close 10 rfl) (tT_c8 ht) (fg_lt (tT_c8 ht) (by decide)) (by omega) (hT.2.2.2.2.2.2.2 s hs) ?_
  refine fg_goto (tgt := 23) (fg_ft (pc := 19) tb_Town_close 11 rfl) (by decide) ?_
  exact fg_iret (fg_ft (pc := 23) tb_Town_close 13 rfl) rfl rfl (hQ)
theorem ev_Town_isClosed {E : fg_E} {d : Nat} {μ : Nat → Nat → Int32} {R : fg_T4} {Q : Option Value → fg_M → Prop} {t : Nat} {T : Nat → Nat} (ht : fg_isT t) (hT : fg_TW μ t T) (hok : fg_ok T) {s : Nat} (hs : s < 2 ^ T 0) (hQ : Q (some (.int (fg_bI (fg_clsd T s)))) (μ, fg_rho R, 304)) : fg_Ev E yy_Town_isClosed (d + 2) [.ref t, .int (nI s)] (μ, fg_rho R, 304) 304 Q := by
  have hb0 := hok.1
  have hb1 := hok.2.1
  have hp := hok.p
  have hq := Nat.two_pow_pos (T 0)
  refine fg_intro (by decide +kernel) (Nat.le_of_ble_eq_true rfl) (fg_okAs rfl) (Nat.le_refl _) ?_
  refine fg_aloadn (fg_ft (pc := 0) tb_Town_isClosed 0 rfl) rfl ?_
  refine fg_iloadn (fg_ft (pc := 1) tb_Town_isClosed 1 rfl) rfl ?_
  refine fg_callV (fg_ft (pc := 2) tb_Town_isClosed 2 rfl) cf_Town_67 (fg_isOf (tT_lay ht) rfl (fg_lt (tT_lay ht) (by decide))) (as := [.int (nI s)]) (st := []) rfl rfl (Nat.le_of_ble_eq_true rfl) (Nat.le_refl _) (Nat.le_refl _) (ev_Town_close ht hT hok (s := s) (hs) ?_)
  refine fg_iloadn (fg_ft (pc := 5) tb_Town_isClosed 3 rfl) rfl ?_
  refine fg_icmp_neN (tgt := 13) (fg_ft (pc := 6) tb_Town_isClosed 4 rfl) (by decide) (by have := fg_clo_lt hok hs; omega) (by omega) (fun c6 => ?_) (fun c6 => ?_)
  · refine fg_iconst (fg_ft (pc := 13) tb_Town_isClosed 7 rfl) ic_0 ?_
    exact fg_zret (fg_ft (pc := 14) tb_Town_isClosed 8 rfl) rfl (by decide) rfl (by rw [fg_bF (fun h => c6 ((fg_clo_fix hok hs).mpr h))] at hQ; exact hQ)
  · refine fg_iconst (fg_ft (pc := 9) tb_Town_isClosed 5 rfl) ic_1 ?_
    refine fg_goto (tgt := 14) (fg_ft (pc := 10) tb_Town_isClosed 6 rfl) (by decide) ?_
    exact fg_zret (fg_ft (pc := 14) tb_Town_isClosed 8 rfl) rfl (by decide) rfl (by rw [fg_bT ((fg_clo_fix hok hs).mp c6)] at hQ; exact hQ)
def fg_tol (T : Nat → Nat) : Nat → Nat
  | 0 => 0
  | n + 1 => fg_tol T n ||| (2 ^ T (8 + 2 * n) ||| T (9 + 2 * n))
theorem ev_Town_lonely {E : fg_E} {d : Nat} {μ : Nat → Nat → Int32} {R : fg_T4} {Q : Option Value → fg_M → Prop} {t : Nat} {T : Nat → Nat} (ht : fg_isT t) (hT : fg_TW μ t T) (hok : fg_ok T) (hQ : Q (some (.int (nI (fg_df (2 ^ T 0 - 1) (fg_tol T (T 1)))))) (μ, fg_rho R, 304)) : fg_Ev E yy_Town_lonely (d + 2) [.ref t] (μ, fg_rho R, 304) 304 Q := by
  have hb0 := hok.1
  have hb1 := hok.2.1
  have hp := hok.p
  have hq := Nat.two_pow_pos (T 0)
  have loop : ∀ (n k : Nat), T 1 - k < n → k ≤ T 1 → fg_wp E yy_Town_lonely (d + 2) 304 304 Q 4 [.ref t, .int (nI (fg_tol T k)), .int (nI k)] [] (μ, fg_rho R, 304) := by
    intro n
    induction n with
    | zero => intro k h; exact absurd h (Nat.not_lt_zero _)
    | succ n ih =>
      intro k hn hk
      refine fg_iloadn (fg_ft (pc := 4) tb_Town_lonely 4 rfl) rfl ?_
      refine fg_aloadn (fg_ft (pc := 5) tb_Town_lonely 5 rfl) rfl ?_
      refine fg_getR (fg_ft (pc := 6) tb_Town_lonely 6 rfl) ff_Town_23 (tT_lay ht) rfl (fg_lt (tT_lay ht) (by decide)) (tT_r2 ht) ?_
      refine fg_getV (v := (nI (T 1))) (fg_ft (pc := 9) tb_Town_lonely 7 rfl) ff_Town_46 ((tT_w2 (R := R) ht).1) rfl (fg_lt ((tT_w2 (R := R) ht).1) (by decide)) hT.2.1.2.1 ?_
      refine fg_icmp_geN (tgt := 45) (fg_ft (pc := 12) tb_Town_lonely 8 rfl) (by decide) (by omega) (by omega) (fun c12 => ?_) (fun c12 => ?_)
      · refine fg_aloadn (fg_ft (pc := 45) tb_Town_lonely 27 rfl) rfl ?_
        refine fg_callV (fg_ft (pc := 46) tb_Town_lonely 28 rfl) cf_Town_59 (fg_isOf (tT_lay ht) rfl (fg_lt (tT_lay ht) (by decide))) (as := []) (st := []) rfl rfl (Nat.le_of_ble_eq_true rfl) (Nat.le_refl _) (Nat.le_refl _) (ev_Town_all ht hT hok ?_)
        refine fg_iloadn (fg_ft (pc := 49) tb_Town_lonely 29 rfl) rfl ?_
        refine fg_iconst (fg_ft (pc := 50) tb_Town_lonely 30 rfl) ic_m1 ?_
        refine fg_ixor (fg_ft (pc := 51) tb_Town_lonely 31 rfl) ?_
        refine fg_iandD (fg_ft (pc := 52) tb_Town_lonely 32 rfl) ?_
        exact fg_iret (fg_ft (pc := 53) tb_Town_lonely 33 rfl) rfl rfl ((show k = T 1 by omega) ▸ hQ)
      · refine fg_iloadn (fg_ft (pc := 15) tb_Town_lonely 9 rfl) rfl ?_
        refine fg_iconst (fg_ft (pc := 16) tb_Town_lonely 10 rfl) ic_1 ?_
        refine fg_aloadn (fg_ft (pc := 17) tb_Town_lonely 11 rfl) rfl ?_
        refine fg_getR (fg_ft (pc := 18) tb_Town_lonely 12 rfl) ff_Town_23 (tT_lay ht) rfl (fg_lt (tT_lay ht) (by decide)) (tT_r2 ht) ?_
        refine fg_iloadn (fg_ft (pc := 21) tb_Town_lonely 13 rfl) rfl ?_
        refine fg_iconst (fg_ft (pc := 22) tb_Town_lonely 14 rfl) ic_0 ?_
        refine fg_callV (fg_ft (pc := 23) tb_Town_lonely 15 rfl) cf_Town_63 (fg_isOf ((tT_w2 (R := R) ht).1) rfl (fg_lt ((tT_w2 (R := R) ht).1) (by decide))) (as := [.int (nI k), .int (nI 0)]) (st := [.int (nI 1), .int (nI (fg_tol T k))]) rfl rfl (Nat.le_of_ble_eq_true rfl) (Nat.le_refl _) (Nat.le_refl _) (ev_Rows_cell (tT_w2 (R := R) ht) hT.2.1.1 hT.2.1.2.1 (by have := hok.2.1; omega) (by decide) (by have := hok.2.1; omega) (i := k) (j := 0) (by omega) (by decide) (hT.rule0 (by omega)) ?_)
        refine fg_ishl1 (fg_ft (pc := 26) tb_Town_lonely 16 rfl) (by have := (hok.2.2.1 k (by omega)).1; omega) ?_
        refine fg_aloadn (fg_ft (pc := 27) tb_Town_lonely 17 rfl) rfl ?_
        refine fg_getR (fg_ft (pc := 28) tb_Town_lonely 18 rfl) ff_Town_23 (tT_lay ht) rfl (fg_lt (tT_lay ht) (by decide)) (tT_r2 ht) ?_
        refine fg_iloadn (fg_ft (pc := 31) tb_Town_lonely 19 rfl) rfl ?_
        refine fg_iconst (fg_ft (pc := 32) tb_Town_lonely 20 rfl) ic_1 ?_
        refine fg_callV (fg_ft (pc := 33) tb_Town_lonely 21 rfl) cf_Town_63 (fg_isOf ((tT_w2 (R := R) ht).1) rfl (fg_lt ((tT_w2 (R := R) ht).1) (by decide))) (as := [.int (nI k), .int (nI 1)]) (st := [.int (nI (2 ^ (T (8 + 2 * k)))), .int (nI (fg_tol T k))]) rfl rfl (Nat.le_of_ble_eq_true rfl) (Nat.le_refl _) (Nat.le_refl _) (ev_Rows_cell (tT_w2 (R := R) ht) hT.2.1.1 hT.2.1.2.1 (by have := hok.2.1; omega) (by decide) (by have := hok.2.1; omega) (i := k) (j := 1) (by omega) (by decide) (hT.rule1 (by omega)) ?_)
        refine fg_iorN (fg_ft (pc := 36) tb_Town_lonely 22 rfl) ?_
        refine fg_iorN (fg_ft (pc := 37) tb_Town_lonely 23 rfl) ?_
        refine fg_istoren (fg_ft (pc := 38) tb_Town_lonely 24 rfl) (Nat.le_of_ble_eq_true rfl) ?_
        refine fg_iincN (fg_ft (pc := 39) tb_Town_lonely 25 rfl) rfl ic_1 rfl ?_
        refine fg_goto (tgt := 4) (fg_ft (pc := 42) tb_Town_lonely 26 rfl) (by decide) ?_
        exact ih (k + 1) (by omega) (by omega)
  refine fg_intro (by decide +kernel) (Nat.le_of_ble_eq_true rfl) (fg_okAs rfl) (Nat.le_refl _) ?_
  refine fg_iconst (fg_ft (pc := 0) tb_Town_lonely 0 rfl) ic_0 ?_
  refine fg_istoren (fg_ft (pc := 1) tb_Town_lonely 1 rfl) (Nat.le_of_ble_eq_true rfl) ?_
  refine fg_iconst (fg_ft (pc := 2) tb_Town_lonely 2 rfl) ic_0 ?_
  refine fg_istoren (fg_ft (pc := 3) tb_Town_lonely 3 rfl) (Nat.le_of_ble_eq_true rfl) ?_
  exact loop (T 1 + 1) 0 (by omega) (by omega)
