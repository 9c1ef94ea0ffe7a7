/-- of n sets those, as bits, that lie in m -/
def fg_lie (g : Nat → Nat) (m : Nat) : Nat → Nat
  | 0 => 0
  | n + 1 => fg_lie g m n ||| (if fg_df (g n) m = 0 then 2 ^ n else 0)
def fg_smw (u g : Nat → Nat) (m : Nat) : Nat → Nat
  | 0 => 0
  | n + 1 => fg_smw u g m n + (if fg_df (g n) m = 0 then u n else 0)
theorem fg_lie_lt (g : Nat → Nat) (m : Nat) : ∀ n, fg_lie g m n < 2 ^ n := by
  intro n
  induction n with
  | zero => exact Nat.one_pos
  | succ n ih =>
    show _ ||| _ < _
    have h1 : fg_lie g m n < 2 ^ (n + 1) := Nat.lt_of_lt_of_le ih (Nat.pow_le_pow_right (by decide) (by omega))
    refine fg_or_lt h1 ?_
    split
    · exact Nat.pow_lt_pow_right (by decide) (by omega)
    · exact Nat.two_pow_pos _
theorem fg_lie_bit (g : Nat → Nat) (m : Nat) : ∀ n i, (fg_lie g m n).testBit i = (decide (i < n) && decide (fg_df (g i) m = 0)) := by
  intro n
  induction n with
  | zero => intro i; simp [fg_lie]
  | succ n ih =>
    intro i
    show Nat.testBit (fg_lie g m n ||| _) i = _
    rw [Nat.testBit_or, ih]
    rcases Nat.lt_trichotomy i n with h | h | h
    · have h2 : i < n + 1 := by omega
      split
      · rw [Nat.testBit_two_pow_of_ne (by omega)]; simp [h, h2]
      · simp [h, h2]
    · subst h
      split
      · rename_i h3; rw [Nat.testBit_two_pow_self]; simp [h3]
      · rename_i h3; simp [h3]
    · have h2 : ¬ i < n + 1 := by omega
      have h3 : ¬ i < n := by omega
      split
      · rw [Nat.testBit_two_pow_of_ne (by omega)]; simp [h2, h3]
      · simp [h2, h3]
theorem fg_smw_le {u g : Nat → Nat} {m b n : Nat} (h : ∀ i, i < n → u i ≤ b) : fg_smw u g m n ≤ n * b := by
  induction n with
  | zero => exact Nat.zero_le _
  | succ n ih =>
    have h1 := ih (fun i hi => h i (by omega))
    have h2 := h n (by omega)
    show _ + _ ≤ _
    rw [Nat.add_mul, Nat.one_mul]
    split <;> omega
theorem ev_Town_lying {E : fg_E} {d : Nat} {μ : Nat → Nat → Int32} {R : fg_T4} {Q : Option Value → fg_M → Prop} {r c n sz m : Nat} {g : Nat → Nat} (hr : fg_rows R r c n) (hw : μ r 0 = nI 2) (hs : μ r 2 = nI sz) (hf : sz * 2 ≤ n) (hsz : sz ≤ 12) (hc : ∀ i, i < sz → μ c (i * 2 + 1) = nI (g i)) (hm : m < 2 ^ 10) (hg : ∀ i, i < sz → g i < 2 ^ 10) (hQ : Q (some (.int (nI (fg_lie g m sz)))) (μ, fg_rho R, 304)) : fg_Ev E yy_Town_lying (d + 2) [.ref r, .int (nI m)] (μ, fg_rho R, 304) 304 Q := by
  have loop : ∀ (n : Nat) (k a : Nat), sz - k < n → k ≤ sz → a = fg_lie g m k → fg_wp E yy_Town_lying (d + 2) 304 304 Q 4 [.ref r, .int (nI m), .int (nI a), .int (nI k)] [] (μ, fg_rho R, 304) := by
    intro n
    induction n with
    | zero => intro k a h; exact absurd h (Nat.not_lt_zero _)
    | succ n ih =>
      intro k a hn hk ha
      refine fg_iloadn (fg_ft (pc := 4) tb_Town_lying 4 rfl) rfl ?_
      refine fg_aloadn (fg_ft (pc := 5) tb_Town_lying 5 rfl) rfl ?_
      refine fg_getV (v := (nI sz)) (fg_ft (pc := 6) tb_Town_lying 6 rfl) ff_Town_46 hr.1 rfl (fg_lt (hr.1) (by decide)) hs ?_
      refine fg_icmp_geN (tgt := 37) (fg_ft (pc := 9) tb_Town_lying 7 rfl) (by decide) (by omega) (by omega) (fun c9 => ?_) (fun c9 => ?_)
      · refine fg_iloadn (fg_ft (pc := 37) tb_Town_lying 25 rfl) rfl ?_
        exact fg_iret (fg_ft (pc := 38) tb_Town_lying 26 rfl) rfl rfl (by rw [ha, show k = sz by omega]; exact hQ)
      · refine fg_aloadn (fg_ft (pc := 12) tb_Town_lying 8 rfl) rfl ?_
        refine fg_iloadn (fg_ft (pc := 13) tb_Town_lying 9 rfl) rfl ?_
        refine fg_iconst (fg_ft (pc := 14) tb_Town_lying 10 rfl) ic_1 ?_
        refine fg_callV (fg_ft (pc := 15) tb_Town_lying 11 rfl) cf_Town_63 (fg_isOf hr.1 rfl (fg_lt (hr.1) (by decide))) (as := [.int (nI k), .int (nI 1)]) (st := []) rfl rfl (Nat.le_of_ble_eq_true rfl) (Nat.le_refl _) (Nat.le_refl _) (ev_Rows_cell hr hw hs hf (by decide) (by omega) (i := k) (j := 1) (by omega) (by decide) (hc _ (by omega)) ?_)
        refine fg_iloadn (fg_ft (pc := 18) tb_Town_lying 12 rfl) rfl ?_
        refine fg_iconst (fg_ft (pc := 19) tb_Town_lying 13 rfl) ic_m1 ?_
        refine fg_ixor (fg_ft (pc := 20) tb_Town_lying 14 rfl) ?_
        refine fg_iandD (fg_ft (pc := 21) tb_Town_lying 15 rfl) ?_
        refine fg_if_neN (tgt := 31) (fg_ft (pc := 22) tb_Town_lying 16 rfl) (by decide) (by have := hg k (by omega); exact Nat.lt_of_lt_of_le (fg_df_lt this) (by decide)) (fun c22 => ?_) (fun c22 => ?_)
        · refine fg_iincN (fg_ft (pc := 31) tb_Town_lying 23 rfl) rfl ic_1 rfl ?_
          refine fg_goto (tgt := 4) (fg_ft (pc := 34) tb_Town_lying 24 rfl) (by decide) ?_
          exact ih (k + 1) _ (by omega) (by omega) (by rw [ha]; show _ = fg_lie g m k ||| _; rw [if_neg c22, Nat.or_zero])
        · refine fg_iloadn (fg_ft (pc := 25) tb_Town_lying 17 rfl) rfl ?_
          refine fg_iconst (fg_ft (pc := 26) tb_Town_lying 18 rfl) ic_1 ?_
          refine fg_iloadn (fg_ft (pc := 27) tb_Town_lying 19 rfl) rfl ?_
          refine fg_ishl1 (fg_ft (pc := 28) tb_Town_lying 20 rfl) (by omega) ?_
          refine fg_iorN (fg_ft (pc := 29) tb_Town_lying 21 rfl) ?_
          refine fg_istoren (fg_ft (pc := 30) tb_Town_lying 22 rfl) (Nat.le_of_ble_eq_true rfl) ?_
          refine fg_iincN (fg_ft (pc := 31) tb_Town_lying 23 rfl) rfl ic_1 rfl ?_
          refine fg_goto (tgt := 4) (fg_ft (pc := 34) tb_Town_lying 24 rfl) (by decide) ?_
          exact ih (k + 1) _ (by omega) (by omega) (by rw [ha]; show _ = fg_lie g m k ||| _; rw [if_pos c22])
  refine fg_intro (by decide +kernel) (Nat.le_of_ble_eq_true rfl) (fg_okAs rfl) (Nat.le_refl _) ?_
  refine fg_iconst (fg_ft (pc := 0) tb_Town_lying 0 rfl) ic_0 ?_
  refine fg_istoren (fg_ft (pc := 1) tb_Town_lying 1 rfl) (Nat.le_of_ble_eq_true rfl) ?_
  refine fg_iconst (fg_ft (pc := 2) tb_Town_lying 2 rfl) ic_0 ?_
  refine fg_istoren (fg_ft (pc := 3) tb_Town_lying 3 rfl) (Nat.le_of_ble_eq_true rfl) ?_
  exact loop (sz + 1) 0 0 (by omega) (by omega) rfl
theorem ev_Town_sum {E : fg_E} {d : Nat} {μ : Nat → Nat → Int32} {R : fg_T4} {Q : Option Value → fg_M → Prop} {r c n sz m : Nat} {g : Nat → Nat} (hr : fg_rows R r c n) (hw : μ r 0 = nI 2) (hs : μ r 2 = nI sz) (hf : sz * 2 ≤ n) (hsz : sz ≤ 12) (hc : ∀ i, i < sz → μ c (i * 2 + 1) = nI (g i)) (hm : m < 2 ^ 10) {u : Nat → Nat} (hg : ∀ i, i < sz → g i < 2 ^ 10) (hu : ∀ i, i < sz → μ c (i * 2 + 0) = nI (u i)) (hQ : Q (some (.int (nI (fg_smw u g m sz)))) (μ, fg_rho R, 304)) : fg_Ev E yy_Town_sum (d + 2) [.ref r, .int (nI m)] (μ, fg_rho R, 304) 304 Q := by
  have loop : ∀ (n : Nat) (k a : Nat), sz - k < n → k ≤ sz → a = fg_smw u g m k → fg_wp E yy_Town_sum (d + 2) 304 304 Q 4 [.ref r, .int (nI m), .int (nI a), .int (nI k)] [] (μ, fg_rho R, 304) := by
    intro n
    induction n with
    | zero => intro k a h; exact absurd h (Nat.not_lt_zero _)
    | succ n ih =>
      intro k a hn hk ha
      refine fg_iloadn (fg_ft (pc := 4) tb_Town_sum 4 rfl) rfl ?_
      refine fg_aloadn (fg_ft (pc := 5) tb_Town_sum 5 rfl) rfl ?_
      refine fg_getV (v := (nI sz)) (fg_ft (pc := 6) tb_Town_sum 6 rfl) ff_Town_46 hr.1 rfl (fg_lt (hr.1) (by decide)) hs ?_
      refine fg_icmp_geN (tgt := 40) (fg_ft (pc := 9) tb_Town_sum 7 rfl) (by decide) (by omega) (by omega) (fun c9 => ?_) (fun c9 => ?_)
      · refine fg_iloadn (fg_ft (pc := 40) tb_Town_sum 26 rfl) rfl ?_
        exact fg_iret (fg_ft (pc := 41) tb_Town_sum 27 rfl) rfl rfl (by rw [ha, show k = sz by omega]; exact hQ)
      · refine fg_aloadn (fg_ft (pc := 12) tb_Town_sum 8 rfl) rfl ?_
        refine fg_iloadn (fg_ft (pc := 13) tb_Town_sum 9 rfl) rfl ?_
        refine fg_iconst (fg_ft (pc := 14) tb_Town_sum 10 rfl) ic_1 ?_
        refine fg_callV (fg_ft (pc := 15) tb_Town_sum 11 rfl) cf_Town_63 (fg_isOf hr.1 rfl (fg_lt (hr.1) (by decide))) (as := [.int (nI k), .int (nI 1)]) (st := []) rfl rfl (Nat.le_of_ble_eq_true rfl) (Nat.le_refl _) (Nat.le_refl _) (ev_Rows_cell hr hw hs hf (by decide) (by omega) (i := k) (j := 1) (by omega) (by decide) (hc _ (by omega)) ?_)
        refine fg_iloadn (fg_ft (pc := 18) tb_Town_sum 12 rfl) rfl ?_
        refine fg_iconst (fg_ft (pc := 19) tb_Town_sum 13 rfl) ic_m1 ?_
        refine fg_ixor (fg_ft (pc := 20) tb_Town_sum 14 rfl) ?_
        refine fg_iandD (fg_ft (pc := 21) tb_Town_sum 15 rfl) ?_
        refine fg_if_neN (tgt := 34) (fg_ft (pc := 22) tb_Town_sum 16 rfl) (by decide) (by have := hg k (by omega); exact Nat.lt_of_lt_of_le (fg_df_lt this) (by decide)) (fun c22 => ?_) (fun c22 => ?_)
        · refine fg_iincN (fg_ft (pc := 34) tb_Town_sum 24 rfl) rfl ic_1 rfl ?_
          refine fg_goto (tgt := 4) (fg_ft (pc := 37) tb_Town_sum 25 rfl) (by decide) ?_
          exact ih (k + 1) _ (by omega) (by omega) (by rw [ha]; show _ = fg_smw u g m k + _; rw [if_neg c22, Nat.add_zero])
        · refine fg_iloadn (fg_ft (pc := 25) tb_Town_sum 17 rfl) rfl ?_
          refine fg_aloadn (fg_ft (pc := 26) tb_Town_sum 18 rfl) rfl ?_
          refine fg_iloadn (fg_ft (pc := 27) tb_Town_sum 19 rfl) rfl ?_
          refine fg_iconst (fg_ft (pc := 28) tb_Town_sum 20 rfl) ic_0 ?_
          refine fg_callV (fg_ft (pc := 29) tb_Town_sum 21 rfl) cf_Town_63 (fg_isOf hr.1 rfl (fg_lt (hr.1) (by decide))) (as := [.int (nI k), .int (nI 0)]) (st := [.int (nI a)]) rfl rfl (Nat.le_of_ble_eq_true rfl) (Nat.le_refl _) (Nat.le_refl _) (ev_Rows_cell hr hw hs hf (by decide) (by omega) (i := k) (j := 0) (by omega) (by decide) (hu _ (by omega)) ?_)
          refine fg_iaddN (fg_ft (pc := 32) tb_Town_sum 22 rfl) ?_
          refine fg_istoren (fg_ft (pc := 33) tb_Town_sum 23 rfl) (Nat.le_of_ble_eq_true rfl) ?_
          refine fg_iincN (fg_ft (pc := 34) tb_Town_sum 24 rfl) rfl ic_1 rfl ?_
          refine fg_goto (tgt := 4) (fg_ft (pc := 37) tb_Town_sum 25 rfl) (by decide) ?_
          exact ih (k + 1) _ (by omega) (by omega) (by rw [ha]; show _ = fg_smw u g m k + _; rw [if_pos c22])
  refine fg_intro (by decide +kernel) (Nat.le_of_ble_eq_true rfl) (fg_okAs rfl) (Nat.le_refl _) ?_
  refine fg_iconst (fg_ft (pc := 0) tb_Town_sum 0 rfl) ic_0 ?_
  refine fg_istoren (fg_ft (pc := 1) tb_Town_sum 1 rfl) (Nat.le_of_ble_eq_true rfl) ?_
  refine fg_iconst (fg_ft (pc := 2) tb_Town_sum 2 rfl) ic_0 ?_
  refine fg_istoren (fg_ft (pc := 3) tb_Town_sum 3 rfl) (Nat.le_of_ble_eq_true rfl) ?_
  exact loop (sz + 1) 0 0 (by omega) (by omega) rfl
/-- WORTH -/
def fg_wS (T : Nat → Nat) (m : Nat) : Nat := fg_smw (fun k => T (127 + 2 * k)) (fun k => T (128 + 2 * k)) m (T 5)
def fg_wH (T : Nat → Nat) (m : Nat) : Nat := fg_smw (fun k => T (139 + 2 * k)) (fun k => T (140 + 2 * k)) m (T 6)
def fg_wI (T : Nat → Nat) (m : Nat) : Int := (fg_wS T m : Int) - (fg_wH T m : Int)
def fg_w (T : Nat → Nat) (m : Nat) : Int32 := nI (fg_wS T m) - nI (fg_wH T m)
theorem fg_wS_le {T : Nat → Nat} (hok : fg_ok T) (m : Nat) : fg_wS T m ≤ 594 := by
  have h := fg_smw_le (u := fun k => T (127 + 2 * k)) (g := fun k => T (128 + 2 * k)) (m := m) (b := 99) (n := T 5) (fun i hi => (hok.2.2.2.2.2.2.1 i hi).1)
  have h2 := hok.2.1
  have h3 : T 5 * 99 ≤ 6 * 99 := Nat.mul_le_mul_right 99 (by omega)
  unfold fg_wS
  omega
theorem fg_wH_le {T : Nat → Nat} (hok : fg_ok T) (m : Nat) : fg_wH T m ≤ 594 := by
  have h := fg_smw_le (u := fun k => T (139 + 2 * k)) (g := fun k => T (140 + 2 * k)) (m := m) (b := 99) (n := T 6) (fun i hi => (hok.2.2.2.2.2.2.2 i hi).1)
  have h2 := hok.2.1
  have h3 : T 6 * 99 ≤ 6 * 99 := Nat.mul_le_mul_right 99 (by omega)
  unfold fg_wH
  omega
theorem fg_w_toInt {T : Nat → Nat} (hok : fg_ok T) (m : Nat) : (fg_w T m).toInt = fg_wI T m := by
  have h1 := fg_wS_le hok m
  have h2 := fg_wH_le hok m
  exact pk_sub_toInt (by omega) (by omega)
theorem fg_lt10 {a F : Nat} (h : a < 2 ^ F) (hF : F ≤ 10) : a < 2 ^ 10 := Nat.lt_of_lt_of_le h (Nat.pow_le_pow_right (by decide) hF)
theorem ev_Town_worthOf {E : fg_E} {d : Nat} {μ : Nat → Nat → Int32} {R : fg_T4} {Q : Option Value → fg_M → Prop} {t : Nat} {T : Nat → Nat} (ht : fg_isT t) (hT : fg_TW μ t T) (hok : fg_ok T) {m : Nat} (hm : m < 2 ^ 10) (hQ : Q (some (.int (fg_w T m))) (μ, fg_rho R, 304)) : fg_Ev E yy_Town_worthOf (d + 3) [.ref t, .int (nI m)] (μ, fg_rho R, 304) 304 Q := by
  have hb0 := hok.1
  have hb1 := hok.2.1
  have hp := hok.p
  have hq := Nat.two_pow_pos (T 0)
  refine fg_intro (by decide +kernel) (Nat.le_of_ble_eq_true rfl) (fg_okAs rfl) (Nat.le_refl _) ?_
  refine fg_aloadn (fg_ft (pc := 0) tb_Town_worthOf 0 rfl) rfl ?_
  refine fg_getR (fg_ft (pc := 1) tb_Town_worthOf 1 rfl) ff_Town_36 (tT_lay ht) rfl (fg_lt (tT_lay ht) (by decide)) (tT_r6 ht) ?_
  refine fg_iloadn (fg_ft (pc := 4) tb_Town_worthOf 2 rfl) rfl ?_
  refine fg_callS (fg_ft (pc := 5) tb_Town_worthOf 3 rfl) cf_Town_93 (as := [.ref (t + 9), .int (nI m)]) (st := []) rfl rfl (Nat.le_of_ble_eq_true rfl) (Nat.le_refl _) (Nat.le_refl _) (ev_Town_sum (tT_w6 (R := R) ht) hT.2.2.2.2.2.1.1 hT.2.2.2.2.2.1.2.1 (by omega) (by omega) (fun i hi => hT.skill1 hi) hm (fun i hi => fg_lt10 (hok.2.2.2.2.2.2.1 i hi).2 hok.1.2) (fun i hi => hT.skill0 hi) ?_)
  refine fg_aloadn (fg_ft (pc := 8) tb_Town_worthOf 4 rfl) rfl ?_
  refine fg_getR (fg_ft (pc := 9) tb_Town_worthOf 5 rfl) ff_Town_39 (tT_lay ht) rfl (fg_lt (tT_lay ht) (by decide)) (tT_r7 ht) ?_
  refine fg_iloadn (fg_ft (pc := 12) tb_Town_worthOf 6 rfl) rfl ?_
  refine fg_callS (fg_ft (pc := 13) tb_Town_worthOf 7 rfl) cf_Town_93 (as := [.ref (t + 11), .int (nI m)]) (st := [.int (nI (fg_wS T m))]) rfl rfl (Nat.le_of_ble_eq_true rfl) (Nat.le_refl _) (Nat.le_refl _) (ev_Town_sum (tT_w7 (R := R) ht) hT.2.2.2.2.2.2.1.1 hT.2.2.2.2.2.2.1.2.1 (by omega) (by omega) (fun i hi => hT.hurt1 hi) hm (fun i hi => fg_lt10 (hok.2.2.2.2.2.2.2 i hi).2 hok.1.2) (fun i hi => hT.hurt0 hi) ?_)
  refine fg_isub (fg_ft (pc := 16) tb_Town_worthOf 8 rfl) ?_
  exact fg_iret (fg_ft (pc := 17) tb_Town_worthOf 9 rfl) rfl rfl (hQ)
def fg_lS (T : Nat → Nat) (m : Nat) : Nat := fg_lie (fun k => T (128 + 2 * k)) m (T 5)
def fg_lH (T : Nat → Nat) (m : Nat) : Nat := fg_lie (fun k => T (140 + 2 * k)) m (T 6)
theorem fg_lS_lt {T : Nat → Nat} (hok : fg_ok T) (m : Nat) : fg_lS T m < 64 := Nat.lt_of_lt_of_le (fg_lie_lt _ _ _) (calc 2 ^ T 5 ≤ 2 ^ 6 := Nat.pow_le_pow_right (by decide) (by have := hok.2.1; omega)
  _ = 64 := by decide)
theorem fg_lH_lt {T : Nat → Nat} (hok : fg_ok T) (m : Nat) : fg_lH T m < 64 := Nat.lt_of_lt_of_le (fg_lie_lt _ _ _) (calc 2 ^ T 6 ≤ 2 ^ 6 := Nat.pow_le_pow_right (by decide) (by have := hok.2.1; omega)
  _ = 64 := by decide)
theorem ev_Town_does {E : fg_E} {d : Nat} {μ : Nat → Nat → Int32} {R : fg_T4} {Q : Option Value → fg_M → Prop} {t : Nat} {T : Nat → Nat} (ht : fg_isT t) (hT : fg_TW μ t T) (hok : fg_ok T) {m can cannot : Nat} (hm : m < 2 ^ 10) (hcan : can < 64) (hcannot : cannot < 64) (hQ : Q (some (.int (fg_bI (fg_df can (fg_lS T m) = 0 ∧ cannot &&& fg_lS T m = 0)))) (μ, fg_rho R, 304)) : fg_Ev E yy_Town_does (d + 3) [.ref t, .int (nI m), .int (nI can), .int (nI cannot)] (μ, fg_rho R, 304) 304 Q := by
  have hb0 := hok.1
  have hb1 := hok.2.1
  have hp := hok.p
  have hq := Nat.two_pow_pos (T 0)
  refine fg_intro (by decide +kernel) (Nat.le_of_ble_eq_true rfl) (fg_okAs rfl) (Nat.le_refl _) ?_
  refine fg_aloadn (fg_ft (pc := 0) tb_Town_does 0 rfl) rfl ?_
  refine fg_getR (fg_ft (pc := 1) tb_Town_does 1 rfl) ff_Town_36 (tT_lay ht) rfl (fg_lt (tT_lay ht) (by decide)) (tT_r6 ht) ?_
  refine fg_iloadn (fg_ft (pc := 4) tb_Town_does 2 rfl) rfl ?_
  refine fg_callS (fg_ft (pc := 5) tb_Town_does 3 rfl) cf_Town_112 (as := [.ref (t + 9), .int (nI m)]) (st := []) rfl rfl (Nat.le_of_ble_eq_true rfl) (Nat.le_refl _) (Nat.le_refl _) (ev_Town_lying (g := fun k => T (128 + 2 * k)) (tT_w6 (R := R) ht) hT.2.2.2.2.2.1.1 hT.2.2.2.2.2.1.2.1 (by omega) (by omega) (fun i hi => hT.skill1 hi) hm (fun i hi => fg_lt10 (hok.2.2.2.2.2.2.1 i hi).2 hok.1.2) ?_)
  refine fg_istore (fg_ft (pc := 8) tb_Town_does 4 rfl) (Nat.le_of_ble_eq_true rfl) ?_
  refine fg_iloadn (fg_ft (pc := 10) tb_Town_does 5 rfl) rfl ?_
  refine fg_iload (fg_ft (pc := 11) tb_Town_does 6 rfl) rfl ?_
  refine fg_iconst (fg_ft (pc := 13) tb_Town_does 7 rfl) ic_m1 ?_
  refine fg_ixor (fg_ft (pc := 14) tb_Town_does 8 rfl) ?_
  refine fg_iandD (fg_ft (pc := 15) tb_Town_does 9 rfl) ?_
  refine fg_if_neN (tgt := 30) (fg_ft (pc := 16) tb_Town_does 10 rfl) (by decide) (fg_df_le31 (by omega)) (fun c16 => ?_) (fun c16 => ?_)
  · refine fg_iconst (fg_ft (pc := 30) tb_Town_does 17 rfl) ic_0 ?_
    exact fg_zret (fg_ft (pc := 31) tb_Town_does 18 rfl) rfl (by decide) rfl (by rw [fg_bF (fun h => by first | exact c23 h.2 | exact c16 h.1)] at hQ; exact hQ)
  · refine fg_iloadn (fg_ft (pc := 19) tb_Town_does 11 rfl) rfl ?_
    refine fg_iload (fg_ft (pc := 20) tb_Town_does 12 rfl) rfl ?_
    refine fg_iandN (fg_ft (pc := 22) tb_Town_does 13 rfl) ?_
    refine fg_if_neN (tgt := 30) (fg_ft (pc := 23) tb_Town_does 14 rfl) (by decide) (Nat.lt_of_le_of_lt Nat.and_le_left (by omega)) (fun c23 => ?_) (fun c23 => ?_)
    · refine fg_iconst (fg_ft (pc := 30) tb_Town_does 17 rfl) ic_0 ?_
      exact fg_zret (fg_ft (pc := 31) tb_Town_does 18 rfl) rfl (by decide) rfl (by rw [fg_bF (fun h => by first | exact c23 h.2 | exact c16 h.1)] at hQ; exact hQ)
    · refine fg_iconst (fg_ft (pc := 26) tb_Town_does 15 rfl) ic_1 ?_
      refine fg_goto (tgt := 31) (fg_ft (pc := 27) tb_Town_does 16 rfl) (by decide) ?_
      exact fg_zret (fg_ft (pc := 31) tb_Town_does 18 rfl) rfl (by decide) rfl (by rw [fg_bT ⟨c16, c23⟩] at hQ; exact hQ)
