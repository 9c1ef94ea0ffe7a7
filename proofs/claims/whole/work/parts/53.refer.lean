/-! the reference: a town in its row -/
def fg_MT (m : Nat → Int32) (v : Nat) (T : Nat → Nat) : Prop := v + 152 ≤ 5120 ∧ ∀ k, k < 152 → m (v + k) = nI (T k)
theorem fg_MTat {m : Nat → Int32} {v i k : Nat} {T : Nat → Nat} (h : fg_MT m v T) (e : i = v + k) (hk : k < 152) : m i = nI (T k) := by rw [e]; exact h.2 k hk
theorem fg_MT.ag {μ μ' : Nat → Nat → Int32} {v : Nat} {T : Nat → Nat} (h : fg_MT (μ 288) v T) (e : ∀ j, μ' 288 j = μ 288 j) : fg_MT (μ' 288) v T := ⟨h.1, fun k hk => (e _).trans (h.2 k hk)⟩
def fg_MC (μ : Nat → Nat → Int32) (T : Nat → Nat) : Prop := ∀ s, s < 2 ^ T 0 → μ 291 s = fg_bI (fg_clsd T s)
theorem fg_and2p {s f : Nat} : s &&& 2 ^ f = 0 ↔ ¬ s.testBit f = true := by
  constructor
  · intro h hb
    have h1 := congrArg (fun z => Nat.testBit z f) h
    simp only [Nat.testBit_and, Nat.testBit_two_pow_self, Nat.zero_testBit, hb] at h1
    cases h1
  · intro h
    apply Nat.eq_of_testBit_eq
    intro i
    rw [Nat.testBit_and, Nat.zero_testBit]
    rcases Nat.decEq f i with e | e
    · rw [Nat.testBit_two_pow_of_ne e, Bool.and_false]
    · subst e
      cases hb : s.testBit f
      · rfl
      · exact absurd hb h
theorem ev_Mo_isIn {E : fg_E} {d : Nat} {μ : Nat → Nat → Int32} {R : fg_T4} {Q : Option Value → fg_M → Prop} {x a b : Int32} (hQ : Q (some (.int (fg_bI (a ≤ x ∧ x ≤ b)))) (μ, fg_rho R, 304)) : fg_Ev E yy_Mo_isIn (d + 1) [.int x, .int a, .int b] (μ, fg_rho R, 304) 304 Q := by
  refine fg_intro (by decide +kernel) (Nat.le_of_ble_eq_true rfl) (fg_okAs rfl) (Nat.le_refl _) ?_
  refine fg_iloadn (fg_ft (pc := 0) tb_Mo_isIn 0 rfl) rfl ?_
  refine fg_iloadn (fg_ft (pc := 1) tb_Mo_isIn 1 rfl) rfl ?_
  refine fg_icmp_lt (tgt := 14) (fg_ft (pc := 2) tb_Mo_isIn 2 rfl) (by decide) (fun c2 => ?_) (fun c2 => ?_)
  · refine fg_iconst (fg_ft (pc := 14) tb_Mo_isIn 8 rfl) ic_0 ?_
    exact fg_zret (fg_ft (pc := 15) tb_Mo_isIn 9 rfl) rfl (by decide) rfl (fg_q hQ (by first | exact fg_bT ⟨Int32.not_lt.mp c2, Int32.not_lt.mp c7⟩ | exact fg_bF (fun hh => absurd c2 (Int32.not_lt.mpr hh.1)) | exact fg_bF (fun hh => absurd c7 (Int32.not_lt.mpr hh.2))))
  · refine fg_iloadn (fg_ft (pc := 5) tb_Mo_isIn 3 rfl) rfl ?_
    refine fg_iloadn (fg_ft (pc := 6) tb_Mo_isIn 4 rfl) rfl ?_
    refine fg_icmp_gt (tgt := 14) (fg_ft (pc := 7) tb_Mo_isIn 5 rfl) (by decide) (fun c7 => ?_) (fun c7 => ?_)
    · refine fg_iconst (fg_ft (pc := 14) tb_Mo_isIn 8 rfl) ic_0 ?_
      exact fg_zret (fg_ft (pc := 15) tb_Mo_isIn 9 rfl) rfl (by decide) rfl (fg_q hQ (by first | exact fg_bT ⟨Int32.not_lt.mp c2, Int32.not_lt.mp c7⟩ | exact fg_bF (fun hh => absurd c2 (Int32.not_lt.mpr hh.1)) | exact fg_bF (fun hh => absurd c7 (Int32.not_lt.mpr hh.2))))
    · refine fg_iconst (fg_ft (pc := 10) tb_Mo_isIn 6 rfl) ic_1 ?_
      refine fg_goto (tgt := 15) (fg_ft (pc := 11) tb_Mo_isIn 7 rfl) (by decide) ?_
      exact fg_zret (fg_ft (pc := 15) tb_Mo_isIn 9 rfl) rfl (by decide) rfl (fg_q hQ (by first | exact fg_bT ⟨Int32.not_lt.mp c2, Int32.not_lt.mp c7⟩ | exact fg_bF (fun hh => absurd c2 (Int32.not_lt.mpr hh.1)) | exact fg_bF (fun hh => absurd c7 (Int32.not_lt.mpr hh.2))))
theorem fg_isIn0 {k c : Nat} (hk : k < 2 ^ 32) (hc : c < 2 ^ 30) : (nI 0 ≤ nI k ∧ nI k ≤ nI c - nI 1) ↔ k < c := by
  rw [Int32.le_iff_toInt_le, Int32.le_iff_toInt_le, pk_sub_toInt hc (by decide), fg_tI (by decide : 0 < 2 ^ 31)]
  rcases fg_toIntW hk with e | e
  · rw [e]; omega
  · constructor
    · intro h; have := e.1; omega
    · intro h; have := e.2; omega
theorem fg_isInC {k a b : Nat} (hk : k < 2 ^ 32) (ha : a < 2 ^ 31) (hb : b < 2 ^ 31) : (nI a ≤ nI k ∧ nI k ≤ nI b) ↔ (a ≤ k ∧ k ≤ b) := by
  rw [Int32.le_iff_toInt_le, Int32.le_iff_toInt_le, fg_tI ha, fg_tI hb]
  rcases fg_toIntW hk with e | e
  · rw [e]; omega
  · constructor
    · intro h; have := e.1; omega
    · intro h; have := e.2; omega
theorem ev_Mo_isIn0 {E : fg_E} {d : Nat} {μ : Nat → Nat → Int32} {R : fg_T4} {Q : Option Value → fg_M → Prop} {k c : Nat} (hk : k < 2 ^ 32) (hc : c < 2 ^ 30) (hQ : Q (some (.int (fg_bI (k < c)))) (μ, fg_rho R, 304)) : fg_Ev E yy_Mo_isIn (d + 1) [.int (nI k), .int (nI 0), .int (nI c - nI 1)] (μ, fg_rho R, 304) 304 Q := ev_Mo_isIn (fg_q hQ (fg_bc (fg_isIn0 hk hc)).symm)
theorem ev_Mo_isInC {E : fg_E} {d : Nat} {μ : Nat → Nat → Int32} {R : fg_T4} {Q : Option Value → fg_M → Prop} {k a b : Nat} (hk : k < 2 ^ 32) (ha : a < 2 ^ 31) (hb : b < 2 ^ 31) (hQ : Q (some (.int (fg_bI (a ≤ k ∧ k ≤ b)))) (μ, fg_rho R, 304)) : fg_Ev E yy_Mo_isIn (d + 1) [.int (nI k), .int (nI a), .int (nI b)] (μ, fg_rho R, 304) 304 Q := ev_Mo_isIn (fg_q hQ (fg_bc (fg_isInC hk ha hb)).symm)
theorem ev_Mo_placeOf0 {E : fg_E} {d : Nat} {μ : Nat → Nat → Int32} {R : fg_T4} {Q : Option Value → fg_M → Prop} {k : Nat} (hQ : Q (some (.int (nI (610 + 152 * k)))) (μ, fg_rho R, 304)) : fg_Ev E yy_Mo_placeOf (d + 1) [.int (nI 0), .int (nI k)] (μ, fg_rho R, 304) 304 Q := by
  refine fg_intro (by decide +kernel) (Nat.le_of_ble_eq_true rfl) (fg_okAs rfl) (Nat.le_refl _) ?_
  refine fg_iloadn (fg_ft (pc := 0) tb_Mo_placeOf 0 rfl) rfl ?_
  refine fg_if_ne (tgt := 16) (fg_ft (pc := 1) tb_Mo_placeOf 1 rfl) (by decide) (fun h => absurd h (by decide)) (fun _ => ?_)
  refine fg_sipush (fg_ft (pc := 4) tb_Mo_placeOf 2 rfl) is_610 ?_
  refine fg_sipush (fg_ft (pc := 7) tb_Mo_placeOf 3 rfl) is_152 ?_
  refine fg_iloadn (fg_ft (pc := 10) tb_Mo_placeOf 4 rfl) rfl ?_
  refine fg_imulN (fg_ft (pc := 11) tb_Mo_placeOf 5 rfl) ?_
  refine fg_iaddN (fg_ft (pc := 12) tb_Mo_placeOf 6 rfl) ?_
  refine fg_goto (tgt := 24) (fg_ft (pc := 13) tb_Mo_placeOf 7 rfl) (by decide) ?_
  exact fg_iret (fg_ft (pc := 24) tb_Mo_placeOf 13 rfl) rfl rfl (hQ)
theorem ev_Mo_placeOf1 {E : fg_E} {d : Nat} {μ : Nat → Nat → Int32} {R : fg_T4} {Q : Option Value → fg_M → Prop} {k : Nat} (hQ : Q (some (.int (nI (914 + 122 * k)))) (μ, fg_rho R, 304)) : fg_Ev E yy_Mo_placeOf (d + 1) [.int (nI 1), .int (nI k)] (μ, fg_rho R, 304) 304 Q := by
  refine fg_intro (by decide +kernel) (Nat.le_of_ble_eq_true rfl) (fg_okAs rfl) (Nat.le_refl _) ?_
  refine fg_iloadn (fg_ft (pc := 0) tb_Mo_placeOf 0 rfl) rfl ?_
  refine fg_if_ne (tgt := 16) (fg_ft (pc := 1) tb_Mo_placeOf 1 rfl) (by decide) (fun _ => ?_) (fun h => absurd h (by decide))
  refine fg_sipush (fg_ft (pc := 16) tb_Mo_placeOf 8 rfl) is_914 ?_
  refine fg_bipush (fg_ft (pc := 19) tb_Mo_placeOf 9 rfl) ib_122 ?_
  refine fg_iloadn (fg_ft (pc := 21) tb_Mo_placeOf 10 rfl) rfl ?_
  refine fg_imulN (fg_ft (pc := 22) tb_Mo_placeOf 11 rfl) ?_
  refine fg_iaddN (fg_ft (pc := 23) tb_Mo_placeOf 12 rfl) ?_
  exact fg_iret (fg_ft (pc := 24) tb_Mo_placeOf 13 rfl) rfl rfl (hQ)
theorem ev_Mo_wholeOf {E : fg_E} {d : Nat} {μ : Nat → Nat → Int32} {R : fg_T4} {Q : Option Value → fg_M → Prop} {v : Nat} {T : Nat → Nat} (hM : fg_MT (μ 288) v T) (hok : fg_ok T)  (hQ : Q (some (.int (nI (2 ^ T 0 - 1)))) (μ, fg_rho R, 304)) : fg_Ev E yy_Mo_wholeOf (d + 1) [.ref 287, .int (nI v)] (μ, fg_rho R, 304) 304 Q := by
  have hv0 := hM.1
  have hb0 := hok.1
  have hb1 := hok.2.1
  have hp := hok.p
  have hq := Nat.two_pow_pos (T 0)
  refine fg_intro (by decide +kernel) (Nat.le_of_ble_eq_true rfl) (fg_okAs rfl) (Nat.le_refl _) ?_
  refine fg_iconst (fg_ft (pc := 0) tb_Mo_wholeOf 0 rfl) ic_1 ?_
  refine fg_aloadn (fg_ft (pc := 1) tb_Mo_wholeOf 1 rfl) rfl ?_
  refine fg_getR (fg_ft (pc := 2) tb_Mo_wholeOf 2 rfl) ff_Mo_7 ly_287 rfl (fg_lt ly_287 (by decide)) (rh_287_0 R) ?_
  refine fg_iloadn (fg_ft (pc := 5) tb_Mo_wholeOf 3 rfl) rfl ?_
  refine fg_iconst (fg_ft (pc := 6) tb_Mo_wholeOf 4 rfl) ic_0 ?_
  refine fg_iaddN (fg_ft (pc := 7) tb_Mo_wholeOf 5 rfl) ?_
  refine fg_ialdV (v := (nI (T 0))) (fg_ft (pc := 8) tb_Mo_wholeOf 6 rfl) ly_288 (fg_lt ly_288 (by decide)) (by omega) (fg_MTat hM (i := v + 0) (k := 0) (by omega) (by omega)) ?_
  refine fg_ishl1 (fg_ft (pc := 9) tb_Mo_wholeOf 7 rfl) (by omega) ?_
  refine fg_iconst (fg_ft (pc := 10) tb_Mo_wholeOf 8 rfl) ic_1 ?_
  refine fg_isubN (fg_ft (pc := 11) tb_Mo_wholeOf 9 rfl) (Nat.one_le_two_pow) ?_
  exact fg_iret (fg_ft (pc := 12) tb_Mo_wholeOf 10 rfl) rfl rfl (hQ)
theorem ev_Mo_headOf {E : fg_E} {d : Nat} {μ : Nat → Nat → Int32} {R : fg_T4} {Q : Option Value → fg_M → Prop} {v : Nat} {T : Nat → Nat} (hM : fg_MT (μ 288) v T) (hok : fg_ok T) {r : Nat} (hr : r < T 1) (hQ : Q (some (.int (nI (2 ^ T (8 + 2 * r))))) (μ, fg_rho R, 304)) : fg_Ev E yy_Mo_headOf (d + 1) [.ref 287, .int (nI v), .int (nI r)] (μ, fg_rho R, 304) 304 Q := by
  have hv0 := hM.1
  have hb0 := hok.1
  have hb1 := hok.2.1
  have hp := hok.p
  have hq := Nat.two_pow_pos (T 0)
  refine fg_intro (by decide +kernel) (Nat.le_of_ble_eq_true rfl) (fg_okAs rfl) (Nat.le_refl _) ?_
  refine fg_iconst (fg_ft (pc := 0) tb_Mo_headOf 0 rfl) ic_1 ?_
  refine fg_aloadn (fg_ft (pc := 1) tb_Mo_headOf 1 rfl) rfl ?_
  refine fg_getR (fg_ft (pc := 2) tb_Mo_headOf 2 rfl) ff_Mo_7 ly_287 rfl (fg_lt ly_287 (by decide)) (rh_287_0 R) ?_
  refine fg_iloadn (fg_ft (pc := 5) tb_Mo_headOf 3 rfl) rfl ?_
  refine fg_bipush (fg_ft (pc := 6) tb_Mo_headOf 4 rfl) ib_8 ?_
  refine fg_iaddN (fg_ft (pc := 8) tb_Mo_headOf 5 rfl) ?_
  refine fg_iconst (fg_ft (pc := 9) tb_Mo_headOf 6 rfl) ic_2 ?_
  refine fg_iloadn (fg_ft (pc := 10) tb_Mo_headOf 7 rfl) rfl ?_
  refine fg_imulN (fg_ft (pc := 11) tb_Mo_headOf 8 rfl) ?_
  refine fg_iaddN (fg_ft (pc := 12) tb_Mo_headOf 9 rfl) ?_
  refine fg_ialdV (v := (nI (T (8 + 2 * r)))) (fg_ft (pc := 13) tb_Mo_headOf 10 rfl) ly_288 (fg_lt ly_288 (by decide)) (by omega) (fg_MTat hM (i := (v + 8) + (2 * r)) (k := 8 + 2 * r) (by omega) (by omega)) ?_
  refine fg_ishl1 (fg_ft (pc := 14) tb_Mo_headOf 11 rfl) (by have := (hok.2.2.1 r hr).1; omega) ?_
  exact fg_iret (fg_ft (pc := 15) tb_Mo_headOf 12 rfl) rfl rfl (hQ)
theorem ev_Mo_bodyOf {E : fg_E} {d : Nat} {μ : Nat → Nat → Int32} {R : fg_T4} {Q : Option Value → fg_M → Prop} {v : Nat} {T : Nat → Nat} (hM : fg_MT (μ 288) v T) (hok : fg_ok T) {r : Nat} (hr : r < T 1) (hQ : Q (some (.int (nI (T (9 + 2 * r))))) (μ, fg_rho R, 304)) : fg_Ev E yy_Mo_bodyOf (d + 1) [.ref 287, .int (nI v), .int (nI r)] (μ, fg_rho R, 304) 304 Q := by
  have hv0 := hM.1
  have hb0 := hok.1
  have hb1 := hok.2.1
  have hp := hok.p
  have hq := Nat.two_pow_pos (T 0)
  refine fg_intro (by decide +kernel) (Nat.le_of_ble_eq_true rfl) (fg_okAs rfl) (Nat.le_refl _) ?_
  refine fg_aloadn (fg_ft (pc := 0) tb_Mo_bodyOf 0 rfl) rfl ?_
  refine fg_getR (fg_ft (pc := 1) tb_Mo_bodyOf 1 rfl) ff_Mo_7 ly_287 rfl (fg_lt ly_287 (by decide)) (rh_287_0 R) ?_
  refine fg_iloadn (fg_ft (pc := 4) tb_Mo_bodyOf 2 rfl) rfl ?_
  refine fg_bipush (fg_ft (pc := 5) tb_Mo_bodyOf 3 rfl) ib_8 ?_
  refine fg_iaddN (fg_ft (pc := 7) tb_Mo_bodyOf 4 rfl) ?_
  refine fg_iconst (fg_ft (pc := 8) tb_Mo_bodyOf 5 rfl) ic_2 ?_
  refine fg_iloadn (fg_ft (pc := 9) tb_Mo_bodyOf 6 rfl) rfl ?_
  refine fg_imulN (fg_ft (pc := 10) tb_Mo_bodyOf 7 rfl) ?_
  refine fg_iaddN (fg_ft (pc := 11) tb_Mo_bodyOf 8 rfl) ?_
  refine fg_iconst (fg_ft (pc := 12) tb_Mo_bodyOf 9 rfl) ic_1 ?_
  refine fg_iaddN (fg_ft (pc := 13) tb_Mo_bodyOf 10 rfl) ?_
  refine fg_ialdV (v := (nI (T (9 + 2 * r)))) (fg_ft (pc := 14) tb_Mo_bodyOf 11 rfl) ly_288 (fg_lt ly_288 (by decide)) (by omega) (fg_MTat hM (i := ((v + 8) + (2 * r)) + 1) (k := 9 + 2 * r) (by omega) (by omega)) ?_
  exact fg_iret (fg_ft (pc := 15) tb_Mo_bodyOf 12 rfl) rfl rfl (hQ)
theorem ev_Mo_kept {E : fg_E} {d : Nat} {μ : Nat → Nat → Int32} {R : fg_T4} {Q : Option Value → fg_M → Prop} {v : Nat} {T : Nat → Nat} (hM : fg_MT (μ 288) v T) (hok : fg_ok T) {p w k : Nat} (hp5 : p < T 2) (hw : w < 3) (hk : k = 40 + w + 3 * p) (hQ : Q (some (.int (nI (T k)))) (μ, fg_rho R, 304)) : fg_Ev E yy_Mo_kept (d + 1) [.ref 287, .int (nI v), .int (nI p), .int (nI w)] (μ, fg_rho R, 304) 304 Q := by
  have hv0 := hM.1
  have hb0 := hok.1
  have hb1 := hok.2.1
  have hp := hok.p
  have hq := Nat.two_pow_pos (T 0)
  refine fg_intro (by decide +kernel) (Nat.le_of_ble_eq_true rfl) (fg_okAs rfl) (Nat.le_refl _) ?_
  refine fg_aloadn (fg_ft (pc := 0) tb_Mo_kept 0 rfl) rfl ?_
  refine fg_getR (fg_ft (pc := 1) tb_Mo_kept 1 rfl) ff_Mo_7 ly_287 rfl (fg_lt ly_287 (by decide)) (rh_287_0 R) ?_
  refine fg_iloadn (fg_ft (pc := 4) tb_Mo_kept 2 rfl) rfl ?_
  refine fg_bipush (fg_ft (pc := 5) tb_Mo_kept 3 rfl) ib_40 ?_
  refine fg_iaddN (fg_ft (pc := 7) tb_Mo_kept 4 rfl) ?_
  refine fg_iconst (fg_ft (pc := 8) tb_Mo_kept 5 rfl) ic_3 ?_
  refine fg_iloadn (fg_ft (pc := 9) tb_Mo_kept 6 rfl) rfl ?_
  refine fg_imulN (fg_ft (pc := 10) tb_Mo_kept 7 rfl) ?_
  refine fg_iaddN (fg_ft (pc := 11) tb_Mo_kept 8 rfl) ?_
  refine fg_iloadn (fg_ft (pc := 12) tb_Mo_kept 9 rfl) rfl ?_
  refine fg_iaddN (fg_ft (pc := 13) tb_Mo_kept 10 rfl) ?_
  refine fg_ialdV (v := (nI (T k))) (fg_ft (pc := 14) tb_Mo_kept 11 rfl) ly_288 (fg_lt ly_288 (by decide)) (by omega) (fg_MTat hM (i := ((v + 40) + (3 * p)) + w) (k := k) (by omega) (by omega)) ?_
  exact fg_iret (fg_ft (pc := 15) tb_Mo_kept 12 rfl) rfl rfl (hQ)
theorem ev_Mo_many {E : fg_E} {d : Nat} {μ : Nat → Nat → Int32} {R : fg_T4} {Q : Option Value → fg_M → Prop} {s : Nat} (hs : s < 1024) (hQ : Q (some (.int (nI (fg_pc s)))) (μ, fg_rho R, 304)) : fg_Ev E yy_Mo_many (d + 1) [.int (nI s)] (μ, fg_rho R, 304) 304 Q := by
  have loop : ∀ (n k a : Nat), 10 - k < n → k ≤ 10 → a = fg_pcw k s → fg_wp E yy_Mo_many (d + 1) 304 304 Q 4 [.int (nI s), .int (nI a), .int (nI k)] [] (μ, fg_rho R, 304) := by
    intro n
    induction n with
    | zero => intro k a h; exact absurd h (Nat.not_lt_zero _)
    | succ n ih =>
      intro k a hn hk ha
      refine fg_iloadn (fg_ft (pc := 4) tb_Mo_many 4 rfl) rfl ?_
      refine fg_bipush (fg_ft (pc := 5) tb_Mo_many 5 rfl) ib_10 ?_
      refine fg_icmp_geN (tgt := 24) (fg_ft (pc := 7) tb_Mo_many 6 rfl) (by decide) (by omega) (by decide) (fun c7 => ?_) (fun c7 => ?_)
      · refine fg_iloadn (fg_ft (pc := 24) tb_Mo_many 17 rfl) rfl ?_
        exact fg_iret (fg_ft (pc := 25) tb_Mo_many 18 rfl) rfl rfl (by rw [ha, show k = 10 by omega]; unfold fg_pc at hQ; rw [fg_pcw_lt 12 10 s (by omega) (by decide)] at hQ; exact hQ)
      · refine fg_iloadn (fg_ft (pc := 10) tb_Mo_many 7 rfl) rfl ?_
        refine fg_iloadn (fg_ft (pc := 11) tb_Mo_many 8 rfl) rfl ?_
        refine fg_iloadn (fg_ft (pc := 12) tb_Mo_many 9 rfl) rfl ?_
        refine fg_ishrN (fg_ft (pc := 13) tb_Mo_many 10 rfl) (by omega) (by omega) ?_
        refine fg_iconst (fg_ft (pc := 14) tb_Mo_many 11 rfl) ic_1 ?_
        refine fg_iandN (fg_ft (pc := 15) tb_Mo_many 12 rfl) ?_
        refine fg_iadd (fg_ft (pc := 16) tb_Mo_many 13 rfl) ?_
        rw [nI_add, fg_bit1]
        refine fg_istoren (fg_ft (pc := 17) tb_Mo_many 14 rfl) (Nat.le_of_ble_eq_true rfl) ?_
        refine fg_iincN (fg_ft (pc := 18) tb_Mo_many 15 rfl) rfl ic_1 rfl ?_
        refine fg_goto (tgt := 4) (fg_ft (pc := 21) tb_Mo_many 16 rfl) (by decide) ?_
        exact ih (k + 1) _ (by omega) (by omega) (by rw [ha]; rfl)
  refine fg_intro (by decide +kernel) (Nat.le_of_ble_eq_true rfl) (fg_okAs rfl) (Nat.le_refl _) ?_
  refine fg_iconst (fg_ft (pc := 0) tb_Mo_many 0 rfl) ic_0 ?_
  refine fg_istoren (fg_ft (pc := 1) tb_Mo_many 1 rfl) (Nat.le_of_ble_eq_true rfl) ?_
  refine fg_iconst (fg_ft (pc := 2) tb_Mo_many 2 rfl) ic_0 ?_
  refine fg_istoren (fg_ft (pc := 3) tb_Mo_many 3 rfl) (Nat.le_of_ble_eq_true rfl) ?_
  exact loop 11 0 0 (by decide) (by decide) rfl
def fg_cl1 (T : Nat → Nat) (s k : Nat) : Prop := ∀ r, r < k → fg_le (T (9 + 2 * r)) s → s.testBit (T (8 + 2 * r)) = true
theorem fg_cl1_s {T : Nat → Nat} {s k : Nat} (h : fg_cl1 T s k) (hn : ¬ fg_df (T (9 + 2 * k)) s = 0 ∨ ¬ s &&& 2 ^ T (8 + 2 * k) = 0) : fg_cl1 T s (k + 1) := by
  intro r hr hl
  rcases Nat.lt_or_ge r k with g | g
  · exact h r g hl
  · obtain rfl : r = k := by omega
    rcases hn with a | a
    · exact absurd (fg_df0.mpr hl) a
    · exact Classical.byContradiction (fun hh => a (fg_and2p.mpr hh))
theorem fg_cl1_n {T : Nat → Nat} {s k : Nat} (h1 : fg_df (T (9 + 2 * k)) s = 0) (h2 : s &&& 2 ^ T (8 + 2 * k) = 0) : ∀ n, k < n → ¬ fg_cl1 T s n := fun n hk h => fg_and2p.mp h2 (h k hk (fg_df0.mp h1))
theorem ev_Mo_closes {E : fg_E} {d : Nat} {μ : Nat → Nat → Int32} {R : fg_T4} {Q : Option Value → fg_M → Prop} {v : Nat} {T : Nat → Nat} (hM : fg_MT (μ 288) v T) (hok : fg_ok T)  (hQ : ∀ μ' : Nat → Nat → Int32, (∀ a, a ≠ 291 → ∀ j, μ' a j = μ a j) → fg_MC μ' T → Q none (μ', fg_rho R, 304)) : fg_Ev E yy_Mo_closes (d + 2) [.ref 287, .int (nI v)] (μ, fg_rho R, 304) 304 Q := by
  have hv0 := hM.1
  have hb0 := hok.1
  have hb1 := hok.2.1
  have hp := hok.p
  have hq := Nat.two_pow_pos (T 0)
  have inner : ∀ (s : Nat) (ν : Nat → Nat → Int32), s < 2 ^ T 0 → (∀ j, ν 288 j = μ 288 j) → (∀ v4 : Value, fg_wp E yy_Mo_closes (d + 2) 304 304 Q 78 [.ref 287, .int (nI v), .int (nI s), .int (fg_bI (fg_clsd T s)), v4] [] ((fg_u2 ν 291 s (fg_bI (fg_clsd T s))), fg_rho R, 304)) → ∀ (m r b : Nat), T 1 - r < m → r ≤ T 1 → ((b = 1 ∧ fg_cl1 T s r) ∨ (b = 0 ∧ ∀ n, r ≤ n → ¬ fg_cl1 T s n)) → fg_wp E yy_Mo_closes (d + 2) 304 304 Q 16 [.ref 287, .int (nI v), .int (nI s), .int (nI b), .int (nI r)] [] (ν, fg_rho R, 304) := by
    intro s ν hs h288 hk m
    have hMn := hM.ag h288
    induction m with
    | zero => intro r b h; exact absurd h (Nat.not_lt_zero _)
    | succ m ih =>
      intro r b hm hr hI
      rcases hI with ⟨rfl, hI⟩ | ⟨rfl, hI⟩
      · refine fg_iload (fg_ft (pc := 16) tb_Mo_closes 11 rfl) rfl ?_
        refine fg_aloadn (fg_ft (pc := 18) tb_Mo_closes 12 rfl) rfl ?_
        refine fg_getR (fg_ft (pc := 19) tb_Mo_closes 13 rfl) ff_Mo_7 ly_287 rfl (fg_lt ly_287 (by decide)) (rh_287_0 R) ?_
        refine fg_iloadn (fg_ft (pc := 22) tb_Mo_closes 14 rfl) rfl ?_
        refine fg_iconst (fg_ft (pc := 23) tb_Mo_closes 15 rfl) ic_1 ?_
        refine fg_iaddN (fg_ft (pc := 24) tb_Mo_closes 16 rfl) ?_
        refine fg_ialdV (v := (nI (T 1))) (fg_ft (pc := 25) tb_Mo_closes 17 rfl) ly_288 (fg_lt ly_288 (by decide)) (by omega) (fg_MTat hMn (i := v + 1) (k := 1) (by omega) (by omega)) ?_
        refine fg_icmp_geN (tgt := 71) (fg_ft (pc := 26) tb_Mo_closes 18 rfl) (by decide) (by omega) (by omega) (fun c26 => ?_) (fun c26 => ?_)
        · refine fg_aloadn (fg_ft (pc := 71) tb_Mo_closes 43 rfl) rfl ?_
          refine fg_getR (fg_ft (pc := 72) tb_Mo_closes 44 rfl) ff_Mo_20 ly_287 rfl (fg_lt ly_287 (by decide)) (rh_287_11 R) ?_
          refine fg_iloadn (fg_ft (pc := 75) tb_Mo_closes 45 rfl) rfl ?_
          refine fg_iloadn (fg_ft (pc := 76) tb_Mo_closes 46 rfl) rfl ?_
          refine fg_zastN (fg_ft (pc := 77) tb_Mo_closes 47 rfl) ly_291 (fg_lt ly_291 (by decide)) (by omega) ?_
          have q9 := hk (.int (nI r))
          rw [fg_bT (show fg_clsd T s from fun q hq => hI q (by omega))] at q9
          exact q9
        · refine fg_iloadn (fg_ft (pc := 29) tb_Mo_closes 19 rfl) rfl ?_
          refine fg_if_eq (tgt := 63) (fg_ft (pc := 30) tb_Mo_closes 20 rfl) (by decide) (fun h => absurd h (by decide)) (fun _ => ?_)
          refine fg_aloadn (fg_ft (pc := 33) tb_Mo_closes 21 rfl) rfl ?_
          refine fg_iloadn (fg_ft (pc := 34) tb_Mo_closes 22 rfl) rfl ?_
          refine fg_iload (fg_ft (pc := 35) tb_Mo_closes 23 rfl) rfl ?_
          refine fg_callV (fg_ft (pc := 37) tb_Mo_closes 24 rfl) cf_Mo_179 (fg_isOf ly_287 rfl (fg_lt ly_287 (by decide))) (as := [.int (nI v), .int (nI r)]) (st := []) rfl rfl (Nat.le_of_ble_eq_true rfl) (Nat.le_refl _) (Nat.le_refl _) (ev_Mo_bodyOf hMn hok (r := r) (by omega) ?_)
          refine fg_iloadn (fg_ft (pc := 40) tb_Mo_closes 25 rfl) rfl ?_
          refine fg_iconst (fg_ft (pc := 41) tb_Mo_closes 26 rfl) ic_m1 ?_
          refine fg_ixor (fg_ft (pc := 42) tb_Mo_closes 27 rfl) ?_
          refine fg_iandD (fg_ft (pc := 43) tb_Mo_closes 28 rfl) ?_
          refine fg_if_neN (tgt := 59) (fg_ft (pc := 44) tb_Mo_closes 29 rfl) (by decide) (fg_df_le31 (by have := (hok.2.2.1 r (by omega)).2.1; omega)) (fun c44 => ?_) (fun c44 => ?_)
          · refine fg_iconst (fg_ft (pc := 59) tb_Mo_closes 37 rfl) ic_1 ?_
            refine fg_goto (tgt := 64) (fg_ft (pc := 60) tb_Mo_closes 38 rfl) (by decide) ?_
            refine fg_istoren (fg_ft (pc := 64) tb_Mo_closes 40 rfl) (Nat.le_of_ble_eq_true rfl) ?_
            refine fg_iincN (fg_ft (pc := 65) tb_Mo_closes 41 rfl) rfl ic_1 rfl ?_
            refine fg_goto (tgt := 16) (fg_ft (pc := 68) tb_Mo_closes 42 rfl) (by decide) ?_
            exact ih (r + 1) 1 (by omega) (by omega) (Or.inl ⟨rfl, fg_cl1_s hI (by first | exact Or.inl c44 | exact Or.inr c56)⟩)
          · refine fg_iloadn (fg_ft (pc := 47) tb_Mo_closes 30 rfl) rfl ?_
            refine fg_aloadn (fg_ft (pc := 48) tb_Mo_closes 31 rfl) rfl ?_
            refine fg_iloadn (fg_ft (pc := 49) tb_Mo_closes 32 rfl) rfl ?_
            refine fg_iload (fg_ft (pc := 50) tb_Mo_closes 33 rfl) rfl ?_
            refine fg_callV (fg_ft (pc := 52) tb_Mo_closes 34 rfl) cf_Mo_182 (fg_isOf ly_287 rfl (fg_lt ly_287 (by decide))) (as := [.int (nI v), .int (nI r)]) (st := [.int (nI s)]) rfl rfl (Nat.le_of_ble_eq_true rfl) (Nat.le_refl _) (Nat.le_refl _) (ev_Mo_headOf hMn hok (r := r) (by omega) ?_)
            refine fg_iandN (fg_ft (pc := 55) tb_Mo_closes 35 rfl) ?_
            refine fg_if_eqN (tgt := 63) (fg_ft (pc := 56) tb_Mo_closes 36 rfl) (by decide) (Nat.lt_of_le_of_lt Nat.and_le_left (by omega)) (fun c56 => ?_) (fun c56 => ?_)
            · refine fg_iconst (fg_ft (pc := 63) tb_Mo_closes 39 rfl) ic_0 ?_
              refine fg_istoren (fg_ft (pc := 64) tb_Mo_closes 40 rfl) (Nat.le_of_ble_eq_true rfl) ?_
              refine fg_iincN (fg_ft (pc := 65) tb_Mo_closes 41 rfl) rfl ic_1 rfl ?_
              refine fg_goto (tgt := 16) (fg_ft (pc := 68) tb_Mo_closes 42 rfl) (by decide) ?_
              exact ih (r + 1) 0 (by omega) (by omega) (Or.inr ⟨rfl, fun n hn => fg_cl1_n c44 c56 n (by omega)⟩)
            · refine fg_iconst (fg_ft (pc := 59) tb_Mo_closes 37 rfl) ic_1 ?_
              refine fg_goto (tgt := 64) (fg_ft (pc := 60) tb_Mo_closes 38 rfl) (by decide) ?_
              refine fg_istoren (fg_ft (pc := 64) tb_Mo_closes 40 rfl) (Nat.le_of_ble_eq_true rfl) ?_
              refine fg_iincN (fg_ft (pc := 65) tb_Mo_closes 41 rfl) rfl ic_1 rfl ?_
              refine fg_goto (tgt := 16) (fg_ft (pc := 68) tb_Mo_closes 42 rfl) (by decide) ?_
              exact ih (r + 1) 1 (by omega) (by omega) (Or.inl ⟨rfl, fg_cl1_s hI (by first | exact Or.inl c44 | exact Or.inr c56)⟩)
      · refine fg_iload (fg_ft (pc := 16) tb_Mo_closes 11 rfl) rfl ?_
        refine fg_aloadn (fg_ft (pc := 18) tb_Mo_closes 12 rfl) rfl ?_
        refine fg_getR (fg_ft (pc := 19) tb_Mo_closes 13 rfl) ff_Mo_7 ly_287 rfl (fg_lt ly_287 (by decide)) (rh_287_0 R) ?_
        refine fg_iloadn (fg_ft (pc := 22) tb_Mo_closes 14 rfl) rfl ?_
        refine fg_iconst (fg_ft (pc := 23) tb_Mo_closes 15 rfl) ic_1 ?_
        refine fg_iaddN (fg_ft (pc := 24) tb_Mo_closes 16 rfl) ?_
        refine fg_ialdV (v := (nI (T 1))) (fg_ft (pc := 25) tb_Mo_closes 17 rfl) ly_288 (fg_lt ly_288 (by decide)) (by omega) (fg_MTat hMn (i := v + 1) (k := 1) (by omega) (by omega)) ?_
        refine fg_icmp_geN (tgt := 71) (fg_ft (pc := 26) tb_Mo_closes 18 rfl) (by decide) (by omega) (by omega) (fun c26 => ?_) (fun c26 => ?_)
        · refine fg_aloadn (fg_ft (pc := 71) tb_Mo_closes 43 rfl) rfl ?_
          refine fg_getR (fg_ft (pc := 72) tb_Mo_closes 44 rfl) ff_Mo_20 ly_287 rfl (fg_lt ly_287 (by decide)) (rh_287_11 R) ?_
          refine fg_iloadn (fg_ft (pc := 75) tb_Mo_closes 45 rfl) rfl ?_
          refine fg_iloadn (fg_ft (pc := 76) tb_Mo_closes 46 rfl) rfl ?_
          refine fg_zastN (fg_ft (pc := 77) tb_Mo_closes 47 rfl) ly_291 (fg_lt ly_291 (by decide)) (by omega) ?_
          have q9 := hk (.int (nI r))
          rw [fg_bF (show ¬ fg_clsd T s from hI (T 1) (by omega))] at q9
          exact q9
        · refine fg_iloadn (fg_ft (pc := 29) tb_Mo_closes 19 rfl) rfl ?_
          refine fg_if_eq (tgt := 63) (fg_ft (pc := 30) tb_Mo_closes 20 rfl) (by decide) (fun _ => ?_) (fun h => absurd h (by decide))
          refine fg_iconst (fg_ft (pc := 63) tb_Mo_closes 39 rfl) ic_0 ?_
          refine fg_istoren (fg_ft (pc := 64) tb_Mo_closes 40 rfl) (Nat.le_of_ble_eq_true rfl) ?_
          refine fg_iincN (fg_ft (pc := 65) tb_Mo_closes 41 rfl) rfl ic_1 rfl ?_
          refine fg_goto (tgt := 16) (fg_ft (pc := 68) tb_Mo_closes 42 rfl) (by decide) ?_
          exact ih (r + 1) 0 (by omega) (by omega) (Or.inr ⟨rfl, fun n hn => hI n (by omega)⟩)
  have outer : ∀ (m s : Nat) (ν : Nat → Nat → Int32) (v3 v4 : Value), 2 ^ T 0 - s < m → s ≤ 2 ^ T 0 → (∀ a, a ≠ 291 → ∀ j, ν a j = μ a j) → (∀ q, q < s → ν 291 q = fg_bI (fg_clsd T q)) → fg_wp E yy_Mo_closes (d + 2) 304 304 Q 2 [.ref 287, .int (nI v), .int (nI s), v3, v4] [] (ν, fg_rho R, 304) := by
    intro m
    induction m with
    | zero => intro s ν v3 v4 h; exact absurd h (Nat.not_lt_zero _)
    | succ m ih =>
      intro s ν v3 v4 hm hs hfr hcl
      have h288 : ∀ j, ν 288 j = μ 288 j := hfr 288 (by decide)
      have hMn := hM.ag h288
      refine fg_iloadn (fg_ft (pc := 2) tb_Mo_closes 2 rfl) rfl ?_
      refine fg_aloadn (fg_ft (pc := 3) tb_Mo_closes 3 rfl) rfl ?_
      refine fg_iloadn (fg_ft (pc := 4) tb_Mo_closes 4 rfl) rfl ?_
      refine fg_callV (fg_ft (pc := 5) tb_Mo_closes 5 rfl) cf_Mo_169 (fg_isOf ly_287 rfl (fg_lt ly_287 (by decide))) (as := [.int (nI v)]) (st := [.int (nI s)]) rfl rfl (Nat.le_of_ble_eq_true rfl) (Nat.le_refl _) (Nat.le_refl _) (ev_Mo_wholeOf hMn hok ?_)
      refine fg_icmp_gtN (tgt := 84) (fg_ft (pc := 8) tb_Mo_closes 6 rfl) (by decide) (by omega) (by omega) (fun c8 => ?_) (fun c8 => ?_)
      · exact fg_vret (fg_ft (pc := 84) tb_Mo_closes 50 rfl) rfl rfl (hQ ν hfr (fun q hq => hcl q (by omega)))
      · refine fg_iconst (fg_ft (pc := 11) tb_Mo_closes 7 rfl) ic_1 ?_
        refine fg_istoren (fg_ft (pc := 12) tb_Mo_closes 8 rfl) (Nat.le_of_ble_eq_true rfl) ?_
        refine fg_iconst (fg_ft (pc := 13) tb_Mo_closes 9 rfl) ic_0 ?_
        refine fg_istore (fg_ft (pc := 14) tb_Mo_closes 10 rfl) (Nat.le_of_ble_eq_true rfl) ?_
        refine inner s ν (by omega) h288 (fun v4' => ?_) (T 1 + 1) 0 1 (by omega) (by omega) (Or.inl ⟨rfl, fun r hr => absurd hr (Nat.not_lt_zero _)⟩)
        refine fg_iincN (fg_ft (pc := 78) tb_Mo_closes 48 rfl) rfl ic_1 rfl ?_
        refine fg_goto (tgt := 2) (fg_ft (pc := 81) tb_Mo_closes 49 rfl) (by decide) ?_
        exact ih (s + 1) _ _ _ (by omega) (by omega) (fun a ha j => (fg_u2ne ha).trans (hfr a ha j)) (fun q hq => by
          rcases Nat.decEq q s with g | g
          · exact (fg_u2ns g).trans (hcl q (by omega))
          · rw [g]; exact fg_u2eq)
  refine fg_intro (by decide +kernel) (Nat.le_of_ble_eq_true rfl) (fg_okAs rfl) (Nat.le_refl _) ?_
  refine fg_iconst (fg_ft (pc := 0) tb_Mo_closes 0 rfl) ic_0 ?_
  refine fg_istoren (fg_ft (pc := 1) tb_Mo_closes 1 rfl) (Nat.le_of_ble_eq_true rfl) ?_
  exact outer (2 ^ T 0 + 1) 0 μ _ _ (by omega) (by omega) (fun _ _ _ => rfl) (fun q hq => absurd hq (Nat.not_lt_zero _))
