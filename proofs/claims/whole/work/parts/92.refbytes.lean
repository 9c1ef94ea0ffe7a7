/-! the reference's bytes -/
def fg_by (len : Nat) (b : Nat → Nat) (k : Nat) : Int32 := if k < len then nI (b k) else -1
theorem ev_Mo_byteAt {E : fg_E} {d : Nat} {μ : Nat → Nat → Int32} {R : fg_T4} {Q : Option Value → fg_M → Prop} {len k : Nat} {b : Nat → Nat} (hsz : μ 287 2 = nI len) (hle : len ≤ 600) (hb : ∀ j, j < len → μ 288 (10 + j) = nI (b j)) (hk : k < 2 ^ 31) (hQ : Q (some (.int (fg_by len b k))) (μ, fg_rho R, 304)) : fg_Ev E yy_Mo_byteAt (d + 1) [.ref 287, .int (nI k)] (μ, fg_rho R, 304) 304 Q := by
  refine fg_intro (by decide +kernel) (Nat.le_of_ble_eq_true rfl) (fg_okAs rfl) (Nat.le_refl _) ?_
  refine fg_iloadn (fg_ft (pc := 0) tb_Mo_byteAt 0 rfl) rfl ?_
  refine fg_aloadn (fg_ft (pc := 1) tb_Mo_byteAt 1 rfl) rfl ?_
  refine fg_getV (v := (nI len)) (fg_ft (pc := 2) tb_Mo_byteAt 2 rfl) ff_Mo_63 ly_287 rfl (fg_lt ly_287 (by decide)) hsz ?_
  refine fg_icmp_geN (tgt := 20) (fg_ft (pc := 5) tb_Mo_byteAt 3 rfl) (by decide) (by omega) (by omega) (fun c5 => ?_) (fun c5 => ?_)
  · refine fg_iconst (fg_ft (pc := 20) tb_Mo_byteAt 11 rfl) ic_m1 ?_
    exact fg_iret (fg_ft (pc := 21) tb_Mo_byteAt 12 rfl) rfl rfl (fg_q hQ (by unfold fg_by; first | rw [if_pos (by omega)] | rw [if_neg (by omega)]))
  · refine fg_aloadn (fg_ft (pc := 8) tb_Mo_byteAt 4 rfl) rfl ?_
    refine fg_getR (fg_ft (pc := 9) tb_Mo_byteAt 5 rfl) ff_Mo_7 ly_287 rfl (fg_lt ly_287 (by decide)) (rh_287_0 R) ?_
    refine fg_bipush (fg_ft (pc := 12) tb_Mo_byteAt 6 rfl) ib_10 ?_
    refine fg_iloadn (fg_ft (pc := 14) tb_Mo_byteAt 7 rfl) rfl ?_
    refine fg_iaddN (fg_ft (pc := 15) tb_Mo_byteAt 8 rfl) ?_
    refine fg_ialdV (v := (nI (b k))) (fg_ft (pc := 16) tb_Mo_byteAt 9 rfl) ly_288 (fg_lt ly_288 (by decide)) (by omega) (hb k (by omega)) ?_
    refine fg_goto (tgt := 21) (fg_ft (pc := 17) tb_Mo_byteAt 10 rfl) (by decide) ?_
    exact fg_iret (fg_ft (pc := 21) tb_Mo_byteAt 12 rfl) rfl rfl (fg_q hQ (by unfold fg_by; first | rw [if_pos (by omega)] | rw [if_neg (by omega)]))
theorem ev_Mo_isLetter {E : fg_E} {d : Nat} {μ : Nat → Nat → Int32} {R : fg_T4} {Q : Option Value → fg_M → Prop} {x : Int32} (hQ : Q (some (.int (fg_bI (nI 97 ≤ x ∧ x ≤ nI 122)))) (μ, fg_rho R, 304)) : fg_Ev E yy_Mo_isLetter (d + 1) [.int x] (μ, fg_rho R, 304) 304 Q := by
  refine fg_intro (by decide +kernel) (Nat.le_of_ble_eq_true rfl) (fg_okAs rfl) (Nat.le_refl _) ?_
  refine fg_iloadn (fg_ft (pc := 0) tb_Mo_isLetter 0 rfl) rfl ?_
  refine fg_bipush (fg_ft (pc := 1) tb_Mo_isLetter 1 rfl) ib_97 ?_
  refine fg_icmp_lt (tgt := 16) (fg_ft (pc := 3) tb_Mo_isLetter 2 rfl) (by decide) (fun c3 => ?_) (fun c3 => ?_)
  · refine fg_iconst (fg_ft (pc := 16) tb_Mo_isLetter 8 rfl) ic_0 ?_
    exact fg_zret (fg_ft (pc := 17) tb_Mo_isLetter 9 rfl) rfl (by decide) rfl (fg_q hQ (fg_bF (fun hh => by first | exact absurd c3 (Int32.not_lt.mpr hh.1) | exact absurd c9 (Int32.not_lt.mpr hh.2))))
  · refine fg_iloadn (fg_ft (pc := 6) tb_Mo_isLetter 3 rfl) rfl ?_
    refine fg_bipush (fg_ft (pc := 7) tb_Mo_isLetter 4 rfl) ib_122 ?_
    refine fg_icmp_gt (tgt := 16) (fg_ft (pc := 9) tb_Mo_isLetter 5 rfl) (by decide) (fun c9 => ?_) (fun c9 => ?_)
    · refine fg_iconst (fg_ft (pc := 16) tb_Mo_isLetter 8 rfl) ic_0 ?_
      exact fg_zret (fg_ft (pc := 17) tb_Mo_isLetter 9 rfl) rfl (by decide) rfl (fg_q hQ (fg_bF (fun hh => by first | exact absurd c3 (Int32.not_lt.mpr hh.1) | exact absurd c9 (Int32.not_lt.mpr hh.2))))
    · refine fg_iconst (fg_ft (pc := 12) tb_Mo_isLetter 6 rfl) ic_1 ?_
      refine fg_goto (tgt := 17) (fg_ft (pc := 13) tb_Mo_isLetter 7 rfl) (by decide) ?_
      exact fg_zret (fg_ft (pc := 17) tb_Mo_isLetter 9 rfl) rfl (by decide) rfl (fg_q hQ (fg_bT ⟨Int32.not_lt.mp c3, Int32.not_lt.mp c9⟩))
theorem ev_Mo_isDigit {E : fg_E} {d : Nat} {μ : Nat → Nat → Int32} {R : fg_T4} {Q : Option Value → fg_M → Prop} {x : Int32} (hQ : Q (some (.int (fg_bI (nI 48 ≤ x ∧ x ≤ nI 57)))) (μ, fg_rho R, 304)) : fg_Ev E yy_Mo_isDigit (d + 1) [.int x] (μ, fg_rho R, 304) 304 Q := by
  refine fg_intro (by decide +kernel) (Nat.le_of_ble_eq_true rfl) (fg_okAs rfl) (Nat.le_refl _) ?_
  refine fg_iloadn (fg_ft (pc := 0) tb_Mo_isDigit 0 rfl) rfl ?_
  refine fg_bipush (fg_ft (pc := 1) tb_Mo_isDigit 1 rfl) ib_48 ?_
  refine fg_icmp_lt (tgt := 16) (fg_ft (pc := 3) tb_Mo_isDigit 2 rfl) (by decide) (fun c3 => ?_) (fun c3 => ?_)
  · refine fg_iconst (fg_ft (pc := 16) tb_Mo_isDigit 8 rfl) ic_0 ?_
    exact fg_zret (fg_ft (pc := 17) tb_Mo_isDigit 9 rfl) rfl (by decide) rfl (fg_q hQ (fg_bF (fun hh => by first | exact absurd c3 (Int32.not_lt.mpr hh.1) | exact absurd c9 (Int32.not_lt.mpr hh.2))))
  · refine fg_iloadn (fg_ft (pc := 6) tb_Mo_isDigit 3 rfl) rfl ?_
    refine fg_bipush (fg_ft (pc := 7) tb_Mo_isDigit 4 rfl) ib_57 ?_
    refine fg_icmp_gt (tgt := 16) (fg_ft (pc := 9) tb_Mo_isDigit 5 rfl) (by decide) (fun c9 => ?_) (fun c9 => ?_)
    · refine fg_iconst (fg_ft (pc := 16) tb_Mo_isDigit 8 rfl) ic_0 ?_
      exact fg_zret (fg_ft (pc := 17) tb_Mo_isDigit 9 rfl) rfl (by decide) rfl (fg_q hQ (fg_bF (fun hh => by first | exact absurd c3 (Int32.not_lt.mpr hh.1) | exact absurd c9 (Int32.not_lt.mpr hh.2))))
    · refine fg_iconst (fg_ft (pc := 12) tb_Mo_isDigit 6 rfl) ic_1 ?_
      refine fg_goto (tgt := 17) (fg_ft (pc := 13) tb_Mo_isDigit 7 rfl) (by decide) ?_
      exact fg_zret (fg_ft (pc := 17) tb_Mo_isDigit 9 rfl) rfl (by decide) rfl (fg_q hQ (fg_bT ⟨Int32.not_lt.mp c3, Int32.not_lt.mp c9⟩))
theorem ev_Mo_three {E : fg_E} {d : Nat} {μ : Nat → Nat → Int32} {R : fg_T4} {Q : Option Value → fg_M → Prop} {a b c : Nat} (hQ : Q (some (.int (nI ((a * 32 + b) * 32 + c)))) (μ, fg_rho R, 304)) : fg_Ev E yy_Mo_three (d + 1) [.int (nI a), .int (nI b), .int (nI c)] (μ, fg_rho R, 304) 304 Q := by
  refine fg_intro (by decide +kernel) (Nat.le_of_ble_eq_true rfl) (fg_okAs rfl) (Nat.le_refl _) ?_
  refine fg_iloadn (fg_ft (pc := 0) tb_Mo_three 0 rfl) rfl ?_
  refine fg_bipush (fg_ft (pc := 1) tb_Mo_three 1 rfl) ib_32 ?_
  refine fg_imulN (fg_ft (pc := 3) tb_Mo_three 2 rfl) ?_
  refine fg_iloadn (fg_ft (pc := 4) tb_Mo_three 3 rfl) rfl ?_
  refine fg_iaddN (fg_ft (pc := 5) tb_Mo_three 4 rfl) ?_
  refine fg_bipush (fg_ft (pc := 6) tb_Mo_three 5 rfl) ib_32 ?_
  refine fg_imulN (fg_ft (pc := 8) tb_Mo_three 6 rfl) ?_
  refine fg_iloadn (fg_ft (pc := 9) tb_Mo_three 7 rfl) rfl ?_
  refine fg_iaddN (fg_ft (pc := 10) tb_Mo_three 8 rfl) ?_
  exact fg_iret (fg_ft (pc := 11) tb_Mo_three 9 rfl) rfl rfl (hQ)
theorem ev_Mo_five {E : fg_E} {d : Nat} {μ : Nat → Nat → Int32} {R : fg_T4} {Q : Option Value → fg_M → Prop} {a b c z y : Nat} (hQ : Q (some (.int (nI (((a * 32 + b) * 32 + c) * 1024 + z * 32 + y)))) (μ, fg_rho R, 304)) : fg_Ev E yy_Mo_five (d + 2) [.int (nI a), .int (nI b), .int (nI c), .int (nI z), .int (nI y)] (μ, fg_rho R, 304) 304 Q := by
  refine fg_intro (by decide +kernel) (Nat.le_of_ble_eq_true rfl) (fg_okAs rfl) (Nat.le_refl _) ?_
  refine fg_iloadn (fg_ft (pc := 0) tb_Mo_five 0 rfl) rfl ?_
  refine fg_iloadn (fg_ft (pc := 1) tb_Mo_five 1 rfl) rfl ?_
  refine fg_iloadn (fg_ft (pc := 2) tb_Mo_five 2 rfl) rfl ?_
  refine fg_callS (fg_ft (pc := 3) tb_Mo_five 3 rfl) cf_Mo_66 (as := [.int (nI a), .int (nI b), .int (nI c)]) (st := []) rfl rfl (Nat.le_of_ble_eq_true rfl) (Nat.le_refl _) (Nat.le_refl _) (ev_Mo_three (a := a) (b := b) (c := c) ?_)
  refine fg_sipush (fg_ft (pc := 6) tb_Mo_five 4 rfl) is_1024 ?_
  refine fg_imulN (fg_ft (pc := 9) tb_Mo_five 5 rfl) ?_
  refine fg_iloadn (fg_ft (pc := 10) tb_Mo_five 6 rfl) rfl ?_
  refine fg_bipush (fg_ft (pc := 11) tb_Mo_five 7 rfl) ib_32 ?_
  refine fg_imulN (fg_ft (pc := 13) tb_Mo_five 8 rfl) ?_
  refine fg_iaddN (fg_ft (pc := 14) tb_Mo_five 9 rfl) ?_
  refine fg_iload (fg_ft (pc := 15) tb_Mo_five 10 rfl) rfl ?_
  refine fg_iaddN (fg_ft (pc := 17) tb_Mo_five 11 rfl) ?_
  exact fg_iret (fg_ft (pc := 18) tb_Mo_five 12 rfl) rfl rfl (hQ)
