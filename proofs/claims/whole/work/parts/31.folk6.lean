/-! the seeded day -/
def fg_dr (x : Int32) : Int32 := x * (1103515245 : Int32) + nI 12345
def fg_bl (x : Int32) (n : Nat) : Nat := if n = 0 then 0 else (x.toUInt32.toNat / 65536) % n
theorem fg_bl_lt {x : Int32} {n : Nat} : fg_bl x n < 2 ^ 31 := by
  unfold fg_bl
  split
  · decide
  · have h1 : x.toUInt32.toNat < 4294967296 := x.toUInt32.toBitVec.isLt
    have h2 := Nat.mod_le (x.toUInt32.toNat / 65536) n
    omega
theorem fg_ush (x : Int32) : (x.toUInt32 >>> ((nI 16).toUInt32 &&& Int32.toUInt32 31)).toInt32 = nI (x.toUInt32.toNat / 65536) := by
  apply nI_inj32
  rw [nI_bv]
  apply BitVec.eq_of_toNat_eq
  have h1 : ((x.toUInt32 >>> ((nI 16).toUInt32 &&& Int32.toUInt32 31)).toInt32).toBitVec.toNat = (x.toUInt32 >>> ((nI 16).toUInt32 &&& Int32.toUInt32 31)).toNat := rfl
  rw [h1, UInt32.toNat_shiftRight]
  have h2 : (((nI 16).toUInt32 &&& Int32.toUInt32 31).toNat) % 32 = 16 := by decide
  rw [h2, Nat.shiftRight_eq_div_pow, BitVec.toNat_ofNat]
  have h3 : x.toUInt32.toNat < 4294967296 := x.toUInt32.toBitVec.isLt
  rw [Nat.mod_eq_of_lt]
  show x.toUInt32.toNat / 65536 < _
  omega
theorem nI_div {a b : Nat} (ha : a < 2 ^ 31) (hb : b < 2 ^ 31) : nI a / nI b = nI (a / b) := by
  apply nI_inj32
  rw [Int32.toBitVec_div, nI_bv, nI_bv, nI_bv]
  have m1 : (BitVec.ofNat 32 a).msb = false := by rw [BitVec.msb_eq_decide, BitVec.toNat_ofNat]; simp; omega
  have m2 : (BitVec.ofNat 32 b).msb = false := by rw [BitVec.msb_eq_decide, BitVec.toNat_ofNat]; simp; omega
  rw [BitVec.sdiv_eq, m1, m2]
  apply BitVec.eq_of_toNat_eq
  show ((BitVec.ofNat 32 a) / (BitVec.ofNat 32 b)).toNat = _
  rw [BitVec.toNat_udiv, BitVec.toNat_ofNat, BitVec.toNat_ofNat, BitVec.toNat_ofNat, Nat.mod_eq_of_lt (by omega), Nat.mod_eq_of_lt (by omega), Nat.mod_eq_of_lt]
  have := Nat.div_le_self a b
  omega
theorem nI_rem {a b : Nat} (ha : a < 2 ^ 31) (hb : b < 2 ^ 31) : nI a - nI a / nI b * nI b = nI (a % b) := by
  have h1 := Nat.div_add_mod a b
  have h2 : nI (a / b) * nI b = nI (a / b * b) := by
    apply nI_inj32
    rw [Int32.toBitVec_mul, nI_bv, nI_bv, nI_bv, ← BitVec.ofNat_mul]
  rw [nI_div ha hb, h2, nI_sub (Nat.div_mul_le_self a b)]
  congr 1
  rw [Nat.mul_comm] at h1
  omega
theorem ev_Folk_draw {E : fg_E} {d : Nat} {μ : Nat → Nat → Int32} {R : fg_T4} {Q : Option Value → fg_M → Prop} {x : Int32} (hQ : Q (some (.int (fg_dr x))) (μ, fg_rho R, 304)) : fg_Ev E yy_Folk_draw (d + 1) [.int x] (μ, fg_rho R, 304) 304 Q := by
  refine fg_intro (by decide +kernel) (Nat.le_of_ble_eq_true rfl) (fg_okAs rfl) (Nat.le_refl _) ?_
  refine fg_iloadn (fg_ft (pc := 0) tb_Folk_draw 0 rfl) rfl ?_
  refine fg_ldc (fg_ft (pc := 1) tb_Folk_draw 1 rfl) fd_Folk_178 ?_
  refine fg_imul (fg_ft (pc := 3) tb_Folk_draw 2 rfl) ?_
  refine fg_sipush (fg_ft (pc := 4) tb_Folk_draw 3 rfl) is_12345 ?_
  refine fg_iadd (fg_ft (pc := 7) tb_Folk_draw 4 rfl) ?_
  exact fg_iret (fg_ft (pc := 8) tb_Folk_draw 5 rfl) rfl rfl (hQ)
theorem nI_inj0 {n : Nat} (h : n < 2 ^ 31) (he : nI n = 0) : n = 0 := by
  have h1 : (nI n).toBitVec = (0 : Int32).toBitVec := by rw [he]
  have h2 : ((nI n).toBitVec).toNat = 0 := by rw [h1]; decide
  rw [nI_bv, BitVec.toNat_ofNat] at h2
  omega
theorem ev_Folk_below {E : fg_E} {d : Nat} {μ : Nat → Nat → Int32} {R : fg_T4} {Q : Option Value → fg_M → Prop} {x : Int32} {n : Nat} (hn31 : n < 2 ^ 31) (hQ : Q (some (.int (nI (fg_bl x n)))) (μ, fg_rho R, 304)) : fg_Ev E yy_Folk_below (d + 1) [.int x, .int (nI n)] (μ, fg_rho R, 304) 304 Q := by
  refine fg_intro (by decide +kernel) (Nat.le_of_ble_eq_true rfl) (fg_okAs rfl) (Nat.le_refl _) ?_
  refine fg_iloadn (fg_ft (pc := 0) tb_Folk_below 0 rfl) rfl ?_
  refine fg_if_gtN (tgt := 8) (fg_ft (pc := 1) tb_Folk_below 1 rfl) (by decide) (hn31) (fun c1 => ?_) (fun c1 => ?_)
  · refine fg_iloadn (fg_ft (pc := 8) tb_Folk_below 4 rfl) rfl ?_
    refine fg_bipush (fg_ft (pc := 9) tb_Folk_below 5 rfl) ib_16 ?_
    refine fg_iushr (fg_ft (pc := 11) tb_Folk_below 6 rfl) ?_
    refine fg_iloadn (fg_ft (pc := 12) tb_Folk_below 7 rfl) rfl ?_
    refine fg_irem (fg_ft (pc := 13) tb_Folk_below 8 rfl) (fun h => absurd (nI_inj0 hn31 h) (by omega)) ?_
    exact fg_iret (fg_ft (pc := 14) tb_Folk_below 9 rfl) rfl rfl (by rw [show fg_bl x n = _ from if_neg (by omega)] at hQ; rw [fg_ush, nI_rem (by have h3 : x.toUInt32.toNat < 4294967296 := x.toUInt32.toBitVec.isLt; omega) hn31]; exact hQ)
  · refine fg_iconst (fg_ft (pc := 4) tb_Folk_below 2 rfl) ic_0 ?_
    refine fg_goto (tgt := 14) (fg_ft (pc := 5) tb_Folk_below 3 rfl) (by decide) ?_
    exact fg_iret (fg_ft (pc := 14) tb_Folk_below 9 rfl) rfl rfl (by rw [show fg_bl x n = 0 from if_pos c1] at hQ; exact hQ)
def fg_fa (m : Nat) : Nat → Nat → Nat → Option Nat
  | 0, _, _ => none
  | n + 1, k, left => if m.testBit k = true then (if left = 0 then some k else fg_fa m n (k + 1) (left - 1)) else fg_fa m n (k + 1) left
theorem fg_fa_none {m : Nat} : ∀ n k left, fg_fa m n k left = none → fg_pcw (k + n) m ≤ fg_pcw k m + left := by
  intro n
  induction n with
  | zero => intro k left _; exact Nat.le_add_right _ _
  | succ n ih =>
    intro k left h
    simp only [fg_fa] at h
    have e1 : fg_pcw (k + 1) m = fg_pcw k m + (m.testBit k).toNat := rfl
    rw [show k + (n + 1) = (k + 1) + n by omega]
    by_cases hb : m.testBit k = true
    · rw [if_pos hb] at h
      rw [hb] at e1
      by_cases h0 : left = 0
      · rw [if_pos h0] at h; cases h
      · rw [if_neg h0] at h
        have := ih _ _ h
        simp at e1
        omega
    · rw [if_neg hb] at h
      have := ih _ _ h
      have e2 : m.testBit k = false := by cases hx : m.testBit k with | true => exact absurd hx hb | false => rfl
      rw [e2] at e1
      simp at e1
      omega
theorem fg_fa_lt {m : Nat} : ∀ n k left r, fg_fa m n k left = some r → r < k + n ∧ m.testBit r = true := by
  intro n
  induction n with
  | zero => intro k left r h; cases h
  | succ n ih =>
    intro k left r h
    simp only [fg_fa] at h
    by_cases hb : m.testBit k = true
    · rw [if_pos hb] at h
      by_cases h0 : left = 0
      · rw [if_pos h0] at h; cases h; exact ⟨by omega, hb⟩
      · rw [if_neg h0] at h
        have := ih _ _ _ h
        exact ⟨by omega, this.2⟩
    · rw [if_neg hb] at h
      have := ih _ _ _ h
      exact ⟨by omega, this.2⟩
theorem fg_fa_some {m at' : Nat} (hm : m < 1024) (h : at' < fg_pc m) : ∃ r, fg_fa m 10 0 at' = some r := by
  cases hr : fg_fa m 10 0 at' with
  | some r => exact ⟨r, rfl⟩
  | none =>
    have h1 := fg_fa_none 10 0 at' hr
    have h2 : fg_pc m = fg_pcw 10 m := fg_pcw_lt 12 10 m hm (by decide)
    have h3 : fg_pcw 0 m = 0 := rfl
    rw [h3] at h1
    simp at h1
    omega
theorem ev_Folk_factAt {E : fg_E} {d : Nat} {μ : Nat → Nat → Int32} {R : fg_T4} {Q : Option Value → fg_M → Prop} {m at' r : Nat} (hm31 : m < 2 ^ 31) (ha31 : at' < 2 ^ 31) (hr : fg_fa m 10 0 at' = some r) (hQ : Q (some (.int (nI r))) (μ, fg_rho R, 304)) : fg_Ev E yy_Folk_factAt (d + 2) [.int (nI m), .int (nI at')] (μ, fg_rho R, 304) 304 Q := by
  have loop : ∀ (n k left : Nat), k + n = 10 → left < 2 ^ 31 → fg_fa m n k left = some r → True → fg_wp E yy_Folk_factAt (d + 2) 304 304 Q 4 [.int (nI m), .int (nI at'), .int (nI left), .int (nI k)] [] (μ, fg_rho R, 304) := by
    intro n
    induction n with
    | zero => intro k left _ _ h; cases h
    | succ n ih =>
      intro k left hk hl hr _
      refine fg_iloadn (fg_ft (pc := 4) tb_Folk_factAt 4 rfl) rfl ?_
      refine fg_bipush (fg_ft (pc := 5) tb_Folk_factAt 5 rfl) ib_10 ?_
      refine fg_icmp_geN (tgt := 33) (fg_ft (pc := 7) tb_Folk_factAt 6 rfl) (by decide) (by omega) (by decide) (fun c7 => (absurd c7 (by omega))) (fun c7 => ?_)
      refine fg_iloadn (fg_ft (pc := 10) tb_Folk_factAt 7 rfl) rfl ?_
      refine fg_iloadn (fg_ft (pc := 11) tb_Folk_factAt 8 rfl) rfl ?_
      refine fg_callSN (fg_ft (pc := 12) tb_Folk_factAt 9 rfl) cf_Folk_90 (as := [.int (nI m), .int (nI k)]) (st := []) rfl rfl (Nat.le_of_ble_eq_true rfl) (Nat.le_refl _) (Nat.le_refl _) (ev_Fb_isIn (s := m) (k := k) (by omega) (by omega) ?_)
      refine fg_ifB_eq (tgt := 27) (fg_ft (pc := 15) tb_Folk_factAt 10 rfl) (by decide) (fun c15 => ?_) (fun c15 => ?_)
      · refine fg_iincN (fg_ft (pc := 27) tb_Folk_factAt 16 rfl) rfl ic_1 rfl ?_
        refine fg_goto (tgt := 4) (fg_ft (pc := 30) tb_Folk_factAt 17 rfl) (by decide) ?_
        exact ih (k + 1) _ (by omega) (by omega) (by rw [fg_fa] at hr; first | (rw [if_pos c15, if_neg c19] at hr; exact hr) | (rw [if_neg c15] at hr; exact hr)) trivial
      · refine fg_iloadn (fg_ft (pc := 18) tb_Folk_factAt 11 rfl) rfl ?_
        refine fg_if_neN (tgt := 24) (fg_ft (pc := 19) tb_Folk_factAt 12 rfl) (by decide) (by omega) (fun c19 => ?_) (fun c19 => ?_)
        · refine fg_iinc (fg_ft (pc := 24) tb_Folk_factAt 15 rfl) rfl (v := nI (left - 1)) (fg_dec (by omega)) ?_
          refine fg_iincN (fg_ft (pc := 27) tb_Folk_factAt 16 rfl) rfl ic_1 rfl ?_
          refine fg_goto (tgt := 4) (fg_ft (pc := 30) tb_Folk_factAt 17 rfl) (by decide) ?_
          exact ih (k + 1) _ (by omega) (by omega) (by rw [fg_fa] at hr; first | (rw [if_pos c15, if_neg c19] at hr; exact hr) | (rw [if_neg c15] at hr; exact hr)) trivial
        · refine fg_iloadn (fg_ft (pc := 22) tb_Folk_factAt 13 rfl) rfl ?_
          exact fg_iret (fg_ft (pc := 23) tb_Folk_factAt 14 rfl) rfl rfl (by rw [fg_fa, if_pos c15, if_pos c19] at hr; cases hr; exact hQ)
  refine fg_intro (by decide +kernel) (Nat.le_of_ble_eq_true rfl) (fg_okAs rfl) (Nat.le_refl _) ?_
  refine fg_iloadn (fg_ft (pc := 0) tb_Folk_factAt 0 rfl) rfl ?_
  refine fg_istoren (fg_ft (pc := 1) tb_Folk_factAt 1 rfl) (Nat.le_of_ble_eq_true rfl) ?_
  refine fg_iconst (fg_ft (pc := 2) tb_Folk_factAt 2 rfl) ic_0 ?_
  refine fg_istoren (fg_ft (pc := 3) tb_Folk_factAt 3 rfl) (Nat.le_of_ble_eq_true rfl) ?_
  exact loop 10 0 at' rfl ha31 hr trivial
