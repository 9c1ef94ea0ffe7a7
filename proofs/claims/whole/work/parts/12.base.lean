
noncomputable def fg_bI (p : Prop) : Int32 := @ite _ p (Classical.propDecidable p) (nI 1) (nI 0)
theorem fg_bT {p : Prop} (h : p) : fg_bI p = nI 1 := @if_pos _ (Classical.propDecidable p) h _ _ _
theorem fg_bF {p : Prop} (h : ¬ p) : fg_bI p = nI 0 := @if_neg _ (Classical.propDecidable p) h _ _ _
theorem fg_bN (p : Prop) : narrow .boolean (.int (fg_bI p)) = .int (fg_bI p) := by
  rcases Classical.em p with h | h
  · rw [fg_bT h]; decide
  · rw [fg_bF h]; decide
theorem fg_bc {p q : Prop} (h : p ↔ q) : fg_bI p = fg_bI q := by rw [propext h]
def fg_cp1 (μ : Nat → Nat → Int32) (a0 a1 k : Nat) : Nat → Nat → Int32 := fun b j => if b = a1 then (if j < k then μ a0 j else μ a1 j) else μ b j
section FGB
variable {E : fg_E} {Y : fg_Y} {d n0 n1 : Nat} {Q : Option Value → fg_M → Prop} {pc : Nat} {L st : List Value} {M : fg_M}
theorem fg_ifB_eq {p : Prop} {off : Int} {tgt : Nat} (hd : decode Y.2.1 pc = .ok (.ifCond .eq off, 3)) (ht : (pc : Int) + off = (tgt : Int)) (kt : ¬ p → fg_wp E Y d n0 n1 Q tgt L st M) (kf : p → fg_wp E Y d n0 n1 Q (pc + 3) L st M) : fg_wp E Y d n0 n1 Q pc L (.int (fg_bI p) :: st) M := by
  rcases Classical.em p with h | h
  · rw [fg_bT h]
    exact fg_if_eqN hd ht (by decide) (fun z => absurd z (by decide)) (fun _ => kf h)
  · rw [fg_bF h]
    exact fg_if_eqN hd ht (by decide) (fun _ => kt h) (fun z => absurd rfl z)
theorem fg_ifB_ne {p : Prop} {off : Int} {tgt : Nat} (hd : decode Y.2.1 pc = .ok (.ifCond .ne off, 3)) (ht : (pc : Int) + off = (tgt : Int)) (kt : p → fg_wp E Y d n0 n1 Q tgt L st M) (kf : ¬ p → fg_wp E Y d n0 n1 Q (pc + 3) L st M) : fg_wp E Y d n0 n1 Q pc L (.int (fg_bI p) :: st) M := by
  rcases Classical.em p with h | h
  · rw [fg_bT h]
    exact fg_if_neN hd ht (by decide) (fun _ => kt h) (fun z => absurd z (by decide))
  · rw [fg_bF h]
    exact fg_if_neN hd ht (by decide) (fun z => absurd rfl z) (fun _ => kf h)
end FGB
/-- a whole number is below 0, or a natural -/
theorem fg_io (x : Int32) : x < 0 ∨ ∃ k : Nat, k < 2 ^ 31 ∧ x = nI k := by
  rcases Classical.em (x < 0) with h | h
  · exact Or.inl h
  · exact Or.inr (nI_of h)
theorem fg_ltI {x y : Int32} : x < y ↔ x.toInt < y.toInt := Int32.lt_iff_toInt_lt
theorem fg_leI {x y : Int32} : x ≤ y ↔ x.toInt ≤ y.toInt := Int32.le_iff_toInt_le
theorem fg_t0 : (0 : Int32).toInt = 0 := rfl
theorem fg_tI {n : Nat} (h : n < 2 ^ 31) : (nI n).toInt = (n : Int) := nI_toInt h
def fg_rows (R : fg_T4) (r c n : Nat) : Prop := fg_lay r = (2, 3) ∧ fg_rho R r 1 = some c ∧ fg_lay c = (10, n)

theorem ev_Fb_isIn {E : fg_E} {d s k : Nat} {M : fg_M} {Q : Option Value → fg_M → Prop} (hs : s < 2 ^ 31) (hk : k < 2 ^ 31) (hQ : Q (some (.int (fg_bI (s.testBit k = true)))) M) : fg_Ev E yy_Fb_isIn (d + 1) [.int (nI s), .int (nI k)] M M.2.2 Q := by
  have hb : 31 ≤ k → s.testBit k = false := fun h => Nat.testBit_lt_two_pow (Nat.lt_of_lt_of_le hs (Nat.pow_le_pow_right (by decide) h))
  refine fg_intro (by decide +kernel) (Nat.le_of_ble_eq_true rfl) (fg_okAs rfl) (Nat.le_refl _) ?_
  refine fg_iloadn (fg_ft (pc := 0) tb_Fb_isIn 0 rfl) rfl ?_
  refine fg_if_ltN (tgt := 22) (fg_ft (pc := 1) tb_Fb_isIn 1 rfl) (by decide) (by omega) ?_
  refine fg_iloadn (fg_ft (pc := 4) tb_Fb_isIn 2 rfl) rfl ?_
  refine fg_bipush (fg_ft (pc := 5) tb_Fb_isIn 3 rfl) ib_31 ?_
  refine fg_icmp_geN (tgt := 22) (fg_ft (pc := 7) tb_Fb_isIn 4 rfl) (by decide) (by omega) (by decide) (fun c7 => ?_) (fun c7 => ?_)
  · refine fg_iconst (fg_ft (pc := 22) tb_Fb_isIn 13 rfl) ic_0 ?_
    exact fg_zret (fg_ft (pc := 23) tb_Fb_isIn 14 rfl) rfl (by decide) rfl (by rw [fg_bF (by first | (intro hh; simp_all; done) | (intro hh; rw [hb (by omega)] at hh; cases hh))] at hQ; exact hQ)
  · refine fg_iloadn (fg_ft (pc := 10) tb_Fb_isIn 5 rfl) rfl ?_
    refine fg_iloadn (fg_ft (pc := 11) tb_Fb_isIn 6 rfl) rfl ?_
    refine fg_ishrN (fg_ft (pc := 12) tb_Fb_isIn 7 rfl) (by omega) (by omega) ?_
    refine fg_iconst (fg_ft (pc := 13) tb_Fb_isIn 8 rfl) ic_1 ?_
    refine fg_iandN (fg_ft (pc := 14) tb_Fb_isIn 9 rfl) ?_
    refine fg_ifbit_eq (tgt := 22) (fg_ft (pc := 15) tb_Fb_isIn 10 rfl) (by decide) (fun c15 => ?_) (fun c15 => ?_)
    · refine fg_iconst (fg_ft (pc := 22) tb_Fb_isIn 13 rfl) ic_0 ?_
      exact fg_zret (fg_ft (pc := 23) tb_Fb_isIn 14 rfl) rfl (by decide) rfl (by rw [fg_bF (by first | (intro hh; simp_all; done) | (intro hh; rw [hb (by omega)] at hh; cases hh))] at hQ; exact hQ)
    · refine fg_iconst (fg_ft (pc := 18) tb_Fb_isIn 11 rfl) ic_1 ?_
      refine fg_goto (tgt := 23) (fg_ft (pc := 19) tb_Fb_isIn 12 rfl) (by decide) ?_
      exact fg_zret (fg_ft (pc := 23) tb_Fb_isIn 14 rfl) rfl (by decide) rfl (by rw [fg_bT (by assumption)] at hQ; exact hQ)
theorem ev_Fb_isInNeg {E : fg_E} {d s : Nat} {x : Int32} {M : fg_M} {Q : Option Value → fg_M → Prop} (hx : x < 0) (hQ : Q (some (.int (nI 0))) M) : fg_Ev E yy_Fb_isIn (d + 1) [.int (nI s), .int x] M M.2.2 Q := by
  refine fg_intro (by decide +kernel) (Nat.le_of_ble_eq_true rfl) (fg_okAs rfl) (Nat.le_refl _) ?_
  refine fg_iloadn (fg_ft (pc := 0) tb_Fb_isIn 0 rfl) rfl ?_
  refine fg_if_lt (tgt := 22) (fg_ft (pc := 1) tb_Fb_isIn 1 rfl) (by decide) (fun c1 => ?_) (fun c1 => (absurd hx c1))
  refine fg_iconst (fg_ft (pc := 22) tb_Fb_isIn 13 rfl) ic_0 ?_
  exact fg_zret (fg_ft (pc := 23) tb_Fb_isIn 14 rfl) rfl (by decide) rfl (hQ)
