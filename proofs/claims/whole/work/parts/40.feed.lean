/-- a byte of a number -/
def fg_byt (x : Int32) (s : Nat) : Int32 := vp_nar .byte ((x >>> (nI s &&& 31)).toInt8.toInt32)
def fg_fe (f : Nat → Int32) (n : Nat) (x : Int32) : Nat → (Nat → Int32)
  | 0 => f
  | k + 1 => fun j => if j = n + k then fg_byt x (24 - 8 * k) else fg_fe f n x k j
theorem ev_Told_feedNumber {E : fg_E} {d : Nat} {μ : Nat → Nat → Int32} {R : fg_T4} {Q : Option Value → fg_M → Prop} {len : Nat} {x : Int32} (hlen : μ 101 1 = nI len) (hle : len + 4 ≤ 600) (hQ : ∀ μ' : Nat → Nat → Int32, (∀ a j, a ≠ 101 → a ≠ 102 → μ' a j = μ a j) → μ' 101 1 = nI (len + 4) → (∀ j, j ≠ 1 → μ' 101 j = μ 101 j) → (∀ j, μ' 102 j = fg_fe (μ 102) len x 4 j) → Q none (μ', fg_rho R, 304)) : fg_Ev E yy_Told_feedNumber (d + 1) [.ref 101, .int x] (μ, fg_rho R, 304) 304 Q := by
  have loop : ∀ (m k : Nat) (ν : Nat → Nat → Int32), 4 - k < m → k ≤ 3 → (∀ a j, a ≠ 101 → a ≠ 102 → ν a j = μ a j) → ν 101 1 = nI (len + k) → (∀ j, j ≠ 1 → ν 101 j = μ 101 j) → (∀ j, ν 102 j = fg_fe (μ 102) len x k j) → fg_wp E yy_Told_feedNumber (d + 1) 304 304 Q 3 [.ref 101, .int x, .int (nI (24 - 8 * k))] [] (ν, fg_rho R, 304) := by
    intro m
    induction m with
    | zero => intro k ν h; exact absurd h (Nat.not_lt_zero _)
    | succ m ih =>
      intro k ν hm hk hf hl hs ht
      refine fg_iloadn (fg_ft (pc := 3) tb_Told_feedNumber 2 rfl) rfl ?_
      refine fg_if_ltN (tgt := 55) (fg_ft (pc := 4) tb_Told_feedNumber 3 rfl) (by decide) (by omega) ?_
      refine fg_aloadn (fg_ft (pc := 7) tb_Told_feedNumber 4 rfl) rfl ?_
      refine fg_getV (v := (nI (len + k))) (fg_ft (pc := 8) tb_Told_feedNumber 5 rfl) ff_Told_35 ly_101 rfl (fg_lt ly_101 (by decide)) hl ?_
      refine fg_if_ltN (tgt := 55) (fg_ft (pc := 11) tb_Told_feedNumber 6 rfl) (by decide) (by omega) ?_
      refine fg_aloadn (fg_ft (pc := 14) tb_Told_feedNumber 7 rfl) rfl ?_
      refine fg_getV (v := (nI (len + k))) (fg_ft (pc := 15) tb_Told_feedNumber 8 rfl) ff_Told_35 ly_101 rfl (fg_lt ly_101 (by decide)) hl ?_
      refine fg_aloadn (fg_ft (pc := 18) tb_Told_feedNumber 9 rfl) rfl ?_
      refine fg_getR (fg_ft (pc := 19) tb_Told_feedNumber 10 rfl) ff_Told_9 ly_101 rfl (fg_lt ly_101 (by decide)) (rh_101_0 R) ?_
      refine fg_alen (fg_ft (pc := 22) tb_Told_feedNumber 11 rfl) ly_102 (by decide) (fg_lt ly_102 (by decide)) ?_
      refine fg_icmp_geN (tgt := 55) (fg_ft (pc := 23) tb_Told_feedNumber 12 rfl) (by decide) (by omega) (by decide) (fun c23 => (absurd c23 (by omega))) (fun c23 => ?_)
      refine fg_aloadn (fg_ft (pc := 26) tb_Told_feedNumber 13 rfl) rfl ?_
      refine fg_getR (fg_ft (pc := 27) tb_Told_feedNumber 14 rfl) ff_Told_9 ly_101 rfl (fg_lt ly_101 (by decide)) (rh_101_0 R) ?_
      refine fg_aloadn (fg_ft (pc := 30) tb_Told_feedNumber 15 rfl) rfl ?_
      refine fg_getV (v := (nI (len + k))) (fg_ft (pc := 31) tb_Told_feedNumber 16 rfl) ff_Told_35 ly_101 rfl (fg_lt ly_101 (by decide)) hl ?_
      refine fg_iloadn (fg_ft (pc := 34) tb_Told_feedNumber 17 rfl) rfl ?_
      refine fg_iloadn (fg_ft (pc := 35) tb_Told_feedNumber 18 rfl) rfl ?_
      refine fg_ishr (fg_ft (pc := 36) tb_Told_feedNumber 19 rfl) ?_
      refine fg_i2b (fg_ft (pc := 37) tb_Told_feedNumber 20 rfl) ?_
      refine fg_bastN (fg_ft (pc := 38) tb_Told_feedNumber 21 rfl) ly_102 (fg_lt ly_102 (by decide)) (by omega) ?_
      show fg_wp _ _ _ _ _ _ _ _ _ (fg_u2 ν 102 (len + k) (vp_nar .byte (((x >>> ((nI (24 - 8 * k)) &&& 31))).toInt8.toInt32)), fg_rho R, 304)
      refine fg_aloadn (fg_ft (pc := 39) tb_Told_feedNumber 22 rfl) rfl ?_
      refine fg_dup (fg_ft (pc := 40) tb_Told_feedNumber 23 rfl) rfl ?_
      refine fg_getV (v := (nI (len + k))) (fg_ft (pc := 41) tb_Told_feedNumber 24 rfl) ff_Told_35 ly_101 rfl (fg_lt ly_101 (by decide)) ((fg_u2ne (f := ν) (a := 102) (k := len + k) (b := 101) (j := 1) (x := (vp_nar .byte (((x >>> ((nI (24 - 8 * k)) &&& 31))).toInt8.toInt32))) (by decide)).trans hl) ?_
      refine fg_iconst (fg_ft (pc := 44) tb_Told_feedNumber 25 rfl) ic_1 ?_
      refine fg_iaddN (fg_ft (pc := 45) tb_Told_feedNumber 26 rfl) ?_
      refine fg_putI (fg_ft (pc := 46) tb_Told_feedNumber 27 rfl) ff_Told_35 ly_101 rfl (fg_lt ly_101 (by decide)) (fg_nokI _) (fun _ _ h => by cases h; rfl) ?_
      show fg_wp _ _ _ _ _ _ _ _ _ (fg_u2 (fg_u2 ν 102 (len + k) (vp_nar .byte (((x >>> ((nI (24 - 8 * k)) &&& 31))).toInt8.toInt32))) 101 1 (nI ((len + k) + 1)), fg_rho R, 304)
      refine fg_iinc (fg_ft (pc := 49) tb_Told_feedNumber 28 rfl) rfl rfl ?_
      refine fg_goto (tgt := 3) (fg_ft (pc := 52) tb_Told_feedNumber 29 rfl) (by decide) ?_
      have hf2 : ∀ a j, a ≠ 101 → a ≠ 102 → (fg_u2 (fg_u2 ν 102 (len + k) (vp_nar .byte (((x >>> ((nI (24 - 8 * k)) &&& 31))).toInt8.toInt32))) 101 1 (nI ((len + k) + 1))) a j = μ a j := fun a j h1 h2 => (fg_u2ne h1).trans ((fg_u2ne h2).trans (hf a j h1 h2))
      have hl2 : (fg_u2 (fg_u2 ν 102 (len + k) (vp_nar .byte (((x >>> ((nI (24 - 8 * k)) &&& 31))).toInt8.toInt32))) 101 1 (nI ((len + k) + 1))) 101 1 = nI (len + (k + 1)) := fg_u2eq
      have hs2 : ∀ j, j ≠ 1 → (fg_u2 (fg_u2 ν 102 (len + k) (vp_nar .byte (((x >>> ((nI (24 - 8 * k)) &&& 31))).toInt8.toInt32))) 101 1 (nI ((len + k) + 1))) 101 j = μ 101 j := fun j hj => (fg_u2ns hj).trans ((fg_u2nx (Or.inl (by decide))).trans (hs j hj))
      have ht2 : ∀ j, (fg_u2 (fg_u2 ν 102 (len + k) (vp_nar .byte (((x >>> ((nI (24 - 8 * k)) &&& 31))).toInt8.toInt32))) 101 1 (nI ((len + k) + 1))) 102 j = fg_fe (μ 102) len x (k + 1) j := fun j => by
        rw [fg_u2nx (a := 101) (b := 102) (Or.inl (by decide))]
        show _ = (if j = len + k then fg_byt x (24 - 8 * k) else fg_fe (μ 102) len x k j)
        by_cases ej : j = len + k
        · rw [if_pos ej, ej, fg_u2eq]; rfl
        · rw [if_neg ej, fg_u2ns ej]; exact ht j
      rcases Nat.lt_or_ge k 3 with g | g
      · rw [show nI (24 - 8 * k) + Int32.ofInt (-8) = nI (24 - 8 * (k + 1)) from by rcases (show k = 0 ∨ k = 1 ∨ k = 2 by omega) with rfl | rfl | rfl <;> decide]
        exact ih (k + 1) _ (by omega) (by omega) hf2 hl2 hs2 ht2
      · obtain rfl : k = 3 := by omega
        refine fg_iloadn (fg_ft (pc := 3) tb_Told_feedNumber 2 rfl) rfl ?_
        refine fg_if_lt (tgt := 55) (fg_ft (pc := 4) tb_Told_feedNumber 3 rfl) (by decide) (fun c4 => ?_) (fun c4 => (absurd (by decide) c4))
        exact fg_vret (fg_ft (pc := 55) tb_Told_feedNumber 30 rfl) rfl rfl (hQ _ hf2 hl2 hs2 ht2)
  refine fg_intro (by decide +kernel) (Nat.le_of_ble_eq_true rfl) (fg_okAs rfl) (Nat.le_refl _) ?_
  refine fg_bipush (fg_ft (pc := 0) tb_Told_feedNumber 0 rfl) ib_24 ?_
  refine fg_istoren (fg_ft (pc := 2) tb_Told_feedNumber 1 rfl) (Nat.le_of_ble_eq_true rfl) ?_
  exact loop 5 0 μ (by omega) (by omega) (fun _ _ _ _ => rfl) hlen (fun _ _ => rfl) (fun _ => rfl)
