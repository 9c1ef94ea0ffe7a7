/-! images in the reference -/
def fg_imF (m : Nat → Int32) (b j : Nat) : Nat → Int32 := fun x => if b ≤ x ∧ x < b + j then m (x - b) else m x
def fg_baF (m : Nat → Int32) (b j : Nat) : Nat → Int32 := fun x => if x < j then m (b + x) else m x
theorem fg_imF_s {m : Nat → Int32} {b j x : Nat} : (if x = b + j then m j else fg_imF m b j x) = fg_imF m b (j + 1) x := by
  unfold fg_imF
  rcases Nat.decEq x (b + j) with e | e
  · rw [if_neg e]
    by_cases c : b ≤ x ∧ x < b + j
    · rw [if_pos c, if_pos ⟨c.1, by omega⟩]
    · rw [if_neg c, if_neg (fun h => c ⟨h.1, by omega⟩)]
  · subst e
    rw [if_pos rfl, if_pos ⟨by omega, by omega⟩, show b + j - b = j by omega]
theorem fg_baF_s {m : Nat → Int32} {b j x : Nat} : (if x = j then m (b + j) else fg_baF m b j x) = fg_baF m b (j + 1) x := by
  unfold fg_baF
  rcases Nat.decEq x j with e | e
  · rw [if_neg e]
    by_cases c : x < j
    · rw [if_pos c, if_pos (by omega)]
    · rw [if_neg c, if_neg (by omega)]
  · subst e
    rw [if_pos rfl, if_pos (by omega)]
theorem fg_u2if {μ : Nat → Nat → Int32} {a k : Nat} {v : Int32} {x : Nat} : fg_u2 μ a k v a x = if x = k then v else μ a x := by
  rcases Nat.decEq x k with e | e
  · rw [if_neg e]; exact fg_u2ns e
  · rw [if_pos e, e]; exact fg_u2eq
theorem ev_Mo_image0 {E : fg_E} {d : Nat} {μ : Nat → Nat → Int32} {R : fg_T4} {Q : Option Value → fg_M → Prop} {i : Nat} (hi : i < 2 ^ 32) (h3 : 3 ≤ i) (hQ : Q (some (.int (nI 0))) (μ, fg_rho R, 304)) : fg_Ev E yy_Mo_image (d + 2) [.ref 287, .int (nI i)] (μ, fg_rho R, 304) 304 Q := by
  refine fg_intro (by decide +kernel) (Nat.le_of_ble_eq_true rfl) (fg_okAs rfl) (Nat.le_refl _) ?_
  refine fg_iloadn (fg_ft (pc := 0) tb_Mo_image 0 rfl) rfl ?_
  refine fg_iconst (fg_ft (pc := 1) tb_Mo_image 1 rfl) ic_0 ?_
  refine fg_iconst (fg_ft (pc := 2) tb_Mo_image 2 rfl) ic_2 ?_
  refine fg_callS (fg_ft (pc := 3) tb_Mo_image 3 rfl) cf_Mo_110 (as := [.int (nI i), .int (nI 0), .int (nI 2)]) (st := []) rfl rfl (Nat.le_of_ble_eq_true rfl) (Nat.le_refl _) (Nat.le_refl _) (ev_Mo_isInC (k := i) (a := 0) (b := 2) (hi) (by omega) (by omega) ?_)
  refine fg_ifB_ne (tgt := 11) (fg_ft (pc := 6) tb_Mo_image 4 rfl) (by decide) (fun c6 => (absurd c6 (by omega))) (fun c6 => ?_)
  refine fg_iconst (fg_ft (pc := 9) tb_Mo_image 5 rfl) ic_0 ?_
  exact fg_zret (fg_ft (pc := 10) tb_Mo_image 6 rfl) rfl (by decide) rfl (hQ)
theorem ev_Mo_image1 {E : fg_E} {d : Nat} {μ : Nat → Nat → Int32} {R : fg_T4} {Q : Option Value → fg_M → Prop} {i : Nat} (hi : i < 3) (hQ : ∀ μ' : Nat → Nat → Int32, (∀ a, a ≠ 288 → ∀ x, μ' a x = fg_u2 μ 289 i (nI 1) a x) → (∀ x, μ' 288 x = fg_imF (μ 288) (1280 * (i + 1)) 1280 x) → Q (some (.int (nI 1))) (μ', fg_rho R, 304)) : fg_Ev E yy_Mo_image (d + 2) [.ref 287, .int (nI i)] (μ, fg_rho R, 304) 304 Q := by
  have loop : ∀ (q j : Nat) (ν : Nat → Nat → Int32), 1280 - j < q → j ≤ 1280 → (∀ a, a ≠ 288 → ∀ x, ν a x = fg_u2 μ 289 i (nI 1) a x) → (∀ x, ν 288 x = fg_imF (μ 288) (1280 * (i + 1)) j x) → fg_wp E yy_Mo_image (d + 2) 304 304 Q 20 [.ref 287, .int (nI i), .int (nI j)] [] (ν, fg_rho R, 304) := by
    intro q
    induction q with
    | zero => intro j ν h; exact absurd h (Nat.not_lt_zero _)
    | succ q ih =>
      intro j ν hq hj hag hm
      refine fg_iloadn (fg_ft (pc := 20) tb_Mo_image 14 rfl) rfl ?_
      refine fg_sipush (fg_ft (pc := 21) tb_Mo_image 15 rfl) is_1280 ?_
      refine fg_icmp_geN (tgt := 53) (fg_ft (pc := 24) tb_Mo_image 16 rfl) (by decide) (by omega) (by decide) (fun c24 => ?_) (fun c24 => ?_)
      · refine fg_iconst (fg_ft (pc := 53) tb_Mo_image 33 rfl) ic_1 ?_
        exact fg_zret (fg_ft (pc := 54) tb_Mo_image 34 rfl) rfl (by decide) rfl (by rw [show j = 1280 by omega] at hm; exact hQ ν hag hm)
      · refine fg_aloadn (fg_ft (pc := 27) tb_Mo_image 17 rfl) rfl ?_
        refine fg_getR (fg_ft (pc := 28) tb_Mo_image 18 rfl) ff_Mo_7 ly_287 rfl (fg_lt ly_287 (by decide)) (rh_287_0 R) ?_
        refine fg_sipush (fg_ft (pc := 31) tb_Mo_image 19 rfl) is_1280 ?_
        refine fg_iloadn (fg_ft (pc := 34) tb_Mo_image 20 rfl) rfl ?_
        refine fg_iconst (fg_ft (pc := 35) tb_Mo_image 21 rfl) ic_1 ?_
        refine fg_iaddN (fg_ft (pc := 36) tb_Mo_image 22 rfl) ?_
        refine fg_imulN (fg_ft (pc := 37) tb_Mo_image 23 rfl) ?_
        refine fg_iloadn (fg_ft (pc := 38) tb_Mo_image 24 rfl) rfl ?_
        refine fg_iaddN (fg_ft (pc := 39) tb_Mo_image 25 rfl) ?_
        refine fg_aloadn (fg_ft (pc := 40) tb_Mo_image 26 rfl) rfl ?_
        refine fg_getR (fg_ft (pc := 41) tb_Mo_image 27 rfl) ff_Mo_7 ly_287 rfl (fg_lt ly_287 (by decide)) (rh_287_0 R) ?_
        refine fg_iloadn (fg_ft (pc := 44) tb_Mo_image 28 rfl) rfl ?_
        refine fg_ialdV (v := (μ 288 j)) (fg_ft (pc := 45) tb_Mo_image 29 rfl) ly_288 (fg_lt ly_288 (by decide)) (by omega) ((hm j).trans (if_neg (fun hh => by have := hh.1; omega))) ?_
        refine fg_iastN (fg_ft (pc := 46) tb_Mo_image 30 rfl) ly_288 (fg_lt ly_288 (by decide)) (by omega) ?_
        show fg_wp _ _ _ _ _ _ _ _ _ (fg_u2 ν 288 ((1280 * (i + 1)) + j) (μ 288 j), fg_rho R, 304)
        refine fg_iincN (fg_ft (pc := 47) tb_Mo_image 31 rfl) rfl ic_1 rfl ?_
        refine fg_goto (tgt := 20) (fg_ft (pc := 50) tb_Mo_image 32 rfl) (by decide) ?_
        exact ih (j + 1) _ (by omega) (by omega) (fun a a1 x => (fg_u2ne a1).trans (hag a a1 x)) (fun x => fg_u2if.trans ((by rw [hm x] : _ = (if x = 1280 * (i + 1) + j then μ 288 j else fg_imF (μ 288) (1280 * (i + 1)) j x)).trans fg_imF_s))
  refine fg_intro (by decide +kernel) (Nat.le_of_ble_eq_true rfl) (fg_okAs rfl) (Nat.le_refl _) ?_
  refine fg_iloadn (fg_ft (pc := 0) tb_Mo_image 0 rfl) rfl ?_
  refine fg_iconst (fg_ft (pc := 1) tb_Mo_image 1 rfl) ic_0 ?_
  refine fg_iconst (fg_ft (pc := 2) tb_Mo_image 2 rfl) ic_2 ?_
  refine fg_callS (fg_ft (pc := 3) tb_Mo_image 3 rfl) cf_Mo_110 (as := [.int (nI i), .int (nI 0), .int (nI 2)]) (st := []) rfl rfl (Nat.le_of_ble_eq_true rfl) (Nat.le_refl _) (Nat.le_refl _) (ev_Mo_isInC (k := i) (a := 0) (b := 2) (by omega) (by omega) (by omega) ?_)
  refine fg_ifB_ne (tgt := 11) (fg_ft (pc := 6) tb_Mo_image 4 rfl) (by decide) (fun c6 => ?_) (fun c6 => (absurd ⟨by omega, by omega⟩ c6))
  refine fg_aloadn (fg_ft (pc := 11) tb_Mo_image 7 rfl) rfl ?_
  refine fg_getR (fg_ft (pc := 12) tb_Mo_image 8 rfl) ff_Mo_13 ly_287 rfl (fg_lt ly_287 (by decide)) (rh_287_1 R) ?_
  refine fg_iloadn (fg_ft (pc := 15) tb_Mo_image 9 rfl) rfl ?_
  refine fg_iconst (fg_ft (pc := 16) tb_Mo_image 10 rfl) ic_1 ?_
  refine fg_zastN (fg_ft (pc := 17) tb_Mo_image 11 rfl) ly_289 (fg_lt ly_289 (by decide)) (by omega) ?_
  show fg_wp _ _ _ _ _ _ _ _ _ (fg_u2 μ 289 i (vp_nar .boolean (nI 1)), fg_rho R, 304)
  refine fg_iconst (fg_ft (pc := 18) tb_Mo_image 12 rfl) ic_0 ?_
  refine fg_istoren (fg_ft (pc := 19) tb_Mo_image 13 rfl) (Nat.le_of_ble_eq_true rfl) ?_
  exact loop 1281 0 _ (by omega) (by omega) (fun _ _ _ => rfl) (fun x => (fg_u2ne (by decide)).trans (if_neg (fun hh => by omega)).symm)
theorem ev_Mo_back0 {E : fg_E} {d : Nat} {μ : Nat → Nat → Int32} {R : fg_T4} {Q : Option Value → fg_M → Prop} {i : Nat} (hi : i < 2 ^ 32) (h3 : 3 ≤ i ∨ μ 289 i = 0) (hQ : Q (some (.int (nI 0))) (μ, fg_rho R, 304)) : fg_Ev E yy_Mo_back (d + 2) [.ref 287, .int (nI i)] (μ, fg_rho R, 304) 304 Q := by
  refine fg_intro (by decide +kernel) (Nat.le_of_ble_eq_true rfl) (fg_okAs rfl) (Nat.le_refl _) ?_
  refine fg_iloadn (fg_ft (pc := 0) tb_Mo_back 0 rfl) rfl ?_
  refine fg_iconst (fg_ft (pc := 1) tb_Mo_back 1 rfl) ic_0 ?_
  refine fg_iconst (fg_ft (pc := 2) tb_Mo_back 2 rfl) ic_2 ?_
  refine fg_callS (fg_ft (pc := 3) tb_Mo_back 3 rfl) cf_Mo_110 (as := [.int (nI i), .int (nI 0), .int (nI 2)]) (st := []) rfl rfl (Nat.le_of_ble_eq_true rfl) (Nat.le_refl _) (Nat.le_refl _) (ev_Mo_isInC (k := i) (a := 0) (b := 2) (hi) (by omega) (by omega) ?_)
  refine fg_ifB_eq (tgt := 18) (fg_ft (pc := 6) tb_Mo_back 4 rfl) (by decide) (fun c6 => ?_) (fun c6 => ?_)
  · refine fg_iconst (fg_ft (pc := 18) tb_Mo_back 10 rfl) ic_0 ?_
    exact fg_zret (fg_ft (pc := 19) tb_Mo_back 11 rfl) rfl (by decide) rfl (hQ)
  · refine fg_aloadn (fg_ft (pc := 9) tb_Mo_back 5 rfl) rfl ?_
    refine fg_getR (fg_ft (pc := 10) tb_Mo_back 6 rfl) ff_Mo_13 ly_287 rfl (fg_lt ly_287 (by decide)) (rh_287_1 R) ?_
    refine fg_iloadn (fg_ft (pc := 13) tb_Mo_back 7 rfl) rfl ?_
    refine fg_zaldV (v := (μ 289 i)) (fg_ft (pc := 14) tb_Mo_back 8 rfl) ly_289 (fg_lt ly_289 (by decide)) (by omega) rfl ?_
    refine fg_if_ne (tgt := 20) (fg_ft (pc := 15) tb_Mo_back 9 rfl) (by decide) (fun c15 => (absurd (h3.resolve_left (by omega)) c15)) (fun c15 => ?_)
    refine fg_iconst (fg_ft (pc := 18) tb_Mo_back 10 rfl) ic_0 ?_
    exact fg_zret (fg_ft (pc := 19) tb_Mo_back 11 rfl) rfl (by decide) rfl (hQ)
theorem ev_Mo_back1 {E : fg_E} {d : Nat} {μ : Nat → Nat → Int32} {R : fg_T4} {Q : Option Value → fg_M → Prop} {i : Nat} (hi : i < 3) (h1 : ¬ μ 289 i = 0) (hQ : ∀ μ' : Nat → Nat → Int32, (∀ a, a ≠ 288 → ∀ x, μ' a x = μ a x) → (∀ x, μ' 288 x = fg_baF (μ 288) (1280 * (i + 1)) 1280 x) → Q (some (.int (nI 1))) (μ', fg_rho R, 304)) : fg_Ev E yy_Mo_back (d + 2) [.ref 287, .int (nI i)] (μ, fg_rho R, 304) 304 Q := by
  have loop : ∀ (q j : Nat) (ν : Nat → Nat → Int32), 1280 - j < q → j ≤ 1280 → (∀ a, a ≠ 288 → ∀ x, ν a x = μ a x) → (∀ x, ν 288 x = fg_baF (μ 288) (1280 * (i + 1)) j x) → fg_wp E yy_Mo_back (d + 2) 304 304 Q 22 [.ref 287, .int (nI i), .int (nI j)] [] (ν, fg_rho R, 304) := by
    intro q
    induction q with
    | zero => intro j ν h; exact absurd h (Nat.not_lt_zero _)
    | succ q ih =>
      intro j ν hq hj hag hm
      refine fg_iloadn (fg_ft (pc := 22) tb_Mo_back 14 rfl) rfl ?_
      refine fg_sipush (fg_ft (pc := 23) tb_Mo_back 15 rfl) is_1280 ?_
      refine fg_icmp_geN (tgt := 55) (fg_ft (pc := 26) tb_Mo_back 16 rfl) (by decide) (by omega) (by decide) (fun c26 => ?_) (fun c26 => ?_)
      · refine fg_iconst (fg_ft (pc := 55) tb_Mo_back 33 rfl) ic_1 ?_
        exact fg_zret (fg_ft (pc := 56) tb_Mo_back 34 rfl) rfl (by decide) rfl (by rw [show j = 1280 by omega] at hm; exact hQ ν hag hm)
      · refine fg_aloadn (fg_ft (pc := 29) tb_Mo_back 17 rfl) rfl ?_
        refine fg_getR (fg_ft (pc := 30) tb_Mo_back 18 rfl) ff_Mo_7 ly_287 rfl (fg_lt ly_287 (by decide)) (rh_287_0 R) ?_
        refine fg_iloadn (fg_ft (pc := 33) tb_Mo_back 19 rfl) rfl ?_
        refine fg_aloadn (fg_ft (pc := 34) tb_Mo_back 20 rfl) rfl ?_
        refine fg_getR (fg_ft (pc := 35) tb_Mo_back 21 rfl) ff_Mo_7 ly_287 rfl (fg_lt ly_287 (by decide)) (rh_287_0 R) ?_
        refine fg_sipush (fg_ft (pc := 38) tb_Mo_back 22 rfl) is_1280 ?_
        refine fg_iloadn (fg_ft (pc := 41) tb_Mo_back 23 rfl) rfl ?_
        refine fg_iconst (fg_ft (pc := 42) tb_Mo_back 24 rfl) ic_1 ?_
        refine fg_iaddN (fg_ft (pc := 43) tb_Mo_back 25 rfl) ?_
        refine fg_imulN (fg_ft (pc := 44) tb_Mo_back 26 rfl) ?_
        refine fg_iloadn (fg_ft (pc := 45) tb_Mo_back 27 rfl) rfl ?_
        refine fg_iaddN (fg_ft (pc := 46) tb_Mo_back 28 rfl) ?_
        refine fg_ialdV (v := (μ 288 (1280 * (i + 1) + j))) (fg_ft (pc := 47) tb_Mo_back 29 rfl) ly_288 (fg_lt ly_288 (by decide)) (by omega) ((hm (1280 * (i + 1) + j)).trans (if_neg (by omega))) ?_
        refine fg_iastN (fg_ft (pc := 48) tb_Mo_back 30 rfl) ly_288 (fg_lt ly_288 (by decide)) (by omega) ?_
        show fg_wp _ _ _ _ _ _ _ _ _ (fg_u2 ν 288 j (μ 288 (1280 * (i + 1) + j)), fg_rho R, 304)
        refine fg_iincN (fg_ft (pc := 49) tb_Mo_back 31 rfl) rfl ic_1 rfl ?_
        refine fg_goto (tgt := 22) (fg_ft (pc := 52) tb_Mo_back 32 rfl) (by decide) ?_
        exact ih (j + 1) _ (by omega) (by omega) (fun a a1 x => (fg_u2ne a1).trans (hag a a1 x)) (fun x => fg_u2if.trans ((by rw [hm x] : _ = (if x = j then μ 288 (1280 * (i + 1) + j) else fg_baF (μ 288) (1280 * (i + 1)) j x)).trans fg_baF_s))
  refine fg_intro (by decide +kernel) (Nat.le_of_ble_eq_true rfl) (fg_okAs rfl) (Nat.le_refl _) ?_
  refine fg_iloadn (fg_ft (pc := 0) tb_Mo_back 0 rfl) rfl ?_
  refine fg_iconst (fg_ft (pc := 1) tb_Mo_back 1 rfl) ic_0 ?_
  refine fg_iconst (fg_ft (pc := 2) tb_Mo_back 2 rfl) ic_2 ?_
  refine fg_callS (fg_ft (pc := 3) tb_Mo_back 3 rfl) cf_Mo_110 (as := [.int (nI i), .int (nI 0), .int (nI 2)]) (st := []) rfl rfl (Nat.le_of_ble_eq_true rfl) (Nat.le_refl _) (Nat.le_refl _) (ev_Mo_isInC (k := i) (a := 0) (b := 2) (by omega) (by omega) (by omega) ?_)
  refine fg_ifB_eq (tgt := 18) (fg_ft (pc := 6) tb_Mo_back 4 rfl) (by decide) (fun c6 => (absurd ⟨by omega, by omega⟩ c6)) (fun c6 => ?_)
  refine fg_aloadn (fg_ft (pc := 9) tb_Mo_back 5 rfl) rfl ?_
  refine fg_getR (fg_ft (pc := 10) tb_Mo_back 6 rfl) ff_Mo_13 ly_287 rfl (fg_lt ly_287 (by decide)) (rh_287_1 R) ?_
  refine fg_iloadn (fg_ft (pc := 13) tb_Mo_back 7 rfl) rfl ?_
  refine fg_zaldV (v := (μ 289 i)) (fg_ft (pc := 14) tb_Mo_back 8 rfl) ly_289 (fg_lt ly_289 (by decide)) (by omega) rfl ?_
  refine fg_if_ne (tgt := 20) (fg_ft (pc := 15) tb_Mo_back 9 rfl) (by decide) (fun c15 => ?_) (fun c15 => (absurd c15 h1))
  refine fg_iconst (fg_ft (pc := 20) tb_Mo_back 12 rfl) ic_0 ?_
  refine fg_istoren (fg_ft (pc := 21) tb_Mo_back 13 rfl) (Nat.le_of_ble_eq_true rfl) ?_
  exact loop 1281 0 μ (by omega) (by omega) (fun _ _ _ => rfl) (fun x => (if_neg (by omega)).symm)
