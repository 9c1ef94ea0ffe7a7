theorem fg_TWp.lo {μ μ' : Nat → Nat → Int32} {t : Nat} {T : Nat → Nat} (ht : fg_isT t) (h : fg_TW μ t T) (ha : ∀ a, a < 270 → ∀ j, μ' a j = μ a j) : fg_TW μ' t T := by
  have h1 : t + 13 < 270 := fg_isTe (P := fun t => t + 13 < 270) ht (by decide) (by decide) (by decide) (by decide) (by decide) (by decide) (by decide) (by decide) (by decide)
  exact fg_TWp.frame h (fun a g1 g2 j => ha a (by omega) j) (fun s hs => by rw [ha _ h1]; exact h.2.2.2.2.2.2.2 s hs)
theorem fg_bok_far {w : Nat} {B : fg_BQ} (h : fg_bok w B) : ∀ (n i : Nat), i ≤ n → i < B.1 → B.2.2.2.2 i ≤ i := by
  intro n
  induction n with
  | zero => intro i hi _; rw [Nat.le_zero.mp hi, h.2.2.2.2]; exact Nat.le_refl _
  | succ n ih =>
    intro i hi hl
    rcases Nat.eq_zero_or_pos i with q | q
    · rw [q, h.2.2.2.2]; exact Nat.le_refl _
    · obtain ⟨h1, h2, h3⟩ := h.2.2.1 i q hl
      rw [h3]
      have := ih (B.2.2.1 i) (by omega) (by omega)
      omega
theorem fg_bok_far31 {w : Nat} {B : fg_BQ} (h : fg_bok w B) (hw : w ≤ 10) {i : Nat} (hi : i < B.1) : B.2.2.2.2 i ≤ 1023 := by
  have h1 := fg_bok_far h i i (Nat.le_refl _) hi
  have h2 := fg_bok_len h hw
  omega
theorem fg_p10 {w s : Nat} (h : s < 2 ^ w) (hw : w ≤ 10) : s < 1024 := Nat.lt_of_lt_of_le h (Nat.pow_le_pow_right (by decide) hw)
theorem fg_SR_told {μ : Nat → Nat → Int32} {B : fg_BQ} {x : Int32} (h : fg_SR μ B) : fg_SR (fg_u2 μ 281 6 x) B := by
  obtain ⟨h1, h2, h3⟩ := h
  exact ⟨h1, h2, h3⟩
theorem fg_SR_tail {μ : Nat → Nat → Int32} {m : Nat} {x : Int32} (h : fg_SR μ (0 + 1, fg_up1 (fun _ => 0) 0 m, fg_up1 (fun _ => 0) 0 0, fg_up1 (fun _ => 0) 0 0, fg_up1 (fun _ => 0) 0 0)) : fg_SR (fg_u2 μ 281 6 x) (fg_b0 m) := by
  obtain ⟨h1, h2, h3⟩ := h
  refine ⟨h1, fun i hi => ?_, fun m' hm' hno => h3 m' hm' (fun i hi => ?_)⟩
  · have hi : i < 1 := hi
    have e : i = 0 := by omega
    subst e
    exact ⟨(h2 0 Nat.one_pos).1, (h2 0 Nat.one_pos).2.1, fun h0 => absurd h0 (Nat.lt_irrefl 0)⟩
  · have hi : i < 1 := hi
    have e : i = 0 := by omega
    subst e
    exact hno 0 Nat.one_pos
theorem ev_Search_start {E : fg_E} {d : Nat} {μ : Nat → Nat → Int32} {R : fg_T4} {Q : Option Value → fg_M → Prop} {t m mst : Nat} (hm : m < 1024) (hQ : ∀ μ' : Nat → Nat → Int32, (∀ a, a < 281 ∨ 285 < a → ∀ j, μ' a j = μ a j) → fg_SR μ' (fg_b0 m) → μ' 281 6 = nI 1 → μ' 281 7 = nI mst → Q (some (.int (nI m))) (μ', fg_rho (R.1, R.2.1, some t, R.2.2.2), 304)) : fg_Ev E yy_Search_start (d + 3) [.ref 281, .ref t, .int (nI m), .int (nI mst)] (μ, fg_rho R, 304) 304 Q := by
  refine fg_intro (by decide +kernel) (Nat.le_of_ble_eq_true rfl) (fg_okAs rfl) (Nat.le_refl _) ?_
  refine fg_aloadn (fg_ft (pc := 0) tb_Search_start 0 rfl) rfl ?_
  refine fg_aloadn (fg_ft (pc := 1) tb_Search_start 1 rfl) rfl ?_
  refine fg_putSe (fg_ft (pc := 2) tb_Search_start 2 rfl) ff_Search_24 ly_281 rfl (fg_lt ly_281 (by decide)) ?_
  show fg_wp _ _ _ _ _ _ _ _ _ (μ, fg_rho (R.1, R.2.1, some t, R.2.2.2), 304)
  refine fg_aloadn (fg_ft (pc := 5) tb_Search_start 3 rfl) rfl ?_
  refine fg_iconst (fg_ft (pc := 6) tb_Search_start 4 rfl) ic_0 ?_
  refine fg_putI (fg_ft (pc := 7) tb_Search_start 5 rfl) ff_Search_28 ly_281 rfl (fg_lt ly_281 (by decide)) (fg_nokI _) (fun _ _ h => by cases h; rfl) ?_
  show fg_wp _ _ _ _ _ _ _ _ _ (fg_u2 μ 281 5 (nI 0), fg_rho (R.1, R.2.1, some t, R.2.2.2), 304)
  refine fg_aloadn (fg_ft (pc := 10) tb_Search_start 6 rfl) rfl ?_
  refine fg_iconst (fg_ft (pc := 11) tb_Search_start 7 rfl) ic_0 ?_
  refine fg_putI (fg_ft (pc := 12) tb_Search_start 8 rfl) ff_Search_32 ly_281 rfl (fg_lt ly_281 (by decide)) (fg_nokI _) (fun _ _ h => by cases h; rfl) ?_
  show fg_wp _ _ _ _ _ _ _ _ _ (fg_u2 (fg_u2 μ 281 5 (nI 0)) 281 6 (nI 0), fg_rho (R.1, R.2.1, some t, R.2.2.2), 304)
  refine fg_aloadn (fg_ft (pc := 15) tb_Search_start 9 rfl) rfl ?_
  refine fg_iloadn (fg_ft (pc := 16) tb_Search_start 10 rfl) rfl ?_
  refine fg_putI (fg_ft (pc := 17) tb_Search_start 11 rfl) ff_Search_35 ly_281 rfl (fg_lt ly_281 (by decide)) (fg_nokI _) (fun _ _ h => by cases h; rfl) ?_
  show fg_wp _ _ _ _ _ _ _ _ _ (fg_u2 (fg_u2 (fg_u2 μ 281 5 (nI 0)) 281 6 (nI 0)) 281 7 (nI mst), fg_rho (R.1, R.2.1, some t, R.2.2.2), 304)
  refine fg_aloadn (fg_ft (pc := 20) tb_Search_start 12 rfl) rfl ?_
  refine fg_getR (fg_ft (pc := 21) tb_Search_start 13 rfl) ff_Search_21 ly_281 rfl (fg_lt ly_281 (by decide)) (rh_281_3 (R.1, R.2.1, some t, R.2.2.2)) ?_
  refine fg_iconst (fg_ft (pc := 24) tb_Search_start 14 rfl) ic_m1 ?_
  refine fg_callS (fg_ft (pc := 25) tb_Search_start 15 rfl) cf_Search_38 (as := [.ref 285, .int (-1)]) (st := []) rfl rfl (Nat.le_of_ble_eq_true rfl) (Nat.le_refl _) (Nat.le_refl _) (ev_Arrs_fill ly_285 ?_)
  show fg_wp _ _ _ _ _ _ _ _ _ (fg_fill1 (fg_u2 (fg_u2 (fg_u2 μ 281 5 (nI 0)) 281 6 (nI 0)) 281 7 (nI mst)) 285 1024 (-1), fg_rho (R.1, R.2.1, some t, R.2.2.2), 304)
  refine fg_aloadn (fg_ft (pc := 28) tb_Search_start 16 rfl) rfl ?_
  refine fg_iloadn (fg_ft (pc := 29) tb_Search_start 17 rfl) rfl ?_
  refine fg_iconst (fg_ft (pc := 30) tb_Search_start 18 rfl) ic_m1 ?_
  refine fg_iconst (fg_ft (pc := 31) tb_Search_start 19 rfl) ic_m1 ?_
  refine fg_iconst (fg_ft (pc := 32) tb_Search_start 20 rfl) ic_0 ?_
  refine fg_callV (fg_ft (pc := 33) tb_Search_start 21 rfl) cf_Search_44 (fg_isOf ly_281 rfl (fg_lt ly_281 (by decide))) (as := [.int (nI m), .int (-1), .int (-1), .int (nI 0)]) (st := []) rfl rfl (Nat.le_of_ble_eq_true rfl) (Nat.le_refl _) (Nat.le_refl _) (ev_Search_put (B := ((0, fun _ => 0, fun _ => 0, fun _ => 0, fun _ => 0) : fg_BQ)) (a := 0) (f := 0) ⟨rfl, fun i hi => absurd hi (Nat.not_lt_zero _), fun m' hm' _ => by simp [fg_fill1, hm']⟩ (fun i hi => absurd hi (Nat.not_lt_zero _)) (fun i _ hi => absurd hi (Nat.not_lt_zero _)) (fun i _ hi => absurd hi (Nat.not_lt_zero _)) hm (fun i hi => absurd hi (Nat.not_lt_zero _)) (fun h => absurd rfl h) ?_)
  intro μ1 ho hs1
  rw [fg_bput_new (fun ⟨i, hi, _⟩ => absurd hi (Nat.not_lt_zero _))] at hs1
  show fg_wp _ _ _ _ _ _ _ _ _ (μ1, fg_rho (R.1, R.2.1, some t, R.2.2.2), 304)
  refine fg_aloadn (fg_ft (pc := 36) tb_Search_start 22 rfl) rfl ?_
  refine fg_aloadn (fg_ft (pc := 37) tb_Search_start 23 rfl) rfl ?_
  refine fg_getV (v := (nI 1)) (fg_ft (pc := 38) tb_Search_start 24 rfl) ff_Search_28 ly_281 rfl (fg_lt ly_281 (by decide)) hs1.1 ?_
  refine fg_putI (fg_ft (pc := 41) tb_Search_start 25 rfl) ff_Search_32 ly_281 rfl (fg_lt ly_281 (by decide)) (fg_nokI _) (fun _ _ h => by cases h; rfl) ?_
  show fg_wp _ _ _ _ _ _ _ _ _ (fg_u2 μ1 281 6 (nI 1), fg_rho (R.1, R.2.1, some t, R.2.2.2), 304)
  refine fg_iloadn (fg_ft (pc := 44) tb_Search_start 26 rfl) rfl ?_
  exact fg_iret (fg_ft (pc := 45) tb_Search_start 27 rfl) rfl rfl (hQ _ (fun a ha j => by rw [fg_u2ne (by omega), ho.1 a ha j]; show fg_fill1 (fg_u2 (fg_u2 (fg_u2 μ 281 5 (nI 0)) 281 6 (nI 0)) 281 7 (nI mst)) 285 1024 (-1) a j = _; simp only [fg_fill1]; rw [if_neg (fun h => by omega), fg_u2ne (by omega), fg_u2ne (by omega), fg_u2ne (by omega)]) (fg_SR_tail hs1) rfl (by show μ1 281 7 = _; rw [ho.2 7 (by decide)]; rfl))
theorem ev_Search_leadOn {E : fg_E} {d : Nat} {μ : Nat → Nat → Int32} {R : fg_T4} {Q : Option Value → fg_M → Prop} {t : Nat} {T : Nat → Nat} (ht : fg_isT t) (hT : fg_TW μ t T) (hok : fg_ok T) {B : fg_BQ} {k mst : Nat} (hRt : R.2.2.1 = some t) (hB : fg_bok (T 0) B) (hk : k < B.1) (hS : fg_SR μ B) (hms : μ 281 7 = nI mst) (hmst : mst < 2 ^ 31) (hQ : ∀ μ' : Nat → Nat → Int32, fg_out5 μ μ' → fg_SR μ' (if B.2.2.2.2 k < mst then fg_bex T B k 10 else B) → Q none (μ', fg_rho R, 304)) : fg_Ev E yy_Search_leadOn (d + 5) [.ref 281, .int (nI (B.2.1 k))] (μ, fg_rho R, 304) 304 Q := by
  have hb0 := hok.1
  have hb1 := hok.2.1
  have hp := hok.p
  have hq := Nat.two_pow_pos (T 0)
  have hmF : B.2.1 k < 2 ^ T 0 := hB.1 k hk
  have hfk := fg_bok_far31 hB hok.1.2 hk
  have loop : B.2.2.2.2 k < mst → ∀ (m n : Nat) (ν : Nat → Nat → Int32), 10 - n < m → n ≤ 10 → fg_out5 μ ν → fg_SR ν (fg_bex T B k n) → fg_wp E yy_Search_leadOn (d + 5) 304 304 Q 30 [.ref 281, .int (nI (B.2.1 k)), .int (nI n)] [] (ν, fg_rho R, 304) := by
    intro hfar m
    induction m with
    | zero => intro n ν h; exact absurd h (Nat.not_lt_zero _)
    | succ m ih =>
      intro n ν hn hn10 hon hSn
      have hTn : fg_TW ν t T := fg_TWp.lo ht hT (fun a ha j => hon.1 a (by omega) j)
      have hpre := fg_bex_pre T B k n
      have hBn := fg_bex_ok hok hB hk n hn10
      refine fg_iloadn (fg_ft (pc := 30) tb_Search_leadOn 16 rfl) rfl ?_
      refine fg_bipush (fg_ft (pc := 31) tb_Search_leadOn 17 rfl) ib_10 ?_
      refine fg_icmp_geN (tgt := 76) (fg_ft (pc := 33) tb_Search_leadOn 18 rfl) (by decide) (by omega) (by decide) (fun c33 => ?_) (fun c33 => ?_)
      · exact fg_vret (fg_ft (pc := 76) tb_Search_leadOn 43 rfl) rfl rfl (hQ ν hon (by rw [if_pos hfar]; rw [show n = 10 by omega] at hSn; exact hSn))
      · refine fg_iloadn (fg_ft (pc := 36) tb_Search_leadOn 19 rfl) rfl ?_
        refine fg_iloadn (fg_ft (pc := 37) tb_Search_leadOn 20 rfl) rfl ?_
        refine fg_callSN (fg_ft (pc := 38) tb_Search_leadOn 21 rfl) cf_Search_56 (as := [.int (nI (B.2.1 k)), .int (nI n)]) (st := []) rfl rfl (Nat.le_of_ble_eq_true rfl) (Nat.le_refl _) (Nat.le_refl _) (ev_Fb_isIn (s := (B.2.1 k)) (k := n) (by omega) (by omega) ?_)
        refine fg_ifB_eq (tgt := 70) (fg_ft (pc := 41) tb_Search_leadOn 22 rfl) (by decide) (fun c41 => ?_) (fun c41 => ?_)
        · refine fg_iincN (fg_ft (pc := 70) tb_Search_leadOn 41 rfl) rfl ic_1 rfl ?_
          refine fg_goto (tgt := 30) (fg_ft (pc := 73) tb_Search_leadOn 42 rfl) (by decide) ?_
          exact ih (n + 1) ν (by omega) (by omega) hon (by simp only [fg_bex]; rw [if_neg c41]; exact hSn)
        · refine fg_aloadn (fg_ft (pc := 44) tb_Search_leadOn 23 rfl) rfl ?_
          refine fg_aloadn (fg_ft (pc := 45) tb_Search_leadOn 24 rfl) rfl ?_
          refine fg_getR (fg_ft (pc := 46) tb_Search_leadOn 25 rfl) ff_Search_24 ly_281 rfl (fg_lt ly_281 (by decide)) (show fg_rho R 281 4 = some t from hRt) ?_
          refine fg_iloadn (fg_ft (pc := 49) tb_Search_leadOn 26 rfl) rfl ?_
          refine fg_iconst (fg_ft (pc := 50) tb_Search_leadOn 27 rfl) ic_1 ?_
          refine fg_iloadn (fg_ft (pc := 51) tb_Search_leadOn 28 rfl) rfl ?_
          refine fg_ishl1 (fg_ft (pc := 52) tb_Search_leadOn 29 rfl) (by omega) ?_
          refine fg_iconst (fg_ft (pc := 53) tb_Search_leadOn 30 rfl) ic_0 ?_
          refine fg_callV (fg_ft (pc := 54) tb_Search_leadOn 31 rfl) cf_Search_60 (fg_isOf (tT_lay ht) rfl (fg_lt (tT_lay ht) (by decide))) (as := [.int (nI (B.2.1 k)), .int (nI (2 ^ n)), .int (nI 0)]) (st := [.ref 281]) rfl rfl (Nat.le_of_ble_eq_true rfl) (Nat.le_refl _) (Nat.le_refl _) (ev_Town_largest ht hTn hok (mind := (B.2.1 k)) (gone := (2 ^ n)) (kept := 0) (hmF) (by decide) ?_)
          refine fg_top (y := nI (fg_lst T (B.2.1 k) n)) (by rw [(fg_lst_some hok _ _).1]; rfl) ?_
          refine fg_iloadn (fg_ft (pc := 57) tb_Search_leadOn 32 rfl) rfl ?_
          refine fg_iloadn (fg_ft (pc := 58) tb_Search_leadOn 33 rfl) rfl ?_
          refine fg_aloadn (fg_ft (pc := 59) tb_Search_leadOn 34 rfl) rfl ?_
          refine fg_getR (fg_ft (pc := 60) tb_Search_leadOn 35 rfl) ff_Search_21 ly_281 rfl (fg_lt ly_281 (by decide)) (rh_281_3 R) ?_
          refine fg_iloadn (fg_ft (pc := 63) tb_Search_leadOn 36 rfl) rfl ?_
          refine fg_ialdV (v := (nI (B.2.2.2.2 k))) (fg_ft (pc := 64) tb_Search_leadOn 37 rfl) ly_285 (fg_lt ly_285 (by decide)) (by omega) (by have := (hSn.2.1 k (Nat.lt_of_lt_of_le hk hpre.1)).2.1; rw [(hpre.2 k hk).1, (hpre.2 k hk).2.2.2] at this; exact this) ?_
          refine fg_iconst (fg_ft (pc := 65) tb_Search_leadOn 38 rfl) ic_1 ?_
          refine fg_iaddN (fg_ft (pc := 66) tb_Search_leadOn 39 rfl) ?_
          refine fg_callV (fg_ft (pc := 67) tb_Search_leadOn 40 rfl) cf_Search_44 (fg_isOf ly_281 rfl (fg_lt ly_281 (by decide))) (as := [.int (nI (fg_lst T (B.2.1 k) n)), .int (nI (B.2.1 k)), .int (nI n), .int (nI ((B.2.2.2.2 k) + 1))]) (st := []) rfl rfl (Nat.le_of_ble_eq_true rfl) (Nat.le_refl _) (Nat.le_refl _) (ev_Search_put (B := fg_bex T B k n) (a := k) (f := n) hSn (fun i hi => fg_p10 (hBn.1 i hi) hok.1.2) hBn.2.1 (fun i h0 hi => (hBn.2.2.1 i h0 hi).1) (fg_p10 (fg_le_lt (fg_lst_some hok _ _).2.1 hmF) hok.1.2) (fun i hi => by have := fg_bok_far31 hBn hok.1.2 hi; omega) (fun _ => ⟨by rw [(hpre.2 k hk).1], rfl, Nat.lt_of_lt_of_le hk hpre.1⟩) ?_)
          intro ν2 ho2 hs2
          show fg_wp _ _ _ _ _ _ _ _ _ (ν2, fg_rho R, 304)
          refine fg_iincN (fg_ft (pc := 70) tb_Search_leadOn 41 rfl) rfl ic_1 rfl ?_
          refine fg_goto (tgt := 30) (fg_ft (pc := 73) tb_Search_leadOn 42 rfl) (by decide) ?_
          exact ih (n + 1) ν2 (by omega) (by omega) (fg_out5_tr hon ho2) (by simp only [fg_bex]; rw [if_pos c41]; exact hs2)
  refine fg_intro (by decide +kernel) (Nat.le_of_ble_eq_true rfl) (fg_okAs rfl) (Nat.le_refl _) ?_
  refine fg_iloadn (fg_ft (pc := 0) tb_Search_leadOn 0 rfl) rfl ?_
  refine fg_callS (fg_ft (pc := 1) tb_Search_leadOn 1 rfl) cf_Search_48 (as := [.int (nI (B.2.1 k))]) (st := []) rfl rfl (Nat.le_of_ble_eq_true rfl) (Nat.le_refl _) (Nat.le_refl _) (ev_Search_isMind (m := (B.2.1 k)) (by omega) ?_)
  refine fg_ifB_eq (tgt := 27) (fg_ft (pc := 4) tb_Search_leadOn 2 rfl) (by decide) (fun c4 => (absurd (by omega) c4)) (fun c4 => ?_)
  refine fg_aloadn (fg_ft (pc := 7) tb_Search_leadOn 3 rfl) rfl ?_
  refine fg_getR (fg_ft (pc := 8) tb_Search_leadOn 4 rfl) ff_Search_24 ly_281 rfl (fg_lt ly_281 (by decide)) (show fg_rho R 281 4 = some t from hRt) ?_
  refine fg_ifnull_r (fg_ft (pc := 11) tb_Search_leadOn 5 rfl) ?_
  refine fg_aloadn (fg_ft (pc := 14) tb_Search_leadOn 6 rfl) rfl ?_
  refine fg_getR (fg_ft (pc := 15) tb_Search_leadOn 7 rfl) ff_Search_21 ly_281 rfl (fg_lt ly_281 (by decide)) (rh_281_3 R) ?_
  refine fg_iloadn (fg_ft (pc := 18) tb_Search_leadOn 8 rfl) rfl ?_
  refine fg_ialdV (v := (nI (B.2.2.2.2 k))) (fg_ft (pc := 19) tb_Search_leadOn 9 rfl) ly_285 (fg_lt ly_285 (by decide)) (by omega) (hS.2.1 k hk).2.1 ?_
  refine fg_aloadn (fg_ft (pc := 20) tb_Search_leadOn 10 rfl) rfl ?_
  refine fg_getV (v := (nI mst)) (fg_ft (pc := 21) tb_Search_leadOn 11 rfl) ff_Search_35 ly_281 rfl (fg_lt ly_281 (by decide)) hms ?_
  refine fg_icmp_ltN (tgt := 28) (fg_ft (pc := 24) tb_Search_leadOn 12 rfl) (by decide) (by omega) (hmst) (fun c24 => ?_) (fun c24 => ?_)
  · refine fg_iconst (fg_ft (pc := 28) tb_Search_leadOn 14 rfl) ic_0 ?_
    refine fg_istoren (fg_ft (pc := 29) tb_Search_leadOn 15 rfl) (Nat.le_of_ble_eq_true rfl) ?_
    exact loop c24 11 0 μ (by omega) (by omega) (fg_out5_rf μ) hS
  · exact fg_vret (fg_ft (pc := 27) tb_Search_leadOn 13 rfl) rfl rfl (hQ μ (fg_out5_rf μ) (by rw [if_neg (by omega)]; exact hS))
/-- the search's own cells change alone, and how many loaves at most stays -/
def fg_outS (μ μ' : Nat → Nat → Int32) : Prop := (∀ a, a < 281 ∨ 285 < a → ∀ j, μ' a j = μ a j) ∧ μ' 281 7 = μ 281 7
theorem ev_Search_next {E : fg_E} {d : Nat} {μ : Nat → Nat → Int32} {R : fg_T4} {Q : Option Value → fg_M → Prop} {t : Nat} {T : Nat → Nat} (ht : fg_isT t) (hT : fg_TW μ t T) (hok : fg_ok T) {m mst k : Nat} (hRt : R.2.2.1 = some t) (hm : m < 2 ^ T 0) (hk : k < (fg_bfs T m mst k).1) (hS : fg_SR μ (fg_bfs T m mst k)) (hto : μ 281 6 = nI (k + 1)) (hms : μ 281 7 = nI mst) (hmst : mst < 2 ^ 31) (hQ1 : ∀ μ' : Nat → Nat → Int32, fg_outS μ μ' → fg_SR μ' (fg_bfs T m mst (k + 1)) → μ' 281 6 = nI (k + 1 + 1) → k + 1 < (fg_bfs T m mst (k + 1)).1 → Q (some (.int (nI ((fg_bfs T m mst (k + 1)).2.1 (k + 1))))) (μ', fg_rho R, 304)) (hQ2 : ∀ μ' : Nat → Nat → Int32, fg_outS μ μ' → fg_SR μ' (fg_bfs T m mst (k + 1)) → (fg_bfs T m mst (k + 1)).1 ≤ k + 1 → Q (some (.int (-1))) (μ', fg_rho R, 304)) : fg_Ev E yy_Search_next (d + 6) [.ref 281] (μ, fg_rho R, 304) 304 Q := by
  have hb0 := hok.1
  have hb1 := hok.2.1
  have hp := hok.p
  have hq := Nat.two_pow_pos (T 0)
  have hB := fg_bfs_ok hok (mst := mst) hm k
  have hB1 := fg_bfs_ok hok (mst := mst) hm (k + 1)
  have hl0 := fg_bok_len hB hok.1.2
  have hl1 := fg_bok_len hB1 hok.1.2
  refine fg_intro (by decide +kernel) (Nat.le_of_ble_eq_true rfl) (fg_okAs rfl) (Nat.le_refl _) ?_
  refine fg_aloadn (fg_ft (pc := 0) tb_Search_next 0 rfl) rfl ?_
  refine fg_getV (v := (nI (k + 1))) (fg_ft (pc := 1) tb_Search_next 1 rfl) ff_Search_32 ly_281 rfl (fg_lt ly_281 (by decide)) hto ?_
  refine fg_if_leN (tgt := 33) (fg_ft (pc := 4) tb_Search_next 2 rfl) (by decide) (by omega) (fun c4 => (absurd c4 (by omega))) (fun c4 => ?_)
  refine fg_aloadn (fg_ft (pc := 7) tb_Search_next 3 rfl) rfl ?_
  refine fg_getV (v := (nI (k + 1))) (fg_ft (pc := 8) tb_Search_next 4 rfl) ff_Search_32 ly_281 rfl (fg_lt ly_281 (by decide)) hto ?_
  refine fg_aloadn (fg_ft (pc := 11) tb_Search_next 5 rfl) rfl ?_
  refine fg_getV (v := (nI ((fg_bfs T m mst k).1))) (fg_ft (pc := 12) tb_Search_next 6 rfl) ff_Search_28 ly_281 rfl (fg_lt ly_281 (by decide)) hS.1 ?_
  refine fg_icmp_gtN (tgt := 33) (fg_ft (pc := 15) tb_Search_next 7 rfl) (by decide) (by omega) (by omega) (fun c15 => (absurd c15 (by omega))) (fun c15 => ?_)
  refine fg_aloadn (fg_ft (pc := 18) tb_Search_next 8 rfl) rfl ?_
  refine fg_aloadn (fg_ft (pc := 19) tb_Search_next 9 rfl) rfl ?_
  refine fg_getR (fg_ft (pc := 20) tb_Search_next 10 rfl) ff_Search_9 ly_281 rfl (fg_lt ly_281 (by decide)) (rh_281_0 R) ?_
  refine fg_aloadn (fg_ft (pc := 23) tb_Search_next 11 rfl) rfl ?_
  refine fg_getV (v := (nI (k + 1))) (fg_ft (pc := 24) tb_Search_next 12 rfl) ff_Search_32 ly_281 rfl (fg_lt ly_281 (by decide)) hto ?_
  refine fg_iconst (fg_ft (pc := 27) tb_Search_next 13 rfl) ic_1 ?_
  refine fg_isubN (fg_ft (pc := 28) tb_Search_next 14 rfl) (by omega) ?_
  refine fg_ialdV (v := (nI ((fg_bfs T m mst k).2.1 k))) (fg_ft (pc := 29) tb_Search_next 15 rfl) ly_282 (fg_lt ly_282 (by decide)) (by omega) (by rw [show k + 1 - 1 = k by omega]; exact (hS.2.1 k hk).1) ?_
  refine fg_callV (fg_ft (pc := 30) tb_Search_next 16 rfl) cf_Search_52 (fg_isOf ly_281 rfl (fg_lt ly_281 (by decide))) (as := [.int (nI ((fg_bfs T m mst k).2.1 k))]) (st := []) rfl rfl (Nat.le_of_ble_eq_true rfl) (Nat.le_refl _) (Nat.le_refl _) (ev_Search_leadOn ht hT hok (B := fg_bfs T m mst k) (k := k) hRt hB hk hS hms hmst ?_)
  intro μ1 ho1 hs0
  have hs1 : fg_SR μ1 (fg_bfs T m mst (k + 1)) := by
    have e9 : fg_bfs T m mst (k + 1) = if (fg_bfs T m mst k).2.2.2.2 k < mst then fg_bex T (fg_bfs T m mst k) k 10 else fg_bfs T m mst k := by
      simp only [fg_bfs, hk, true_and]
    rw [e9]
    exact hs0
  show fg_wp _ _ _ _ _ _ _ _ _ (μ1, fg_rho R, 304)
  refine fg_aloadn (fg_ft (pc := 33) tb_Search_next 17 rfl) rfl ?_
  refine fg_getV (v := (nI (k + 1))) (fg_ft (pc := 34) tb_Search_next 18 rfl) ff_Search_32 ly_281 rfl (fg_lt ly_281 (by decide)) (by show μ1 281 6 = _; rw [ho1.2 6 (by decide)]; exact hto) ?_
  refine fg_aloadn (fg_ft (pc := 37) tb_Search_next 19 rfl) rfl ?_
  refine fg_getV (v := (nI ((fg_bfs T m mst (k + 1)).1))) (fg_ft (pc := 38) tb_Search_next 20 rfl) ff_Search_28 ly_281 rfl (fg_lt ly_281 (by decide)) hs1.1 ?_
  refine fg_icmp_ltN (tgt := 46) (fg_ft (pc := 41) tb_Search_next 21 rfl) (by decide) (by omega) (by omega) (fun c41 => ?_) (fun c41 => ?_)
  · refine fg_aloadn (fg_ft (pc := 46) tb_Search_next 24 rfl) rfl ?_
    refine fg_dup (fg_ft (pc := 47) tb_Search_next 25 rfl) rfl ?_
    refine fg_getV (v := (nI (k + 1))) (fg_ft (pc := 48) tb_Search_next 26 rfl) ff_Search_32 ly_281 rfl (fg_lt ly_281 (by decide)) (by show μ1 281 6 = _; rw [ho1.2 6 (by decide)]; exact hto) ?_
    refine fg_iconst (fg_ft (pc := 51) tb_Search_next 27 rfl) ic_1 ?_
    refine fg_iaddN (fg_ft (pc := 52) tb_Search_next 28 rfl) ?_
    refine fg_putI (fg_ft (pc := 53) tb_Search_next 29 rfl) ff_Search_32 ly_281 rfl (fg_lt ly_281 (by decide)) (fg_nokI _) (fun _ _ h => by cases h; rfl) ?_
    show fg_wp _ _ _ _ _ _ _ _ _ (fg_u2 μ1 281 6 (nI ((k + 1) + 1)), fg_rho R, 304)
    refine fg_aloadn (fg_ft (pc := 56) tb_Search_next 30 rfl) rfl ?_
    refine fg_getR (fg_ft (pc := 57) tb_Search_next 31 rfl) ff_Search_9 ly_281 rfl (fg_lt ly_281 (by decide)) (rh_281_0 R) ?_
    refine fg_aloadn (fg_ft (pc := 60) tb_Search_next 32 rfl) rfl ?_
    refine fg_getV (v := (nI (k + 1 + 1))) (fg_ft (pc := 61) tb_Search_next 33 rfl) ff_Search_32 ly_281 rfl (fg_lt ly_281 (by decide)) rfl ?_
    refine fg_iconst (fg_ft (pc := 64) tb_Search_next 34 rfl) ic_1 ?_
    refine fg_isubN (fg_ft (pc := 65) tb_Search_next 35 rfl) (by omega) ?_
    refine fg_ialdV (v := (nI ((fg_bfs T m mst (k + 1)).2.1 (k + 1)))) (fg_ft (pc := 66) tb_Search_next 36 rfl) ly_282 (fg_lt ly_282 (by decide)) (by omega) (by rw [show k + 1 + 1 - 1 = k + 1 by omega]; exact (hs1.2.1 (k + 1) (by omega)).1) ?_
    exact fg_iret (fg_ft (pc := 67) tb_Search_next 37 rfl) rfl rfl (hQ1 _ ⟨fun a ha j => (fg_u2ne (by omega)).trans (ho1.1 a ha j), ho1.2 7 (by decide)⟩ (fg_SR_told hs1) rfl (by omega))
  · refine fg_iconst (fg_ft (pc := 44) tb_Search_next 22 rfl) ic_m1 ?_
    exact fg_iret (fg_ft (pc := 45) tb_Search_next 23 rfl) rfl rfl (hQ2 μ1 ⟨ho1.1, ho1.2 7 (by decide)⟩ hs1 (by omega))
def fg_anc (B : fg_BQ) (k : Nat) : Nat → Nat
  | 0 => k
  | n + 1 => B.2.2.1 (fg_anc B k n)
theorem fg_anc_far {w : Nat} {B : fg_BQ} (h : fg_bok w B) {k : Nat} (hk : k < B.1) : ∀ n, n ≤ B.2.2.2.2 k → fg_anc B k n < B.1 ∧ B.2.2.2.2 (fg_anc B k n) + n = B.2.2.2.2 k := by
  intro n
  induction n with
  | zero => intro _; exact ⟨hk, rfl⟩
  | succ n ih =>
    intro hn
    obtain ⟨h1, h2⟩ := ih (by omega)
    have h0 : 0 < fg_anc B k n := by
      rcases Nat.eq_zero_or_pos (fg_anc B k n) with q | q
      · rw [q, h.2.2.2.2] at h2; omega
      · exact q
    obtain ⟨g1, g2, g3⟩ := h.2.2.1 _ h0 h1
    show B.2.2.1 (fg_anc B k n) < B.1 ∧ B.2.2.2.2 (B.2.2.1 (fg_anc B k n)) + (n + 1) = _
    omega
/-- the fact of loaf i of the row that leads to k -/
def fg_rowt (B : fg_BQ) (k i : Nat) : Nat := B.2.2.2.1 (fg_anc B k (B.2.2.2.2 k - 1 - i))
/-- what is told of a row -/
noncomputable def fg_tell (B : fg_BQ) (k : Nat) (x : Int32) : Int32 := @ite _ (x = 0) (Classical.propDecidable _) (nI (B.2.2.2.2 k)) (@ite _ (∃ i, i < B.2.2.2.2 k ∧ x = nI (10 + i)) (Classical.propDecidable _) (nI (fg_rowt B k (x.toNatClampNeg - 10))) (-1))
theorem fg_tell0 (B : fg_BQ) (k : Nat) : fg_tell B k 0 = nI (B.2.2.2.2 k) := @if_pos _ (Classical.propDecidable _) rfl _ _ _
theorem fg_tellI {B : fg_BQ} {k i : Nat} (hi : i < B.2.2.2.2 k) (h31 : B.2.2.2.2 k ≤ 1023) : fg_tell B k (nI (10 + i)) = nI (fg_rowt B k i) := by
  have h0 : ¬ nI (10 + i) = 0 := nI_ne0 (by omega) (by omega)
  have h1 : fg_tell B k (nI (10 + i)) = _ := @if_neg _ (Classical.propDecidable _) h0 _ _ _
  rw [h1]
  have h2 := @if_pos (∃ j, j < B.2.2.2.2 k ∧ nI (10 + i) = nI (10 + j)) (Classical.propDecidable _) ⟨i, hi, rfl⟩ Int32 (nI (fg_rowt B k ((nI (10 + i)).toNatClampNeg - 10))) (-1)
  rw [h2, nI_clamp (by omega), show 10 + i - 10 = i by omega]
theorem fg_tellN {B : fg_BQ} {k : Nat} {x : Int32} (h0 : ¬ x = 0) (h : ¬ ∃ i, i < B.2.2.2.2 k ∧ x = nI (10 + i)) : fg_tell B k x = -1 := by
  have h1 : fg_tell B k x = _ := @if_neg _ (Classical.propDecidable _) h0 _ _ _
  rw [h1]
  exact @if_neg _ (Classical.propDecidable _) h _ _ _
theorem ev_Search_tell0 {E : fg_E} {d : Nat} {μ : Nat → Nat → Int32} {R : fg_T4} {Q : Option Value → fg_M → Prop} {w : Nat} {B : fg_BQ} {k : Nat} (hw : w ≤ 10) (hB : fg_bok w B) (hk : k < B.1) (hS : fg_SR μ B) (hQ : Q (some (.int (fg_tell B k 0))) (μ, fg_rho R, 304)) : fg_Ev E yy_Search_tell (d + 2) [.ref 281, .int (nI (B.2.1 k)), .int (nI 0)] (μ, fg_rho R, 304) 304 Q := by
  have hmk : B.2.1 k < 1024 := fg_p10 (hB.1 k hk) hw
  have hfk := fg_bok_far31 hB hw hk
  refine fg_intro (by decide +kernel) (Nat.le_of_ble_eq_true rfl) (fg_okAs rfl) (Nat.le_refl _) ?_
  refine fg_iloadn (fg_ft (pc := 0) tb_Search_tell 0 rfl) rfl ?_
  refine fg_callS (fg_ft (pc := 1) tb_Search_tell 1 rfl) cf_Search_48 (as := [.int (nI (B.2.1 k))]) (st := []) rfl rfl (Nat.le_of_ble_eq_true rfl) (Nat.le_refl _) (Nat.le_refl _) (ev_Search_isMind (m := (B.2.1 k)) (by omega) ?_)
  refine fg_ifB_eq (tgt := 17) (fg_ft (pc := 4) tb_Search_tell 2 rfl) (by decide) (fun c4 => (absurd hmk c4)) (fun c4 => ?_)
  refine fg_aloadn (fg_ft (pc := 7) tb_Search_tell 3 rfl) rfl ?_
  refine fg_getR (fg_ft (pc := 8) tb_Search_tell 4 rfl) ff_Search_21 ly_281 rfl (fg_lt ly_281 (by decide)) (rh_281_3 R) ?_
  refine fg_iloadn (fg_ft (pc := 11) tb_Search_tell 5 rfl) rfl ?_
  refine fg_ialdV (v := (nI (B.2.2.2.2 k))) (fg_ft (pc := 12) tb_Search_tell 6 rfl) ly_285 (fg_lt ly_285 (by decide)) (by omega) (hS.2.1 k hk).2.1 ?_
  refine fg_iconst (fg_ft (pc := 13) tb_Search_tell 7 rfl) ic_m1 ?_
  refine fg_icmp_ne (tgt := 19) (fg_ft (pc := 14) tb_Search_tell 8 rfl) (by decide) (fun c14 => ?_) (fun c14 => (absurd (show nI (B.2.2.2.2 k) = -1 from c14) (fun e => fg_negle (by omega) (Int32.le_of_eq e))))
  refine fg_iloadn (fg_ft (pc := 19) tb_Search_tell 11 rfl) rfl ?_
  refine fg_if_ne (tgt := 30) (fg_ft (pc := 20) tb_Search_tell 12 rfl) (by decide) (fun h => absurd h (by decide)) (fun _ => ?_)
  refine fg_aloadn (fg_ft (pc := 23) tb_Search_tell 13 rfl) rfl ?_
  refine fg_getR (fg_ft (pc := 24) tb_Search_tell 14 rfl) ff_Search_21 ly_281 rfl (fg_lt ly_281 (by decide)) (rh_281_3 R) ?_
  refine fg_iloadn (fg_ft (pc := 27) tb_Search_tell 15 rfl) rfl ?_
  refine fg_ialdV (v := (nI (B.2.2.2.2 k))) (fg_ft (pc := 28) tb_Search_tell 16 rfl) ly_285 (fg_lt ly_285 (by decide)) (by omega) (hS.2.1 k hk).2.1 ?_
  exact fg_iret (fg_ft (pc := 29) tb_Search_tell 17 rfl) rfl rfl (by rw [fg_tell0] at hQ; exact hQ)
theorem ev_Search_tellOut {E : fg_E} {d : Nat} {μ : Nat → Nat → Int32} {R : fg_T4} {Q : Option Value → fg_M → Prop} {w : Nat} {B : fg_BQ} {k : Nat} (hw : w ≤ 10) (hB : fg_bok w B) (hk : k < B.1) (hS : fg_SR μ B) {x : Int32} (h0 : ¬ x = 0) (hin : ¬ ∃ i, i < B.2.2.2.2 k ∧ x = nI (10 + i)) (hQ : Q (some (.int (fg_tell B k x))) (μ, fg_rho R, 304)) : fg_Ev E yy_Search_tell (d + 2) [.ref 281, .int (nI (B.2.1 k)), .int x] (μ, fg_rho R, 304) 304 Q := by
  have hmk : B.2.1 k < 1024 := fg_p10 (hB.1 k hk) hw
  have hfk := fg_bok_far31 hB hw hk
  refine fg_intro (by decide +kernel) (Nat.le_of_ble_eq_true rfl) (fg_okAs rfl) (Nat.le_refl _) ?_
  refine fg_iloadn (fg_ft (pc := 0) tb_Search_tell 0 rfl) rfl ?_
  refine fg_callS (fg_ft (pc := 1) tb_Search_tell 1 rfl) cf_Search_48 (as := [.int (nI (B.2.1 k))]) (st := []) rfl rfl (Nat.le_of_ble_eq_true rfl) (Nat.le_refl _) (Nat.le_refl _) (ev_Search_isMind (m := (B.2.1 k)) (by omega) ?_)
  refine fg_ifB_eq (tgt := 17) (fg_ft (pc := 4) tb_Search_tell 2 rfl) (by decide) (fun c4 => (absurd hmk c4)) (fun c4 => ?_)
  refine fg_aloadn (fg_ft (pc := 7) tb_Search_tell 3 rfl) rfl ?_
  refine fg_getR (fg_ft (pc := 8) tb_Search_tell 4 rfl) ff_Search_21 ly_281 rfl (fg_lt ly_281 (by decide)) (rh_281_3 R) ?_
  refine fg_iloadn (fg_ft (pc := 11) tb_Search_tell 5 rfl) rfl ?_
  refine fg_ialdV (v := (nI (B.2.2.2.2 k))) (fg_ft (pc := 12) tb_Search_tell 6 rfl) ly_285 (fg_lt ly_285 (by decide)) (by omega) (hS.2.1 k hk).2.1 ?_
  refine fg_iconst (fg_ft (pc := 13) tb_Search_tell 7 rfl) ic_m1 ?_
  refine fg_icmp_ne (tgt := 19) (fg_ft (pc := 14) tb_Search_tell 8 rfl) (by decide) (fun c14 => ?_) (fun c14 => (absurd (show nI (B.2.2.2.2 k) = -1 from c14) (fun e => fg_negle (by omega) (Int32.le_of_eq e))))
  refine fg_iloadn (fg_ft (pc := 19) tb_Search_tell 11 rfl) rfl ?_
  refine fg_if_ne (tgt := 30) (fg_ft (pc := 20) tb_Search_tell 12 rfl) (by decide) (fun c20 => ?_) (fun c20 => (absurd c20 h0))
  refine fg_iloadn (fg_ft (pc := 30) tb_Search_tell 18 rfl) rfl ?_
  refine fg_bipush (fg_ft (pc := 31) tb_Search_tell 19 rfl) ib_10 ?_
  refine fg_icmp_lt (tgt := 49) (fg_ft (pc := 33) tb_Search_tell 20 rfl) (by decide) (fun c33 => ?_) (fun c33 => ?_)
  · refine fg_iconst (fg_ft (pc := 49) tb_Search_tell 29 rfl) ic_m1 ?_
    exact fg_iret (fg_ft (pc := 50) tb_Search_tell 30 rfl) rfl rfl (by rw [fg_tellN h0 hin] at hQ; exact hQ)
  · refine fg_iloadn (fg_ft (pc := 36) tb_Search_tell 21 rfl) rfl ?_
    refine fg_bipush (fg_ft (pc := 37) tb_Search_tell 22 rfl) ib_10 ?_
    refine fg_isub (fg_ft (pc := 39) tb_Search_tell 23 rfl) ?_
    refine fg_aloadn (fg_ft (pc := 40) tb_Search_tell 24 rfl) rfl ?_
    refine fg_getR (fg_ft (pc := 41) tb_Search_tell 25 rfl) ff_Search_21 ly_281 rfl (fg_lt ly_281 (by decide)) (rh_281_3 R) ?_
    refine fg_iloadn (fg_ft (pc := 44) tb_Search_tell 26 rfl) rfl ?_
    refine fg_ialdV (v := (nI (B.2.2.2.2 k))) (fg_ft (pc := 45) tb_Search_tell 27 rfl) ly_285 (fg_lt ly_285 (by decide)) (by omega) (hS.2.1 k hk).2.1 ?_
    refine fg_icmp_lt (tgt := 51) (fg_ft (pc := 46) tb_Search_tell 28 rfl) (by decide) (fun c46 => ?_) (fun c46 => ?_)
    · exact absurd hin (fun h => h (by
        obtain ⟨j, hj, rfl⟩ := nI_of (x := x) (fun h9 => c33 (by rw [fg_ltI] at h9 ⊢; have h10 : (nI 10).toInt = 10 := rfl; have h11 : (0 : Int32).toInt = 0 := rfl; omega))
        rw [nI_ltI hj (by decide)] at c33
        rw [nI_sub (by omega), nI_ltI (by omega) (by omega)] at c46
        exact ⟨j - 10, c46, by rw [show 10 + (j - 10) = j by omega]⟩))
    · refine fg_iconst (fg_ft (pc := 49) tb_Search_tell 29 rfl) ic_m1 ?_
      exact fg_iret (fg_ft (pc := 50) tb_Search_tell 30 rfl) rfl rfl (by rw [fg_tellN h0 hin] at hQ; exact hQ)
theorem fg_dec {b : Nat} (h : 0 < b) : nI b + Int32.ofInt (-1) = nI (b - 1) := by
  rw [ic_m1]
  have := pk_m1 (b - 1)
  rw [show b - 1 + 1 = b by omega] at this
  exact this
theorem ev_Search_tellI {E : fg_E} {d : Nat} {μ : Nat → Nat → Int32} {R : fg_T4} {Q : Option Value → fg_M → Prop} {w : Nat} {B : fg_BQ} {k : Nat} (hw : w ≤ 10) (hB : fg_bok w B) (hk : k < B.1) (hS : fg_SR μ B) {i : Nat} (hi : i < B.2.2.2.2 k) (hQ : Q (some (.int (fg_tell B k (nI (10 + i))))) (μ, fg_rho R, 304)) : fg_Ev E yy_Search_tell (d + 2) [.ref 281, .int (nI (B.2.1 k)), .int (nI (10 + i))] (μ, fg_rho R, 304) 304 Q := by
  have hmk : B.2.1 k < 1024 := fg_p10 (hB.1 k hk) hw
  have hfk := fg_bok_far31 hB hw hk
  have loop : ∀ (m n b : Nat), b - i < m → i ≤ b → b + n + 1 = B.2.2.2.2 k → fg_wp E yy_Search_tell (d + 2) 304 304 Q 63 [.ref 281, .int (nI (B.2.1 k)), .int (nI (10 + i)), .int (nI (B.2.1 (fg_anc B k n))), .int (nI b)] [] (μ, fg_rho R, 304) := by
    intro m
    induction m with
    | zero => intro n b h; exact absurd h (Nat.not_lt_zero _)
    | succ m ih =>
      intro n b hm hib hbn
      obtain ⟨ha, haf⟩ := fg_anc_far hB hk n (by omega)
      have ham : B.2.1 (fg_anc B k n) < 1024 := fg_p10 (hB.1 _ ha) hw
      have h0 : 0 < fg_anc B k n := by
        rcases Nat.eq_zero_or_pos (fg_anc B k n) with q | q
        · rw [q, hB.2.2.2.2] at haf; omega
        · exact q
      refine fg_iload (fg_ft (pc := 63) tb_Search_tell 40 rfl) rfl ?_
      refine fg_iloadn (fg_ft (pc := 65) tb_Search_tell 41 rfl) rfl ?_
      refine fg_bipush (fg_ft (pc := 66) tb_Search_tell 42 rfl) ib_10 ?_
      refine fg_isubN (fg_ft (pc := 68) tb_Search_tell 43 rfl) (by omega) ?_
      refine fg_icmp_leN (tgt := 92) (fg_ft (pc := 69) tb_Search_tell 44 rfl) (by decide) (by omega) (by omega) (fun c69 => ?_) (fun c69 => ?_)
      · refine fg_iloadn (fg_ft (pc := 92) tb_Search_tell 55 rfl) rfl ?_
        refine fg_callS (fg_ft (pc := 93) tb_Search_tell 56 rfl) cf_Search_48 (as := [.int (nI (B.2.1 (fg_anc B k n)))]) (st := []) rfl rfl (Nat.le_of_ble_eq_true rfl) (Nat.le_refl _) (Nat.le_refl _) (ev_Search_isMind (m := (B.2.1 (fg_anc B k n))) (by omega) ?_)
        refine fg_ifB_eq (tgt := 108) (fg_ft (pc := 96) tb_Search_tell 57 rfl) (by decide) (fun c96 => (absurd ham c96)) (fun c96 => ?_)
        refine fg_aloadn (fg_ft (pc := 99) tb_Search_tell 58 rfl) rfl ?_
        refine fg_getR (fg_ft (pc := 100) tb_Search_tell 59 rfl) ff_Search_18 ly_281 rfl (fg_lt ly_281 (by decide)) (rh_281_2 R) ?_
        refine fg_iloadn (fg_ft (pc := 103) tb_Search_tell 60 rfl) rfl ?_
        refine fg_ialdV (v := (nI (B.2.2.2.1 (fg_anc B k n)))) (fg_ft (pc := 104) tb_Search_tell 61 rfl) ly_284 (fg_lt ly_284 (by decide)) (by omega) ((hS.2.1 _ ha).2.2 h0).2 ?_
        refine fg_goto (tgt := 109) (fg_ft (pc := 105) tb_Search_tell 62 rfl) (by decide) ?_
        exact fg_iret (fg_ft (pc := 109) tb_Search_tell 64 rfl) rfl rfl (by rw [fg_tellI hi hfk, show fg_rowt B k i = B.2.2.2.1 (fg_anc B k n) by unfold fg_rowt; rw [show B.2.2.2.2 k - 1 - i = n by omega]] at hQ; exact hQ)
      · refine fg_iloadn (fg_ft (pc := 72) tb_Search_tell 45 rfl) rfl ?_
        refine fg_callS (fg_ft (pc := 73) tb_Search_tell 46 rfl) cf_Search_48 (as := [.int (nI (B.2.1 (fg_anc B k n)))]) (st := []) rfl rfl (Nat.le_of_ble_eq_true rfl) (Nat.le_refl _) (Nat.le_refl _) (ev_Search_isMind (m := (B.2.1 (fg_anc B k n))) (by omega) ?_)
        refine fg_ifB_eq (tgt := 92) (fg_ft (pc := 76) tb_Search_tell 47 rfl) (by decide) (fun c76 => (absurd ham c76)) (fun c76 => ?_)
        refine fg_aloadn (fg_ft (pc := 79) tb_Search_tell 48 rfl) rfl ?_
        refine fg_getR (fg_ft (pc := 80) tb_Search_tell 49 rfl) ff_Search_15 ly_281 rfl (fg_lt ly_281 (by decide)) (rh_281_1 R) ?_
        refine fg_iloadn (fg_ft (pc := 83) tb_Search_tell 50 rfl) rfl ?_
        refine fg_ialdV (v := (nI (B.2.1 (fg_anc B k (n + 1))))) (fg_ft (pc := 84) tb_Search_tell 51 rfl) ly_283 (fg_lt ly_283 (by decide)) (by omega) ((hS.2.1 _ ha).2.2 h0).1 ?_
        refine fg_istoren (fg_ft (pc := 85) tb_Search_tell 52 rfl) (Nat.le_of_ble_eq_true rfl) ?_
        refine fg_iinc (fg_ft (pc := 86) tb_Search_tell 53 rfl) rfl (v := nI (b - 1)) (fg_dec (by omega)) ?_
        refine fg_goto (tgt := 63) (fg_ft (pc := 89) tb_Search_tell 54 rfl) (by decide) ?_
        exact ih (n + 1) (b - 1) (by omega) (by omega) (by omega)
  refine fg_intro (by decide +kernel) (Nat.le_of_ble_eq_true rfl) (fg_okAs rfl) (Nat.le_refl _) ?_
  refine fg_iloadn (fg_ft (pc := 0) tb_Search_tell 0 rfl) rfl ?_
  refine fg_callS (fg_ft (pc := 1) tb_Search_tell 1 rfl) cf_Search_48 (as := [.int (nI (B.2.1 k))]) (st := []) rfl rfl (Nat.le_of_ble_eq_true rfl) (Nat.le_refl _) (Nat.le_refl _) (ev_Search_isMind (m := (B.2.1 k)) (by omega) ?_)
  refine fg_ifB_eq (tgt := 17) (fg_ft (pc := 4) tb_Search_tell 2 rfl) (by decide) (fun c4 => (absurd hmk c4)) (fun c4 => ?_)
  refine fg_aloadn (fg_ft (pc := 7) tb_Search_tell 3 rfl) rfl ?_
  refine fg_getR (fg_ft (pc := 8) tb_Search_tell 4 rfl) ff_Search_21 ly_281 rfl (fg_lt ly_281 (by decide)) (rh_281_3 R) ?_
  refine fg_iloadn (fg_ft (pc := 11) tb_Search_tell 5 rfl) rfl ?_
  refine fg_ialdV (v := (nI (B.2.2.2.2 k))) (fg_ft (pc := 12) tb_Search_tell 6 rfl) ly_285 (fg_lt ly_285 (by decide)) (by omega) (hS.2.1 k hk).2.1 ?_
  refine fg_iconst (fg_ft (pc := 13) tb_Search_tell 7 rfl) ic_m1 ?_
  refine fg_icmp_ne (tgt := 19) (fg_ft (pc := 14) tb_Search_tell 8 rfl) (by decide) (fun c14 => ?_) (fun c14 => (absurd (show nI (B.2.2.2.2 k) = -1 from c14) (fun e => fg_negle (by omega) (Int32.le_of_eq e))))
  refine fg_iloadn (fg_ft (pc := 19) tb_Search_tell 11 rfl) rfl ?_
  refine fg_if_neN (tgt := 30) (fg_ft (pc := 20) tb_Search_tell 12 rfl) (by decide) (by omega) (fun c20 => ?_) (fun c20 => (absurd c20 (by omega)))
  refine fg_iloadn (fg_ft (pc := 30) tb_Search_tell 18 rfl) rfl ?_
  refine fg_bipush (fg_ft (pc := 31) tb_Search_tell 19 rfl) ib_10 ?_
  refine fg_icmp_ltN (tgt := 49) (fg_ft (pc := 33) tb_Search_tell 20 rfl) (by decide) (by omega) (by decide) (fun c33 => (absurd c33 (by omega))) (fun c33 => ?_)
  refine fg_iloadn (fg_ft (pc := 36) tb_Search_tell 21 rfl) rfl ?_
  refine fg_bipush (fg_ft (pc := 37) tb_Search_tell 22 rfl) ib_10 ?_
  refine fg_isubN (fg_ft (pc := 39) tb_Search_tell 23 rfl) (by omega) ?_
  refine fg_aloadn (fg_ft (pc := 40) tb_Search_tell 24 rfl) rfl ?_
  refine fg_getR (fg_ft (pc := 41) tb_Search_tell 25 rfl) ff_Search_21 ly_281 rfl (fg_lt ly_281 (by decide)) (rh_281_3 R) ?_
  refine fg_iloadn (fg_ft (pc := 44) tb_Search_tell 26 rfl) rfl ?_
  refine fg_ialdV (v := (nI (B.2.2.2.2 k))) (fg_ft (pc := 45) tb_Search_tell 27 rfl) ly_285 (fg_lt ly_285 (by decide)) (by omega) (hS.2.1 k hk).2.1 ?_
  refine fg_icmp_ltN (tgt := 51) (fg_ft (pc := 46) tb_Search_tell 28 rfl) (by decide) (by omega) (by omega) (fun c46 => ?_) (fun c46 => (absurd c46 (by omega)))
  refine fg_iloadn (fg_ft (pc := 51) tb_Search_tell 31 rfl) rfl ?_
  refine fg_istoren (fg_ft (pc := 52) tb_Search_tell 32 rfl) (Nat.le_of_ble_eq_true rfl) ?_
  refine fg_aloadn (fg_ft (pc := 53) tb_Search_tell 33 rfl) rfl ?_
  refine fg_getR (fg_ft (pc := 54) tb_Search_tell 34 rfl) ff_Search_21 ly_281 rfl (fg_lt ly_281 (by decide)) (rh_281_3 R) ?_
  refine fg_iloadn (fg_ft (pc := 57) tb_Search_tell 35 rfl) rfl ?_
  refine fg_ialdV (v := (nI (B.2.2.2.2 k))) (fg_ft (pc := 58) tb_Search_tell 36 rfl) ly_285 (fg_lt ly_285 (by decide)) (by omega) (hS.2.1 k hk).2.1 ?_
  refine fg_iconst (fg_ft (pc := 59) tb_Search_tell 37 rfl) ic_1 ?_
  refine fg_isubN (fg_ft (pc := 60) tb_Search_tell 38 rfl) (by omega) ?_
  refine fg_istore (fg_ft (pc := 61) tb_Search_tell 39 rfl) (Nat.le_of_ble_eq_true rfl) ?_
  exact loop (B.2.2.2.2 k) 0 _ (by omega) (by omega) (by omega)
theorem ev_Search_tellNone {E : fg_E} {d : Nat} {μ : Nat → Nat → Int32} {R : fg_T4} {Q : Option Value → fg_M → Prop} {x : Int32} (hQ : Q (some (.int (-1))) (μ, fg_rho R, 304)) : fg_Ev E yy_Search_tell (d + 2) [.ref 281, .int (-1), .int x] (μ, fg_rho R, 304) 304 Q := by
  refine fg_intro (by decide +kernel) (Nat.le_of_ble_eq_true rfl) (fg_okAs rfl) (Nat.le_refl _) ?_
  refine fg_iloadn (fg_ft (pc := 0) tb_Search_tell 0 rfl) rfl ?_
  refine fg_callS (fg_ft (pc := 1) tb_Search_tell 1 rfl) cf_Search_48 (as := [.int (-1)]) (st := []) rfl rfl (Nat.le_of_ble_eq_true rfl) (Nat.le_refl _) (Nat.le_refl _) (ev_Search_isMindNeg ?_)
  refine fg_if_eq (tgt := 17) (fg_ft (pc := 4) tb_Search_tell 2 rfl) (by decide) (fun _ => ?_) (fun h => absurd h (by decide))
  refine fg_iconst (fg_ft (pc := 17) tb_Search_tell 9 rfl) ic_m1 ?_
  exact fg_iret (fg_ft (pc := 18) tb_Search_tell 10 rfl) rfl rfl (hQ)
theorem ev_Search_tell {E : fg_E} {d : Nat} {μ : Nat → Nat → Int32} {R : fg_T4} {Q : Option Value → fg_M → Prop} {w : Nat} {B : fg_BQ} {k : Nat} (hw : w ≤ 10) (hB : fg_bok w B) (hk : k < B.1) (hS : fg_SR μ B) {x : Int32} (hQ : Q (some (.int (fg_tell B k x))) (μ, fg_rho R, 304)) : fg_Ev E yy_Search_tell (d + 2) [.ref 281, .int (nI (B.2.1 k)), .int x] (μ, fg_rho R, 304) 304 Q := by
  rcases Classical.em (x = 0) with h0 | h0
  · subst h0
    exact ev_Search_tell0 hw hB hk hS hQ
  · rcases Classical.em (∃ i, i < B.2.2.2.2 k ∧ x = nI (10 + i)) with h | h
    · obtain ⟨i, hi, rfl⟩ := h
      exact ev_Search_tellI hw hB hk hS hi hQ
    · exact ev_Search_tellOut hw hB hk hS h0 h hQ
