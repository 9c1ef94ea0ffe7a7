theorem ev_Rows_add {E : fg_E} {d : Nat} {μ : Nat → Nat → Int32} {R : fg_T4} {Q : Option Value → fg_M → Prop} {r c n w sz : Nat} (hr : fg_rows R r c n) (hrc : r ≠ c) (hw : μ r 0 = nI w) (hs : μ r 2 = nI sz) (hf : sz * w ≤ n) (hwl : w < 2 ^ 31) (hz : sz + 1 < 2 ^ 31) (hb : (sz + 1) * w < 2 ^ 31) {x : Int32} (hroom : (sz + 1) * w ≤ n) (hQ : ∀ μ' : Nat → Nat → Int32, (∀ b i, b ≠ c → (b ≠ r ∨ i ≠ 2) → μ' b i = μ b i) → μ' r 2 = nI (sz + 1) → (∀ i, i < w → μ' c (sz * w + i) = x) → (∀ i, i < sz * w → μ' c i = μ c i) → Q (some (.int (nI sz))) (μ', fg_rho R, 304)) : fg_Ev E yy_Rows_add (d + 3) [.ref r, .int x] (μ, fg_rho R, 304) 304 Q := by
  have hsw := Nat.succ_mul sz w
  have loop : ∀ (m j : Nat) (ν : Nat → Nat → Int32), w - j < m → j ≤ w → (∀ b i, b ≠ c → (b ≠ r ∨ i ≠ 2) → ν b i = μ b i) → ν r 2 = nI (sz + 1) → (∀ i, i < j → ν c (sz * w + i) = x) → (∀ i, i < sz * w → ν c i = μ c i) → fg_wp E yy_Rows_add (d + 3) 304 304 Q 26 [.ref r, .int x, .int (nI sz), .int (nI j)] [] (ν, fg_rho R, 304) := by
    intro m
    induction m with
    | zero => intro j ν h; exact absurd h (Nat.not_lt_zero _)
    | succ m ih =>
      intro j ν hm hj hfr hN2 hnew hold
      refine fg_iloadn (fg_ft (pc := 26) tb_Rows_add 16 rfl) rfl ?_
      refine fg_aloadn (fg_ft (pc := 27) tb_Rows_add 17 rfl) rfl ?_
      refine fg_getV (v := (nI w)) (fg_ft (pc := 28) tb_Rows_add 18 rfl) ff_Rows_9 hr.1 rfl (fg_lt (hr.1) (by decide)) ((hfr r 0 hrc (Or.inr (by decide))).trans hw) ?_
      refine fg_icmp_geN (tgt := 47) (fg_ft (pc := 31) tb_Rows_add 19 rfl) (by decide) (by omega) (hwl) (fun c31 => ?_) (fun c31 => ?_)
      · refine fg_iloadn (fg_ft (pc := 47) tb_Rows_add 27 rfl) rfl ?_
        exact fg_iret (fg_ft (pc := 48) tb_Rows_add 28 rfl) rfl rfl (hQ ν hfr hN2 (fun i hi => hnew i (by omega)) hold)
      · refine fg_aloadn (fg_ft (pc := 34) tb_Rows_add 20 rfl) rfl ?_
        refine fg_iloadn (fg_ft (pc := 35) tb_Rows_add 21 rfl) rfl ?_
        refine fg_iloadn (fg_ft (pc := 36) tb_Rows_add 22 rfl) rfl ?_
        refine fg_iloadn (fg_ft (pc := 37) tb_Rows_add 23 rfl) rfl ?_
        refine fg_callV (fg_ft (pc := 38) tb_Rows_add 24 rfl) cf_Rows_32 (fg_isOf hr.1 rfl (fg_lt (hr.1) (by decide))) (as := [.int (nI sz), .int (nI j), .int x]) (st := []) rfl rfl (Nat.le_of_ble_eq_true rfl) (Nat.le_refl _) (Nat.le_refl _) (ev_Rows_put (i := sz) (j := j) hr ((hfr r 0 hrc (Or.inr (by decide))).trans hw) hN2 hroom hwl hz (by omega) (by omega) ?_)
        show fg_wp _ _ _ _ _ _ _ _ _ (fg_u2 ν c (sz * w + j) x, fg_rho R, 304)
        refine fg_iincN (fg_ft (pc := 41) tb_Rows_add 25 rfl) rfl ic_1 rfl ?_
        refine fg_goto (tgt := 26) (fg_ft (pc := 44) tb_Rows_add 26 rfl) (by decide) ?_
        exact ih (j + 1) _ (by omega) (by omega) (fun b i hb1 hb2 => (fg_u2ne hb1).trans (hfr b i hb1 hb2)) ((fg_u2ne hrc).trans hN2) (fun i hi => by rcases Nat.decEq i j with e | e; exact (fg_u2ns (by omega)).trans (hnew i (by omega)); rw [e]; exact fg_u2eq) (fun i hi => (fg_u2ns (by omega)).trans (hold i hi))
  refine fg_intro (by decide +kernel) (Nat.le_of_ble_eq_true rfl) (fg_okAs rfl) (Nat.le_refl _) ?_
  refine fg_aloadn (fg_ft (pc := 0) tb_Rows_add 0 rfl) rfl ?_
  refine fg_callV (fg_ft (pc := 1) tb_Rows_add 1 rfl) cf_Rows_28 (fg_isOf hr.1 rfl (fg_lt (hr.1) (by decide))) (as := []) (st := []) rfl rfl (Nat.le_of_ble_eq_true rfl) (Nat.le_refl _) (Nat.le_refl _) (ev_Rows_isFull hr hw hs hf hwl (by omega) hb ?_)
  refine fg_ifB_eq (tgt := 9) (fg_ft (pc := 4) tb_Rows_add 2 rfl) (by decide) (fun c4 => ?_) (fun c4 => (absurd c4 (by omega)))
  refine fg_aloadn (fg_ft (pc := 9) tb_Rows_add 5 rfl) rfl ?_
  refine fg_getV (v := (nI sz)) (fg_ft (pc := 10) tb_Rows_add 6 rfl) ff_Rows_25 hr.1 rfl (fg_lt (hr.1) (by decide)) hs ?_
  refine fg_istoren (fg_ft (pc := 13) tb_Rows_add 7 rfl) (Nat.le_of_ble_eq_true rfl) ?_
  refine fg_aloadn (fg_ft (pc := 14) tb_Rows_add 8 rfl) rfl ?_
  refine fg_dup (fg_ft (pc := 15) tb_Rows_add 9 rfl) rfl ?_
  refine fg_getV (v := (nI sz)) (fg_ft (pc := 16) tb_Rows_add 10 rfl) ff_Rows_25 hr.1 rfl (fg_lt (hr.1) (by decide)) hs ?_
  refine fg_iconst (fg_ft (pc := 19) tb_Rows_add 11 rfl) ic_1 ?_
  refine fg_iaddN (fg_ft (pc := 20) tb_Rows_add 12 rfl) ?_
  refine fg_putI (fg_ft (pc := 21) tb_Rows_add 13 rfl) ff_Rows_25 hr.1 rfl (fg_lt (hr.1) (by decide)) (fg_nokI _) (fun _ _ h => by cases h; rfl) ?_
  show fg_wp _ _ _ _ _ _ _ _ _ (fg_u2 μ r 2 (nI (sz + 1)), fg_rho R, 304)
  refine fg_iconst (fg_ft (pc := 24) tb_Rows_add 14 rfl) ic_0 ?_
  refine fg_istoren (fg_ft (pc := 25) tb_Rows_add 15 rfl) (Nat.le_of_ble_eq_true rfl) ?_
  exact loop (w + 1) 0 _ (by omega) (by omega) (fun b i hb1 hb2 => fg_u2nx hb2) fg_u2eq (fun i hi => absurd hi (Nat.not_lt_zero _)) (fun i hi => fg_u2ne (fun h => hrc h.symm))
theorem ev_Rows_addFull {E : fg_E} {d : Nat} {μ : Nat → Nat → Int32} {R : fg_T4} {Q : Option Value → fg_M → Prop} {r c n w sz : Nat} (hr : fg_rows R r c n) (hrc : r ≠ c) (hw : μ r 0 = nI w) (hs : μ r 2 = nI sz) (hf : sz * w ≤ n) (hwl : w < 2 ^ 31) (hz : sz + 1 < 2 ^ 31) (hb : (sz + 1) * w < 2 ^ 31) {x : Int32} (hfull : n < (sz + 1) * w) (hQ : Q (some (.int (-1))) (μ, fg_rho R, 304)) : fg_Ev E yy_Rows_add (d + 3) [.ref r, .int x] (μ, fg_rho R, 304) 304 Q := by
  refine fg_intro (by decide +kernel) (Nat.le_of_ble_eq_true rfl) (fg_okAs rfl) (Nat.le_refl _) ?_
  refine fg_aloadn (fg_ft (pc := 0) tb_Rows_add 0 rfl) rfl ?_
  refine fg_callV (fg_ft (pc := 1) tb_Rows_add 1 rfl) cf_Rows_28 (fg_isOf hr.1 rfl (fg_lt (hr.1) (by decide))) (as := []) (st := []) rfl rfl (Nat.le_of_ble_eq_true rfl) (Nat.le_refl _) (Nat.le_refl _) (ev_Rows_isFull hr hw hs hf hwl (by omega) hb ?_)
  refine fg_ifB_eq (tgt := 9) (fg_ft (pc := 4) tb_Rows_add 2 rfl) (by decide) (fun c4 => (absurd hfull c4)) (fun c4 => ?_)
  refine fg_iconst (fg_ft (pc := 7) tb_Rows_add 3 rfl) ic_m1 ?_
  exact fg_iret (fg_ft (pc := 8) tb_Rows_add 4 rfl) rfl rfl (hQ)
theorem fg_isT_told {p : Nat} (h : p < 2) : fg_isT (104 + 14 * p) := by
  rcases (show p = 0 ∨ p = 1 by omega) with rfl | rfl
  · exact (by decide : (104 : Nat) ∈ [104, 118, 143, 157, 181, 195, 219, 233, 256])
  · exact (by decide : (118 : Nat) ∈ [104, 118, 143, 157, 181, 195, 219, 233, 256])
theorem fg_isT_256 : fg_isT 256 := (by decide : (256 : Nat) ∈ [104, 118, 143, 157, 181, 195, 219, 233, 256])
theorem fg_isD_told {p : Nat} (h : p < 3) : fg_isD (133 + 2 * p) := by
  rcases (show p = 0 ∨ p = 1 ∨ p = 2 by omega) with rfl | rfl | rfl
  · exact Or.inl rfl
  · exact Or.inr (Or.inl rfl)
  · exact Or.inr (Or.inr rfl)
theorem fD_270 {R : fg_T4} : fg_rows R 270 271 120 := ⟨ly_270, rh_270_1 R, ly_271⟩
theorem ev_Told_putTown {E : fg_E} {d : Nat} {μ : Nat → Nat → Int32} {R : fg_T4} {Q : Option Value → fg_M → Prop} {A : fg_Tl} (hA : fg_TL μ 101 A) {p : Nat} (hp2 : p < 2) (hQ : ∀ μ' : Nat → Nat → Int32, (∀ a j, (a < 104 + 14 * p ∨ 104 + 14 * p + 14 ≤ a) → (a ≠ 101 ∨ j ≠ 4) → μ' a j = μ a j) → μ' 101 4 = nI (max A.tc (p + 1)) → ∀ ν : Nat → Nat → Int32, fg_TC μ 256 ν (104 + 14 * p) → (fg_wdT μ (104 + 14 * p) → fg_wdT ν (104 + 14 * p)) → (∀ a j, (a ≠ 101 ∨ j ≠ 4) → μ' a j = ν a j) → Q none (μ', fg_rho R, 304)) : fg_Ev E yy_Told_putTown (d + 3) [.ref 101, .int (nI p), .ref 256] (μ, fg_rho R, 304) 304 Q := by
  have ht2 := hA.2.2.2.1.2
  refine fg_intro (by decide +kernel) (Nat.le_of_ble_eq_true rfl) (fg_okAs rfl) (Nat.le_refl _) ?_
  refine fg_iloadn (fg_ft (pc := 0) tb_Told_putTown 0 rfl) rfl ?_
  refine fg_if_ltN (tgt := 46) (fg_ft (pc := 1) tb_Told_putTown 1 rfl) (by decide) (by omega) ?_
  refine fg_iloadn (fg_ft (pc := 4) tb_Told_putTown 2 rfl) rfl ?_
  refine fg_aloadn (fg_ft (pc := 5) tb_Told_putTown 3 rfl) rfl ?_
  refine fg_getR (fg_ft (pc := 6) tb_Told_putTown 4 rfl) ff_Told_21 ly_101 rfl (fg_lt ly_101 (by decide)) (rh_101_6 R) ?_
  refine fg_alen (fg_ft (pc := 9) tb_Told_putTown 5 rfl) ly_103 (by decide) (fg_lt ly_103 (by decide)) ?_
  refine fg_icmp_geN (tgt := 46) (fg_ft (pc := 10) tb_Told_putTown 6 rfl) (by decide) (by omega) (by decide) (fun c10 => (absurd c10 (by omega))) (fun c10 => ?_)
  refine fg_aloadn (fg_ft (pc := 13) tb_Told_putTown 7 rfl) rfl ?_
  refine fg_getR (fg_ft (pc := 14) tb_Told_putTown 8 rfl) ff_Told_21 ly_101 rfl (fg_lt ly_101 (by decide)) (rh_101_6 R) ?_
  refine fg_iloadn (fg_ft (pc := 17) tb_Told_putTown 9 rfl) rfl ?_
  refine fg_aaldN (fg_ft (pc := 18) tb_Told_putTown 10 rfl) ly_103 (by decide) (fg_lt ly_103 (by decide)) (by omega) (rh_103g (R := R) hp2) ?_
  refine fg_ifnull_r (fg_ft (pc := 19) tb_Told_putTown 11 rfl) ?_
  refine fg_aloadn (fg_ft (pc := 22) tb_Told_putTown 12 rfl) rfl ?_
  refine fg_getR (fg_ft (pc := 23) tb_Told_putTown 13 rfl) ff_Told_21 ly_101 rfl (fg_lt ly_101 (by decide)) (rh_101_6 R) ?_
  refine fg_iloadn (fg_ft (pc := 26) tb_Told_putTown 14 rfl) rfl ?_
  refine fg_aaldN (fg_ft (pc := 27) tb_Told_putTown 15 rfl) ly_103 (by decide) (fg_lt ly_103 (by decide)) (by omega) (rh_103g (R := R) hp2) ?_
  refine fg_aloadn (fg_ft (pc := 28) tb_Told_putTown 16 rfl) rfl ?_
  refine fg_callV (fg_ft (pc := 29) tb_Told_putTown 17 rfl) cf_Told_44 (fg_isOf (tT_lay (fg_isT_told hp2)) rfl (fg_lt (tT_lay (fg_isT_told hp2)) (by decide))) (as := [.ref 256]) (st := []) rfl rfl (Nat.le_of_ble_eq_true rfl) (Nat.le_refl _) (Nat.le_refl _) (ev_Town_copyFrom (t := 104 + 14 * p) (t2 := 256) (fg_isT_told hp2) fg_isT_256 (by omega) ?_)
  intro ν hag hTC hwd
  show fg_wp _ _ _ _ _ _ _ _ _ (ν, fg_rho R, 304)
  refine fg_aloadn (fg_ft (pc := 32) tb_Told_putTown 18 rfl) rfl ?_
  refine fg_aloadn (fg_ft (pc := 33) tb_Told_putTown 19 rfl) rfl ?_
  refine fg_getV (v := (nI (A.tc))) (fg_ft (pc := 34) tb_Told_putTown 20 rfl) ff_Told_38 ly_101 rfl (fg_lt ly_101 (by decide)) ((hag 101 (by omega) 4).trans hA.2.2.2.1.1) ?_
  refine fg_iloadn (fg_ft (pc := 37) tb_Told_putTown 21 rfl) rfl ?_
  refine fg_iconst (fg_ft (pc := 38) tb_Told_putTown 22 rfl) ic_1 ?_
  refine fg_iaddN (fg_ft (pc := 39) tb_Told_putTown 23 rfl) ?_
  refine fg_mmaxN (fg_ft (pc := 40) tb_Told_putTown 24 rfl) cf_Told_48 (Nat.le_of_ble_eq_true rfl) (by omega) (by omega) ?_
  refine fg_putI (fg_ft (pc := 43) tb_Told_putTown 25 rfl) ff_Told_38 ly_101 rfl (fg_lt ly_101 (by decide)) (fg_nokI _) (fun _ _ h => by cases h; rfl) ?_
  show fg_wp _ _ _ _ _ _ _ _ _ (fg_u2 ν 101 4 (nI (max (A.tc) (p + 1))), fg_rho R, 304)
  exact fg_vret (fg_ft (pc := 46) tb_Told_putTown 26 rfl) rfl rfl (hQ _ (fun a j h1 h2 => (fg_u2nx h2).trans (hag a (by omega) j)) fg_u2eq ν hTC hwd (fun a j h2 => fg_u2nx h2))
theorem ev_Told_putDay {E : fg_E} {d : Nat} {μ : Nat → Nat → Int32} {R : fg_T4} {Q : Option Value → fg_M → Prop} {A : fg_Tl} (hA : fg_TL μ 101 A) {p : Nat} (hp3 : p < 3) (hQ : ∀ μ' : Nat → Nat → Int32, (∀ a j, a ≠ 133 + 2 * p → a ≠ 133 + 2 * p + 1 → (a ≠ 101 ∨ j ≠ 5) → μ' a j = μ a j) → μ' 101 5 = nI (max A.dc (p + 1)) → μ' (133 + 2 * p) 0 = μ (133 + 2 * p) 0 → μ' (133 + 2 * p) 2 = μ 270 2 → (∀ j, j < 120 → μ' (133 + 2 * p + 1) j = μ 271 j) → Q none (μ', fg_rho R, 304)) : fg_Ev E yy_Told_putDay (d + 3) [.ref 101, .int (nI p), .ref 270] (μ, fg_rho R, 304) 304 Q := by
  have hd3 := hA.2.2.2.2.1.2
  refine fg_intro (by decide +kernel) (Nat.le_of_ble_eq_true rfl) (fg_okAs rfl) (Nat.le_refl _) ?_
  refine fg_iloadn (fg_ft (pc := 0) tb_Told_putDay 0 rfl) rfl ?_
  refine fg_if_ltN (tgt := 46) (fg_ft (pc := 1) tb_Told_putDay 1 rfl) (by decide) (by omega) ?_
  refine fg_iloadn (fg_ft (pc := 4) tb_Told_putDay 2 rfl) rfl ?_
  refine fg_aloadn (fg_ft (pc := 5) tb_Told_putDay 3 rfl) rfl ?_
  refine fg_getR (fg_ft (pc := 6) tb_Told_putDay 4 rfl) ff_Told_28 ly_101 rfl (fg_lt ly_101 (by decide)) (rh_101_7 R) ?_
  refine fg_alen (fg_ft (pc := 9) tb_Told_putDay 5 rfl) ly_132 (by decide) (fg_lt ly_132 (by decide)) ?_
  refine fg_icmp_geN (tgt := 46) (fg_ft (pc := 10) tb_Told_putDay 6 rfl) (by decide) (by omega) (by decide) (fun c10 => (absurd c10 (by omega))) (fun c10 => ?_)
  refine fg_aloadn (fg_ft (pc := 13) tb_Told_putDay 7 rfl) rfl ?_
  refine fg_getR (fg_ft (pc := 14) tb_Told_putDay 8 rfl) ff_Told_28 ly_101 rfl (fg_lt ly_101 (by decide)) (rh_101_7 R) ?_
  refine fg_iloadn (fg_ft (pc := 17) tb_Told_putDay 9 rfl) rfl ?_
  refine fg_aaldN (fg_ft (pc := 18) tb_Told_putDay 10 rfl) ly_132 (by decide) (fg_lt ly_132 (by decide)) (by omega) (rh_132g (R := R) hp3) ?_
  refine fg_ifnull_r (fg_ft (pc := 19) tb_Told_putDay 11 rfl) ?_
  refine fg_aloadn (fg_ft (pc := 22) tb_Told_putDay 12 rfl) rfl ?_
  refine fg_getR (fg_ft (pc := 23) tb_Told_putDay 13 rfl) ff_Told_28 ly_101 rfl (fg_lt ly_101 (by decide)) (rh_101_7 R) ?_
  refine fg_iloadn (fg_ft (pc := 26) tb_Told_putDay 14 rfl) rfl ?_
  refine fg_aaldN (fg_ft (pc := 27) tb_Told_putDay 15 rfl) ly_132 (by decide) (fg_lt ly_132 (by decide)) (by omega) (rh_132g (R := R) hp3) ?_
  refine fg_aloadn (fg_ft (pc := 28) tb_Told_putDay 16 rfl) rfl ?_
  refine fg_callV (fg_ft (pc := 29) tb_Told_putDay 17 rfl) cf_Told_54 (fg_isOf ((fD_w (R := R) (fg_isD_told hp3)).1) rfl (fg_lt ((fD_w (R := R) (fg_isD_told hp3)).1) (by decide))) (as := [.ref 270]) (st := []) rfl rfl (Nat.le_of_ble_eq_true rfl) (Nat.le_refl _) (Nat.le_refl _) (ev_Rows_copyFromA (r := 133 + 2 * p) (o := 270) (fD_w (fg_isD_told hp3)) fD_270 (by omega) (by omega) ?_)
  intro ν hag hC
  show fg_wp _ _ _ _ _ _ _ _ _ (ν, fg_rho R, 304)
  refine fg_aloadn (fg_ft (pc := 32) tb_Told_putDay 18 rfl) rfl ?_
  refine fg_aloadn (fg_ft (pc := 33) tb_Told_putDay 19 rfl) rfl ?_
  refine fg_getV (v := (nI (A.dc))) (fg_ft (pc := 34) tb_Told_putDay 20 rfl) ff_Told_41 ly_101 rfl (fg_lt ly_101 (by decide)) ((hag 101 5 (by omega) (by omega)).trans hA.2.2.2.2.1.1) ?_
  refine fg_iloadn (fg_ft (pc := 37) tb_Told_putDay 21 rfl) rfl ?_
  refine fg_iconst (fg_ft (pc := 38) tb_Told_putDay 22 rfl) ic_1 ?_
  refine fg_iaddN (fg_ft (pc := 39) tb_Told_putDay 23 rfl) ?_
  refine fg_mmaxN (fg_ft (pc := 40) tb_Told_putDay 24 rfl) cf_Told_48 (Nat.le_of_ble_eq_true rfl) (by omega) (by omega) ?_
  refine fg_putI (fg_ft (pc := 43) tb_Told_putDay 25 rfl) ff_Told_41 ly_101 rfl (fg_lt ly_101 (by decide)) (fg_nokI _) (fun _ _ h => by cases h; rfl) ?_
  show fg_wp _ _ _ _ _ _ _ _ _ (fg_u2 ν 101 5 (nI (max (A.dc) (p + 1))), fg_rho R, 304)
  exact fg_vret (fg_ft (pc := 46) tb_Told_putDay 26 rfl) rfl rfl (hQ _ (fun a j h1 h2 h3 => (fg_u2nx h3).trans (hag a j h1 h2)) fg_u2eq ((fg_u2nx (by omega)).trans hC.1) ((fg_u2nx (by omega)).trans hC.2.1) (fun j hj => (fg_u2nx (by omega)).trans (hC.2.2 j hj)))
