/-! what is told, in the reference's row -/
def fg_ML (m : Nat → Int32) (A : fg_Tl) : Prop := (m 0 = nI A.tc ∧ m 1 = nI A.dc ∧ m 2 = nI A.len ∧ m 3 = nI A.fault ∧ m 4 = A.place) ∧ (∀ j, j < A.len → m (10 + j) = nI (fg_nat (A.tape j) % 256)) ∧ (∀ k, k < A.tc → fg_MT m (610 + 152 * k) (A.ts k)) ∧ ∀ k, k < A.dc → m (914 + 122 * k) = nI (A.nd k) ∧ ∀ i, i < A.nd k * 4 → m (914 + 122 * k + (1 + i)) = A.ds k (1 + i)
def fg_wA (A : fg_Tl) : Prop := A.len ≤ 600 ∧ A.tc ≤ 2 ∧ A.dc ≤ 3 ∧ (∀ k, k < A.tc → fg_ok (A.ts k)) ∧ ∀ k, k < A.dc → A.nd k ≤ 30 ∧ fg_dok (A.ds k) (A.nd k)
theorem fg_TL.wA {μ : Nat → Nat → Int32} {b : Nat} {A : fg_Tl} (h : fg_TL μ b A) : fg_wA A := ⟨h.1.2, h.2.2.2.1.2, h.2.2.2.2.1.2, fun k hk => (h.2.2.2.2.2.1 k hk).2, fun k hk => ⟨(h.2.2.2.2.2.2.1 k hk).1.2.2.1, (h.2.2.2.2.2.2.1 k hk).2⟩⟩
theorem fg_ML.ag {m m' : Nat → Int32} {A : fg_Tl} (h : fg_ML m A) (e : ∀ j, m' j = m j) : fg_ML m' A := by
  rw [show m' = m from funext e]; exact h
def fg_agA (μ μ' : Nat → Nat → Int32) : Prop := (∀ a, a ≠ 287 → a ≠ 291 → a ≠ 292 → a ≠ 293 → a ≠ 294 → ∀ j, μ' a j = μ a j) ∧ ∀ j, j ≠ 15 → j ≠ 16 → j ≠ 20 → μ' 287 j = μ 287 j
theorem fg_agA_rf (μ : Nat → Nat → Int32) : fg_agA μ μ := ⟨fun _ _ _ _ _ _ _ => rfl, fun _ _ _ _ => rfl⟩
theorem fg_agA_tr {μ μ' μ'' : Nat → Nat → Int32} (h1 : fg_agA μ μ') (h2 : fg_agA μ' μ'') : fg_agA μ μ'' := ⟨fun a a1 a2 a3 a4 a5 j => (h2.1 a a1 a2 a3 a4 a5 j).trans (h1.1 a a1 a2 a3 a4 a5 j), fun j j1 j2 j3 => (h2.2 j j1 j2 j3).trans (h1.2 j j1 j2 j3)⟩
theorem fg_agA_P {μ μ' : Nat → Nat → Int32} (h : fg_agP μ μ') : fg_agA μ μ' := ⟨fun a a1 _ a3 a4 a5 j => h.1 a a1 a3 a4 a5 j, h.2⟩
theorem fg_agA_C {μ μ' : Nat → Nat → Int32} (h : ∀ a, a ≠ 291 → ∀ j, μ' a j = μ a j) : fg_agA μ μ' := ⟨fun a _ a2 _ _ _ j => h a a2 j, fun j _ _ _ => h 287 (by decide) j⟩
theorem fg_agA.m {μ μ' : Nat → Nat → Int32} (h : fg_agA μ μ') (j : Nat) : μ' 288 j = μ 288 j := h.1 288 (by decide) (by decide) (by decide) (by decide) (by decide) j
/-- behind an asking -/
def fg_agR (μ μ' : Nat → Nat → Int32) : Prop := (∀ a, (a < 287 ∨ a = 288 ∨ a = 289) → ∀ j, μ' a j = μ a j) ∧ μ' 287 17 = μ 287 17 ∧ μ' 287 19 = μ 287 19
theorem fg_agR_rf (μ : Nat → Nat → Int32) : fg_agR μ μ := ⟨fun _ _ _ => rfl, rfl, rfl⟩
theorem fg_agR_tr {μ μ' μ'' : Nat → Nat → Int32} (h1 : fg_agR μ μ') (h2 : fg_agR μ' μ'') : fg_agR μ μ'' := ⟨fun a ha j => (h2.1 a ha j).trans (h1.1 a ha j), h2.2.1.trans h1.2.1, h2.2.2.trans h1.2.2⟩
theorem fg_agR_A {μ μ' : Nat → Nat → Int32} (h : fg_agA μ μ') : fg_agR μ μ' := ⟨fun a ha j => h.1 a (by omega) (by omega) (by omega) (by omega) (by omega) j, h.2 17 (by decide) (by decide) (by decide), h.2 19 (by decide) (by decide) (by decide)⟩
theorem fg_agR_P {μ μ' : Nat → Nat → Int32} (h : fg_agP μ μ') : fg_agR μ μ' := fg_agR_A (fg_agA_P h)
theorem fg_or0 (y : Int32) : y ||| nI 0 = y := Int32.or_zero
theorem fg_ad0 (y : Int32) : y + nI 0 = y := Int32.add_zero y
theorem fg_MS.base {μ : Nat → Nat → Int32} {T : Nat → Nat} {S : fg_H3} {lv : Nat → Nat} {o : Option Nat × Nat × Nat} {n0 y : Int32} (H : fg_MS μ T S lv o n0 y) : fg_MS μ T (S.1, (S.2.1.1, 0, 0, 0), S.2.2) lv o (μ 287 16) (μ 287 20) := by
  obtain ⟨h1, h2, h3, h4, h5, h6, h7⟩ := H
  exact ⟨h1, h2, h3, h4, (fg_ad0 _).symm, (fg_or0 _).symm, h7⟩
def fg_tst (S : fg_H3) : fg_H3 := (S.1, (S.2.1.1, 0, 0, 0), S.2.2)
theorem fg_stp_le (T : Nat → Nat) (D : Nat → Int32) : ∀ n, fg_stp T D n ≤ n := by
  intro n
  induction n with
  | zero => exact Nat.le_refl _
  | succ n ih =>
    unfold fg_stp
    split
    · exact Nat.le_refl _
    · omega
theorem ev_Mo_anew {E : fg_E} {d : Nat} {μ : Nat → Nat → Int32} {R : fg_T4} {Q : Option Value → fg_M → Prop} {v : Nat} {T : Nat → Nat} (hM : fg_MT (μ 288) v T) (hok : fg_ok T) (h17 : μ 287 17 = -1) (h19 : μ 287 19 = nI 0) (hQ : ∀ (μ' : Nat → Nat → Int32) (n0 y : Int32), fg_agA μ μ' → fg_MC μ' T → fg_MS μ' T (fg_S0 T) (fun _ => 0) ((none : Option Nat), 0, 0) n0 y → Q none (μ', fg_rho R, 304)) : fg_Ev E yy_Mo_anew (d + 3) [.ref 287, .int (nI v)] (μ, fg_rho R, 304) 304 Q := by
  have hv0 := hM.1
  have hb0 := hok.1
  have hb1 := hok.2.1
  have hp := hok.p
  have hq := Nat.two_pow_pos (T 0)
  have loop : ∀ (m p : Nat) (ν : Nat → Nat → Int32), T 2 - p < m → p ≤ T 2 → fg_agA μ ν → fg_MC ν T → ν 287 15 = nI 0 → (∀ q, q < p → ν 292 q = nI (fg_clo T (T (41 + 3 * q)))) → (∀ q, q < p → ν 293 q = nI 0) → (∀ q, q < p → ν 294 q = nI 0) → fg_wp E yy_Mo_anew (d + 3) 304 304 Q 12 [.ref 287, .int (nI v), .int (nI p)] [] (ν, fg_rho R, 304) := by
    intro m
    induction m with
    | zero => intro p ν h; exact absurd h (Nat.not_lt_zero _)
    | succ m ih =>
      intro p ν hm hp2 hag hCn h15 k1 k2 k3
      have hMn := hM.ag hag.m
      refine fg_iloadn (fg_ft (pc := 12) tb_Mo_anew 8 rfl) rfl ?_
      refine fg_aloadn (fg_ft (pc := 13) tb_Mo_anew 9 rfl) rfl ?_
      refine fg_getR (fg_ft (pc := 14) tb_Mo_anew 10 rfl) ff_Mo_7 ly_287 rfl (fg_lt ly_287 (by decide)) (rh_287_0 R) ?_
      refine fg_iloadn (fg_ft (pc := 17) tb_Mo_anew 11 rfl) rfl ?_
      refine fg_iconst (fg_ft (pc := 18) tb_Mo_anew 12 rfl) ic_2 ?_
      refine fg_iaddN (fg_ft (pc := 19) tb_Mo_anew 13 rfl) ?_
      refine fg_ialdV (v := (nI (T 2))) (fg_ft (pc := 20) tb_Mo_anew 14 rfl) ly_288 (fg_lt ly_288 (by decide)) (by omega) (fg_MTat hMn (i := v + 2) (k := 2) (by omega) (by omega)) ?_
      refine fg_icmp_geN (tgt := 62) (fg_ft (pc := 21) tb_Mo_anew 15 rfl) (by decide) (by omega) (by omega) (fun c21 => ?_) (fun c21 => ?_)
      · exact fg_vret (fg_ft (pc := 62) tb_Mo_anew 40 rfl) rfl rfl (hQ ν (ν 287 16) (ν 287 20) hag hCn ⟨h15, fun q hq => k1 q (by omega), fun q hq => k2 q (by omega), fun q hq => k3 q (by omega), (fg_ad0 _).symm, (fg_or0 _).symm, (hag.2 17 (by decide) (by decide) (by decide)).trans h17, Or.inl rfl, (hag.2 19 (by decide) (by decide) (by decide)).trans h19⟩)
      · refine fg_aloadn (fg_ft (pc := 24) tb_Mo_anew 16 rfl) rfl ?_
        refine fg_getR (fg_ft (pc := 25) tb_Mo_anew 17 rfl) ff_Mo_23 ly_287 rfl (fg_lt ly_287 (by decide)) (rh_287_12 R) ?_
        refine fg_iloadn (fg_ft (pc := 28) tb_Mo_anew 18 rfl) rfl ?_
        refine fg_aloadn (fg_ft (pc := 29) tb_Mo_anew 19 rfl) rfl ?_
        refine fg_iloadn (fg_ft (pc := 30) tb_Mo_anew 20 rfl) rfl ?_
        refine fg_aloadn (fg_ft (pc := 31) tb_Mo_anew 21 rfl) rfl ?_
        refine fg_iloadn (fg_ft (pc := 32) tb_Mo_anew 22 rfl) rfl ?_
        refine fg_iloadn (fg_ft (pc := 33) tb_Mo_anew 23 rfl) rfl ?_
        refine fg_iconst (fg_ft (pc := 34) tb_Mo_anew 24 rfl) ic_1 ?_
        refine fg_callV (fg_ft (pc := 35) tb_Mo_anew 25 rfl) cf_Mo_203 (fg_isOf ly_287 rfl (fg_lt ly_287 (by decide))) (as := [.int (nI v), .int (nI p), .int (nI 1)]) (st := [.int (nI v), .ref 287, .int (nI p), .ref 292]) rfl rfl (Nat.le_of_ble_eq_true rfl) (Nat.le_refl _) (Nat.le_refl _) (ev_Mo_kept hMn hok (p := p) (w := 1) (k := 41 + 3 * p) (by omega) (by omega) (by omega) ?_)
        refine fg_callV (fg_ft (pc := 38) tb_Mo_anew 26 rfl) cf_Mo_206 (fg_isOf ly_287 rfl (fg_lt ly_287 (by decide))) (as := [.int (nI v), .int (nI (T (41 + 3 * p)))]) (st := [.int (nI p), .ref 292]) rfl rfl (Nat.le_of_ble_eq_true rfl) (Nat.le_refl _) (Nat.le_refl _) (ev_Mo_follow hMn hok hCn (s := (T (41 + 3 * p))) ((hok.2.2.2.1 p (by omega)).2.1) ?_)
        refine fg_iastN (fg_ft (pc := 41) tb_Mo_anew 27 rfl) ly_292 (fg_lt ly_292 (by decide)) (by omega) ?_
        show fg_wp _ _ _ _ _ _ _ _ _ (fg_u2 ν 292 p (nI (fg_clo T (T (41 + 3 * p)))), fg_rho R, 304)
        refine fg_aloadn (fg_ft (pc := 42) tb_Mo_anew 28 rfl) rfl ?_
        refine fg_getR (fg_ft (pc := 43) tb_Mo_anew 29 rfl) ff_Mo_26 ly_287 rfl (fg_lt ly_287 (by decide)) (rh_287_13 R) ?_
        refine fg_iloadn (fg_ft (pc := 46) tb_Mo_anew 30 rfl) rfl ?_
        refine fg_iconst (fg_ft (pc := 47) tb_Mo_anew 31 rfl) ic_0 ?_
        refine fg_iastN (fg_ft (pc := 48) tb_Mo_anew 32 rfl) ly_293 (fg_lt ly_293 (by decide)) (by omega) ?_
        show fg_wp _ _ _ _ _ _ _ _ _ (fg_u2 (fg_u2 ν 292 p (nI (fg_clo T (T (41 + 3 * p))))) 293 p (nI 0), fg_rho R, 304)
        refine fg_aloadn (fg_ft (pc := 49) tb_Mo_anew 33 rfl) rfl ?_
        refine fg_getR (fg_ft (pc := 50) tb_Mo_anew 34 rfl) ff_Mo_29 ly_287 rfl (fg_lt ly_287 (by decide)) (rh_287_14 R) ?_
        refine fg_iloadn (fg_ft (pc := 53) tb_Mo_anew 35 rfl) rfl ?_
        refine fg_iconst (fg_ft (pc := 54) tb_Mo_anew 36 rfl) ic_0 ?_
        refine fg_iastN (fg_ft (pc := 55) tb_Mo_anew 37 rfl) ly_294 (fg_lt ly_294 (by decide)) (by omega) ?_
        show fg_wp _ _ _ _ _ _ _ _ _ (fg_u2 (fg_u2 (fg_u2 ν 292 p (nI (fg_clo T (T (41 + 3 * p))))) 293 p (nI 0)) 294 p (nI 0), fg_rho R, 304)
        refine fg_iincN (fg_ft (pc := 56) tb_Mo_anew 38 rfl) rfl ic_1 rfl ?_
        refine fg_goto (tgt := 12) (fg_ft (pc := 59) tb_Mo_anew 39 rfl) (by decide) ?_
        refine ih (p + 1) _ (by omega) (by omega) (fg_agA_tr hag (fg_agA_P (fg_agP_tr (fg_agP_tr (fg_agP_u (Or.inl rfl)) (fg_agP_u (Or.inr (Or.inl rfl)))) (fg_agP_u (Or.inr (Or.inr (Or.inl rfl))))))) (fun q hq => (fg_u2ne (by decide)).trans ((fg_u2ne (by decide)).trans ((fg_u2ne (by decide)).trans (hCn q hq)))) ((fg_u2ne (by decide)).trans ((fg_u2ne (by decide)).trans ((fg_u2ne (by decide)).trans h15))) (fun q hq => ?_) (fun q hq => ?_) (fun q hq => ?_)
        · rcases Nat.decEq q p with z | z
          · exact (fg_u2ne (by decide)).trans ((fg_u2ne (by decide)).trans ((fg_u2ns z).trans (k1 q (by omega))))
          · rw [z]; exact (fg_u2ne (by decide)).trans ((fg_u2ne (by decide)).trans (fg_u2eq))
        · rcases Nat.decEq q p with z | z
          · exact (fg_u2ne (by decide)).trans ((fg_u2ns z).trans (k2 q (by omega)))
          · rw [z]; exact (fg_u2ne (by decide)).trans (fg_u2eq)
        · rcases Nat.decEq q p with z | z
          · exact (fg_u2ns z).trans (k3 q (by omega))
          · rw [z]; exact fg_u2eq
  refine fg_intro (by decide +kernel) (Nat.le_of_ble_eq_true rfl) (fg_okAs rfl) (Nat.le_refl _) ?_
  refine fg_aloadn (fg_ft (pc := 0) tb_Mo_anew 0 rfl) rfl ?_
  refine fg_iloadn (fg_ft (pc := 1) tb_Mo_anew 1 rfl) rfl ?_
  refine fg_callV (fg_ft (pc := 2) tb_Mo_anew 2 rfl) cf_Mo_197 (fg_isOf ly_287 rfl (fg_lt ly_287 (by decide))) (as := [.int (nI v)]) (st := []) rfl rfl (Nat.le_of_ble_eq_true rfl) (Nat.le_refl _) (Nat.le_refl _) (ev_Mo_closes hM hok ?_)
  intro μ1 hc1 hC1
  show fg_wp _ _ _ _ _ _ _ _ _ (μ1, fg_rho R, 304)
  refine fg_aloadn (fg_ft (pc := 5) tb_Mo_anew 3 rfl) rfl ?_
  refine fg_iconst (fg_ft (pc := 6) tb_Mo_anew 4 rfl) ic_0 ?_
  refine fg_putI (fg_ft (pc := 7) tb_Mo_anew 5 rfl) ff_Mo_200 ly_287 rfl (fg_lt ly_287 (by decide)) (fg_nokI _) (fun _ _ h => by cases h; rfl) ?_
  show fg_wp _ _ _ _ _ _ _ _ _ (fg_u2 μ1 287 15 (nI 0), fg_rho R, 304)
  refine fg_iconst (fg_ft (pc := 10) tb_Mo_anew 6 rfl) ic_0 ?_
  refine fg_istoren (fg_ft (pc := 11) tb_Mo_anew 7 rfl) (Nat.le_of_ble_eq_true rfl) ?_
  exact loop (T 2 + 1) 0 _ (by omega) (by omega) (fg_agA_tr (fg_agA_C hc1) (fg_agA_P (fg_agP_u (Or.inr (Or.inr (Or.inr ⟨rfl, Or.inl rfl⟩)))))) (fun q hq => (fg_u2ne (by decide)).trans (hC1 q hq)) fg_u2eq (fun q hq => absurd hq (Nat.not_lt_zero _)) (fun q hq => absurd hq (Nat.not_lt_zero _)) (fun q hq => absurd hq (Nat.not_lt_zero _))
theorem ev_Mo_isOf0 {E : fg_E} {d : Nat} {μ : Nat → Nat → Int32} {R : fg_T4} {Q : Option Value → fg_M → Prop} {A : fg_Tl} (hL : fg_ML (μ 288) A) (hw : fg_wA A) {k : Nat} (hk : k < 2 ^ 32) (hQ : Q (some (.int (fg_bI (k < A.tc)))) (μ, fg_rho R, 304)) : fg_Ev E yy_Mo_isOf (d + 2) [.ref 287, .int (nI 0), .int (nI k)] (μ, fg_rho R, 304) 304 Q := by
  have ht2 := hw.2.1
  have hd3 := hw.2.2.1
  refine fg_intro (by decide +kernel) (Nat.le_of_ble_eq_true rfl) (fg_okAs rfl) (Nat.le_refl _) ?_
  refine fg_iloadn (fg_ft (pc := 0) tb_Mo_isOf 0 rfl) rfl ?_
  refine fg_iconst (fg_ft (pc := 1) tb_Mo_isOf 1 rfl) ic_0 ?_
  refine fg_aloadn (fg_ft (pc := 2) tb_Mo_isOf 2 rfl) rfl ?_
  refine fg_getR (fg_ft (pc := 3) tb_Mo_isOf 3 rfl) ff_Mo_7 ly_287 rfl (fg_lt ly_287 (by decide)) (rh_287_0 R) ?_
  refine fg_iloadn (fg_ft (pc := 6) tb_Mo_isOf 4 rfl) rfl ?_
  refine fg_ialdV (v := (nI (A.tc))) (fg_ft (pc := 7) tb_Mo_isOf 5 rfl) ly_288 (fg_lt ly_288 (by decide)) (by omega) hL.1.1 ?_
  refine fg_iconst (fg_ft (pc := 8) tb_Mo_isOf 6 rfl) ic_1 ?_
  refine fg_isub (fg_ft (pc := 9) tb_Mo_isOf 7 rfl) ?_
  refine fg_callS (fg_ft (pc := 10) tb_Mo_isOf 8 rfl) cf_Mo_110 (as := [.int (nI k), .int (nI 0), .int ((nI (A.tc)) - (nI 1))]) (st := []) rfl rfl (Nat.le_of_ble_eq_true rfl) (Nat.le_refl _) (Nat.le_refl _) (ev_Mo_isIn0 (k := k) (c := (A.tc)) (hk) (by omega) ?_)
  exact fg_zret (fg_ft (pc := 13) tb_Mo_isOf 9 rfl) rfl (fg_bN _) rfl (hQ)
theorem ev_Mo_isOf1 {E : fg_E} {d : Nat} {μ : Nat → Nat → Int32} {R : fg_T4} {Q : Option Value → fg_M → Prop} {A : fg_Tl} (hL : fg_ML (μ 288) A) (hw : fg_wA A) {k : Nat} (hk : k < 2 ^ 32) (hQ : Q (some (.int (fg_bI (k < A.dc)))) (μ, fg_rho R, 304)) : fg_Ev E yy_Mo_isOf (d + 2) [.ref 287, .int (nI 1), .int (nI k)] (μ, fg_rho R, 304) 304 Q := by
  have ht2 := hw.2.1
  have hd3 := hw.2.2.1
  refine fg_intro (by decide +kernel) (Nat.le_of_ble_eq_true rfl) (fg_okAs rfl) (Nat.le_refl _) ?_
  refine fg_iloadn (fg_ft (pc := 0) tb_Mo_isOf 0 rfl) rfl ?_
  refine fg_iconst (fg_ft (pc := 1) tb_Mo_isOf 1 rfl) ic_0 ?_
  refine fg_aloadn (fg_ft (pc := 2) tb_Mo_isOf 2 rfl) rfl ?_
  refine fg_getR (fg_ft (pc := 3) tb_Mo_isOf 3 rfl) ff_Mo_7 ly_287 rfl (fg_lt ly_287 (by decide)) (rh_287_0 R) ?_
  refine fg_iloadn (fg_ft (pc := 6) tb_Mo_isOf 4 rfl) rfl ?_
  refine fg_ialdV (v := (nI (A.dc))) (fg_ft (pc := 7) tb_Mo_isOf 5 rfl) ly_288 (fg_lt ly_288 (by decide)) (by omega) hL.1.2.1 ?_
  refine fg_iconst (fg_ft (pc := 8) tb_Mo_isOf 6 rfl) ic_1 ?_
  refine fg_isub (fg_ft (pc := 9) tb_Mo_isOf 7 rfl) ?_
  refine fg_callS (fg_ft (pc := 10) tb_Mo_isOf 8 rfl) cf_Mo_110 (as := [.int (nI k), .int (nI 0), .int ((nI (A.dc)) - (nI 1))]) (st := []) rfl rfl (Nat.le_of_ble_eq_true rfl) (Nat.le_refl _) (Nat.le_refl _) (ev_Mo_isIn0 (k := k) (c := (A.dc)) (hk) (by omega) ?_)
  exact fg_zret (fg_ft (pc := 13) tb_Mo_isOf 9 rfl) rfl (fg_bN _) rfl (hQ)
theorem ev_Mo_runs {E : fg_E} {d : Nat} {μ : Nat → Nat → Int32} {R : fg_T4} {Q : Option Value → fg_M → Prop} {v : Nat} {T : Nat → Nat} (hM : fg_MT (μ 288) v T) (hok : fg_ok T) (h17 : μ 287 17 = -1) (h19 : μ 287 19 = nI 0) {A : fg_Tl} (hL : fg_ML (μ 288) A) (hw : fg_wA A) {day most : Nat} (hday : day < A.dc) (hmost : most < 2 ^ 31) (hQ : ∀ (μ' : Nat → Nat → Int32) (S : fg_H3) (lv : Nat → Nat) (n0 y : Int32), fg_agA μ μ' → fg_MC μ' T → fg_runs T (A.ds day) (fg_stp T (A.ds day) (min most (A.nd day))) = some (S, lv) → fg_MS μ' T S lv ((none : Option Nat), 0, 0) n0 y → Q (some (.int (nI (fg_stp T (A.ds day) (min most (A.nd day)))))) (μ', fg_rho R, 304)) : fg_Ev E yy_Mo_runs (d + 6) [.ref 287, .int (nI v), .int (nI day), .int (nI most)] (μ, fg_rho R, 304) 304 Q := by
  have hv0 := hM.1
  have hb0 := hok.1
  have hb1 := hok.2.1
  have hp := hok.p
  have hq := Nat.two_pow_pos (T 0)
  have hd3 := hw.2.2.1
  have hn30 := (hw.2.2.2.2 day hday).1
  have hdk := (hw.2.2.2.2 day hday).2
  have loop : ∀ (m n : Nat) (S : fg_H3) (lv : Nat → Nat) (ν : Nat → Nat → Int32) (n0 y : Int32), A.nd day - n < m → n ≤ A.nd day → n ≤ most → fg_agA μ ν → fg_MC ν T → fg_runs T (A.ds day) n = some (S, lv) → fg_MS ν T S lv ((none : Option Nat), 0, 0) n0 y → fg_wp E yy_Mo_runs (d + 6) 304 304 Q 15 [.ref 287, .int (nI v), .int (nI day), .int (nI most), .int (nI (914 + 122 * day)), .int (nI n)] [] (ν, fg_rho R, 304) := by
    intro m
    induction m with
    | zero => intro n S lv ν n0 y h; exact absurd h (Nat.not_lt_zero _)
    | succ m ih =>
      intro n S lv ν n0 y hm hn hnm hag hCn hrun hN
      have hMn := hM.ag hag.m
      have hLn := hL.ag hag.m
      have hnd := (hLn.2.2.2 day hday).1
      have hcell := (hLn.2.2.2 day hday).2
      refine fg_iload (fg_ft (pc := 15) tb_Mo_runs 9 rfl) rfl ?_
      refine fg_iloadn (fg_ft (pc := 17) tb_Mo_runs 10 rfl) rfl ?_
      refine fg_icmp_geN (tgt := 56) (fg_ft (pc := 18) tb_Mo_runs 11 rfl) (by decide) (by omega) (by omega) (fun c18 => ?_) (fun c18 => ?_)
      · refine fg_iload (fg_ft (pc := 56) tb_Mo_runs 31 rfl) rfl ?_
        exact fg_iret (fg_ft (pc := 58) tb_Mo_runs 32 rfl) rfl rfl (by
  have er : fg_stp T (A.ds day) (min most (A.nd day)) = n := by
    first
      | (rw [show min most (A.nd day) = n by omega]; exact fg_stp_some hrun)
      | (have e9 := fg_stp_none zz (min most (A.nd day) - n); rw [show n + (min most (A.nd day) - n) = min most (A.nd day) by omega, fg_stp_some hrun] at e9; exact e9)
  have q9 := hQ ν S lv n0 y hag hCn (by rw [er]; exact hrun) hN
  rw [er] at q9
  exact q9)
      · refine fg_iload (fg_ft (pc := 21) tb_Mo_runs 12 rfl) rfl ?_
        refine fg_aloadn (fg_ft (pc := 23) tb_Mo_runs 13 rfl) rfl ?_
        refine fg_getR (fg_ft (pc := 24) tb_Mo_runs 14 rfl) ff_Mo_7 ly_287 rfl (fg_lt ly_287 (by decide)) (rh_287_0 R) ?_
        refine fg_iload (fg_ft (pc := 27) tb_Mo_runs 15 rfl) rfl ?_
        refine fg_ialdV (v := (nI (A.nd day))) (fg_ft (pc := 29) tb_Mo_runs 16 rfl) ly_288 (fg_lt ly_288 (by decide)) (by omega) hnd ?_
        refine fg_icmp_geN (tgt := 56) (fg_ft (pc := 30) tb_Mo_runs 17 rfl) (by decide) (by omega) (by omega) (fun c30 => ?_) (fun c30 => ?_)
        · refine fg_iload (fg_ft (pc := 56) tb_Mo_runs 31 rfl) rfl ?_
          exact fg_iret (fg_ft (pc := 58) tb_Mo_runs 32 rfl) rfl rfl (by
  have er : fg_stp T (A.ds day) (min most (A.nd day)) = n := by
    first
      | (rw [show min most (A.nd day) = n by omega]; exact fg_stp_some hrun)
      | (have e9 := fg_stp_none zz (min most (A.nd day) - n); rw [show n + (min most (A.nd day) - n) = min most (A.nd day) by omega, fg_stp_some hrun] at e9; exact e9)
  have q9 := hQ ν S lv n0 y hag hCn (by rw [er]; exact hrun) hN
  rw [er] at q9
  exact q9)
        · refine fg_aloadn (fg_ft (pc := 33) tb_Mo_runs 18 rfl) rfl ?_
          refine fg_iloadn (fg_ft (pc := 34) tb_Mo_runs 19 rfl) rfl ?_
          refine fg_iload (fg_ft (pc := 35) tb_Mo_runs 20 rfl) rfl ?_
          refine fg_iconst (fg_ft (pc := 37) tb_Mo_runs 21 rfl) ic_1 ?_
          refine fg_iaddN (fg_ft (pc := 38) tb_Mo_runs 22 rfl) ?_
          refine fg_iconst (fg_ft (pc := 39) tb_Mo_runs 23 rfl) ic_4 ?_
          refine fg_iload (fg_ft (pc := 40) tb_Mo_runs 24 rfl) rfl ?_
          refine fg_imulN (fg_ft (pc := 42) tb_Mo_runs 25 rfl) ?_
          refine fg_iaddN (fg_ft (pc := 43) tb_Mo_runs 26 rfl) ?_
          refine fg_callV (fg_ft (pc := 44) tb_Mo_runs 27 rfl) cf_Mo_243 (fg_isOf ly_287 rfl (fg_lt ly_287 (by decide))) (as := [.int (nI v), .int (nI (((914 + 122 * day) + 1) + (4 * n)))]) (st := []) rfl rfl (Nat.le_of_ble_eq_true rfl) (Nat.le_refl _) (Nat.le_refl _) (ev_Mo_does hMn hok hCn (h := S.1) (Z := S.2.1) (hv := S.2.2) (lv := lv) (o := ((none : Option Nat), 0, 0)) (n0 := n0) (y := y) hN (fg_runs_ok hok n S lv hrun) (fun q hq => by cases hq) (by decide) (by decide) (dd := 914 + 122 * day + 1 + 4 * n) (by omega) (D := A.ds day) (k := n) (hdk.ac (by omega)) (fun i hi => by rw [show 914 + 122 * day + 1 + 4 * n + i = 914 + 122 * day + (1 + (n * 4 + i)) by omega]; exact hcell (n * 4 + i) (by omega)) (fun z0 => ?_) (fun S' lv' z1 μ2 n2 hag2 hN2 => ?_))
          · have zz := (fg_runs_some hrun).trans z0
            refine fg_if_eq (tgt := 56) (fg_ft (pc := 47) tb_Mo_runs 28 rfl) (by decide) (fun _ => ?_) (fun h => absurd h (by decide))
            refine fg_iload (fg_ft (pc := 56) tb_Mo_runs 31 rfl) rfl ?_
            exact fg_iret (fg_ft (pc := 58) tb_Mo_runs 32 rfl) rfl rfl (by
  have er : fg_stp T (A.ds day) (min most (A.nd day)) = n := by
    first
      | (rw [show min most (A.nd day) = n by omega]; exact fg_stp_some hrun)
      | (have e9 := fg_stp_none zz (min most (A.nd day) - n); rw [show n + (min most (A.nd day) - n) = min most (A.nd day) by omega, fg_stp_some hrun] at e9; exact e9)
  have q9 := hQ ν S lv n0 y hag hCn (by rw [er]; exact hrun) hN
  rw [er] at q9
  exact q9)
          · have zz := (fg_runs_some hrun).trans z1
            refine fg_if_eq (tgt := 56) (fg_ft (pc := 47) tb_Mo_runs 28 rfl) (by decide) (fun h => absurd h (by decide)) (fun _ => ?_)
            refine fg_iincN (fg_ft (pc := 50) tb_Mo_runs 29 rfl) rfl ic_1 rfl ?_
            refine fg_goto (tgt := 15) (fg_ft (pc := 53) tb_Mo_runs 30 rfl) (by decide) ?_
            exact ih (n + 1) S' lv' μ2 n2 y (by omega) (by omega) (by omega) (fg_agA_tr hag (fg_agA_P hag2)) (hCn.agP hag2) zz hN2
  refine fg_intro (by decide +kernel) (Nat.le_of_ble_eq_true rfl) (fg_okAs rfl) (Nat.le_refl _) ?_
  refine fg_aloadn (fg_ft (pc := 0) tb_Mo_runs 0 rfl) rfl ?_
  refine fg_iloadn (fg_ft (pc := 1) tb_Mo_runs 1 rfl) rfl ?_
  refine fg_callV (fg_ft (pc := 2) tb_Mo_runs 2 rfl) cf_Mo_240 (fg_isOf ly_287 rfl (fg_lt ly_287 (by decide))) (as := [.int (nI v)]) (st := []) rfl rfl (Nat.le_of_ble_eq_true rfl) (Nat.le_refl _) (Nat.le_refl _) (ev_Mo_anew hM hok h17 h19 ?_)
  intro μ1 n1 y1 hag1 hC1 hS1
  show fg_wp _ _ _ _ _ _ _ _ _ (μ1, fg_rho R, 304)
  refine fg_iconst (fg_ft (pc := 5) tb_Mo_runs 3 rfl) ic_1 ?_
  refine fg_iloadn (fg_ft (pc := 6) tb_Mo_runs 4 rfl) rfl ?_
  refine fg_callS (fg_ft (pc := 7) tb_Mo_runs 5 rfl) cf_Mo_166 (as := [.int (nI 1), .int (nI day)]) (st := []) rfl rfl (Nat.le_of_ble_eq_true rfl) (Nat.le_refl _) (Nat.le_refl _) (ev_Mo_placeOf1 (k := day) ?_)
  refine fg_istore (fg_ft (pc := 10) tb_Mo_runs 6 rfl) (Nat.le_of_ble_eq_true rfl) ?_
  refine fg_iconst (fg_ft (pc := 12) tb_Mo_runs 7 rfl) ic_0 ?_
  refine fg_istore (fg_ft (pc := 13) tb_Mo_runs 8 rfl) (Nat.le_of_ble_eq_true rfl) ?_
  exact loop (A.nd day + 1) 0 (fg_S0 T) (fun _ => 0) μ1 n1 y1 (by omega) (by omega) (by omega) hag1 hC1 rfl hS1
