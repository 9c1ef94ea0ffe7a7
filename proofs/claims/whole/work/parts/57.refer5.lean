theorem fg_o_some {o : Option Nat} {p : Nat} (hp : p < 2 ^ 31) (ho : ∀ q, o = some q → q < 2 ^ 31) (h : nI p = fg_o o) : o = some p := by
  cases o with
  | none => exact absurd h (fg_nIm1 hp)
  | some q =>
    have h9 : nI p = nI q := h
    rw [nI_eq hp (ho q rfl)] at h9
    rw [h9]
theorem fg_ph9 {T : Nat → Nat} {o : Option Nat × Nat × Nat} {S : fg_H3} (h : S.1 < 9) : fg_ph T o S = (S.1 + 1, (if S.1 + 1 = 9 then fg_hz T S.2.2 (fg_Zm T o (S.1 + 1) S.2.1) (T 2) else fg_Zm T o (S.1 + 1) S.2.1), if S.1 + 1 = 9 then fg_h0 S.2.2 (T 2) else S.2.2) := by
  obtain ⟨hh, Z, hv⟩ := S
  by_cases e : hh + 1 = 9
  · rw [fg_ph_9 e]
    show _ = (hh + 1, (if hh + 1 = 9 then fg_hz T hv (fg_Zm T o (hh + 1) Z) (T 2) else fg_Zm T o (hh + 1) Z), if hh + 1 = 9 then fg_h0 hv (T 2) else hv)
    rw [if_pos e, if_pos e]
  · have h : hh < 9 := h
    rw [fg_ph_lt (by omega)]
    show _ = (hh + 1, (if hh + 1 = 9 then fg_hz T hv (fg_Zm T o (hh + 1) Z) (T 2) else fg_Zm T o (hh + 1) Z), if hh + 1 = 9 then fg_h0 hv (T 2) else hv)
    rw [if_neg e, if_neg e]
theorem fg_sz_lr {T : Nat → Nat} {h p n : Nat} {Z : fg_Z} (e : T (55 + 2 * n) = h) : fg_sz T h p Z (n + 1) = fg_lr T h p (T (56 + 2 * n)) (fg_sz T h p Z n) := by
  simp only [fg_sz]
  unfold fg_lr
  by_cases b : ((fg_sz T h p Z n).1 p).testBit (T (56 + 2 * n)) = true
  · rw [if_pos b, if_neg (fun hh => by rw [b] at hh; exact absurd hh.2 (by decide))]
  · rw [if_neg b, if_pos ⟨e, by simpa using b⟩]
theorem fg_sz_no {T : Nat → Nat} {h p n : Nat} {Z : fg_Z} (e : ¬ T (55 + 2 * n) = h) : fg_sz T h p Z (n + 1) = fg_sz T h p Z n := by
  simp only [fg_sz]
  rw [if_neg (fun hh => e hh.1)]
theorem fg_oz_yes {T : Nat → Nat} {h n : Nat} {o : Option Nat × Nat × Nat} {Z : fg_Z} (hc : (fg_df (T (42 + 3 * n)) (if nI n = fg_o o.1 then o.2.1 else 0)).testBit h = true) : fg_oz T h o Z (n + 1) = fg_sz T h n (fg_oz T h o Z n) (T 3) := by
  simp only [fg_oz]
  rw [if_pos hc]
theorem fg_oz_no {T : Nat → Nat} {h n : Nat} {o : Option Nat × Nat × Nat} {Z : fg_Z} (hc : ¬ (fg_df (T (42 + 3 * n)) (if nI n = fg_o o.1 then o.2.1 else 0)).testBit h = true) : fg_oz T h o Z (n + 1) = fg_oz T h o Z n := by
  simp only [fg_oz]
  rw [if_neg hc]
theorem fg_mz_no {T : Nat → Nat} {h sh n : Nat} {Z : fg_Z} (e : ¬ ((T (81 + 4 * n) = h ∧ sh.testBit n = false) ∧ ((fg_mz T h sh Z n).1 (T (79 + 4 * n))).testBit (T (82 + 4 * n)) = true)) : fg_mz T h sh Z (n + 1) = fg_mz T h sh Z n := by
  simp only [fg_mz]
  rw [if_neg (fun hh => e ⟨hh.1, hh.2.1⟩)]
theorem fg_mz_yes {T : Nat → Nat} {h sh n : Nat} {Z : fg_Z} (e : (T (81 + 4 * n) = h ∧ sh.testBit n = false) ∧ ((fg_mz T h sh Z n).1 (T (79 + 4 * n))).testBit (T (82 + 4 * n)) = true) : fg_mz T h sh Z (n + 1) = fg_lr T h (T (80 + 4 * n)) (T (82 + 4 * n)) ((fg_mz T h sh Z n).1, (fg_mz T h sh Z n).2.1, (fg_mz T h sh Z n).2.2.1, if ((fg_mz T h sh Z n).1 (T (80 + 4 * n))).testBit (T (82 + 4 * n)) = true then (fg_mz T h sh Z n).2.2.2 else (fg_mz T h sh Z n).2.2.2 ||| 2 ^ n) := by
  by_cases b : ((fg_mz T h sh Z n).1 (T (80 + 4 * n))).testBit (T (82 + 4 * n)) = true
  · rw [if_pos b]
    unfold fg_lr
    rw [if_pos (show (((fg_mz T h sh Z n).1, (fg_mz T h sh Z n).2.1, (fg_mz T h sh Z n).2.2.1, (fg_mz T h sh Z n).2.2.2).1 (T (80 + 4 * n))).testBit (T (82 + 4 * n)) = true from b)]
    simp only [fg_mz]
    rw [if_neg (fun hh => by rw [b] at hh; exact absurd hh.2.2 (by decide))]
  · rw [if_neg b]
    unfold fg_lr
    rw [if_neg (show ¬ (((fg_mz T h sh Z n).1, (fg_mz T h sh Z n).2.1, (fg_mz T h sh Z n).2.2.1, (fg_mz T h sh Z n).2.2.2 ||| 2 ^ n).1 (T (80 + 4 * n))).testBit (T (82 + 4 * n)) = true from b)]
    simp only [fg_mz]
    rw [if_pos ⟨e.1, e.2, by simpa using b⟩]
theorem ev_Mo_passHour {E : fg_E} {d : Nat} {μ : Nat → Nat → Int32} {R : fg_T4} {Q : Option Value → fg_M → Prop} {v : Nat} {T : Nat → Nat} (hM : fg_MT (μ 288) v T) (hok : fg_ok T) (hC : fg_MC μ T) {n0 y : Int32} {o : Option Nat × Nat × Nat} {h : Nat} {Z : fg_Z} {hv lv : Nat → Nat} (hS : fg_MS μ T (h, Z, hv) lv o n0 y) (hz : fg_zok T h Z hv) (ho1 : ∀ q, o.1 = some q → q < 2 ^ 31) (ho2 : o.2.1 < 2 ^ 31) (ho3 : o.2.2 < 2 ^ 31) (hh : h < 9) (hQ : ∀ μ' : Nat → Nat → Int32, fg_agP μ μ' → fg_MS μ' T (fg_ph T o (h, Z, hv)) lv o n0 y → Q none (μ', fg_rho R, 304)) : fg_Ev E yy_Mo_passHour (d + 4) [.ref 287, .int (nI v)] (μ, fg_rho R, 304) 304 Q := by
  have hv0 := hM.1
  have hb0 := hok.1
  have hb1 := hok.2.1
  have hp := hok.p
  have hq := Nat.two_pow_pos (T 0)
  have hh9 : h + 1 ≤ 9 := by omega
  have signs : ∀ (p : Nat), p < T 2 → (∀ (ν : Nat → Nat → Int32) (v3 : Value), fg_agP μ ν → fg_MS ν T (h + 1, (fg_sz T (h + 1) p (fg_oz T (h + 1) o Z p) (T 3)), hv) lv o n0 y → fg_wp E yy_Mo_passHour (d + 4) 304 304 Q 128 [.ref 287, .int (nI v), .int (nI p), v3] [] (ν, fg_rho R, 304)) → ∀ (m q : Nat) (ν : Nat → Nat → Int32), T 3 - q < m → q ≤ T 3 → fg_agP μ ν → fg_MS ν T (h + 1, (fg_sz T (h + 1) p (fg_oz T (h + 1) o Z p) q), hv) lv o n0 y → fg_wp E yy_Mo_passHour (d + 4) 304 304 Q 69 [.ref 287, .int (nI v), .int (nI p), .int (nI q)] [] (ν, fg_rho R, 304) := by
    intro p hpT hk m
    induction m with
    | zero => intro q ν h; exact absurd h (Nat.not_lt_zero _)
    | succ m ih =>
      intro q ν hm hq hag hN
      have hMn := hM.agP hag
      have hCn := hC.agP hag
      have hzo := fg_zok.oz hok (⟨hh9, hz.2⟩ : fg_zok T (h + 1) Z hv) (o := o) p (by omega)
      have hzn := fg_zok.sz hok hzo hpT q hq
      refine fg_iloadn (fg_ft (pc := 69) tb_Mo_passHour 43 rfl) rfl ?_
      refine fg_aloadn (fg_ft (pc := 70) tb_Mo_passHour 44 rfl) rfl ?_
      refine fg_getR (fg_ft (pc := 71) tb_Mo_passHour 45 rfl) ff_Mo_7 ly_287 rfl (fg_lt ly_287 (by decide)) (rh_287_0 R) ?_
      refine fg_iloadn (fg_ft (pc := 74) tb_Mo_passHour 46 rfl) rfl ?_
      refine fg_iconst (fg_ft (pc := 75) tb_Mo_passHour 47 rfl) ic_3 ?_
      refine fg_iaddN (fg_ft (pc := 76) tb_Mo_passHour 48 rfl) ?_
      refine fg_ialdV (v := (nI (T 3))) (fg_ft (pc := 77) tb_Mo_passHour 49 rfl) ly_288 (fg_lt ly_288 (by decide)) (by omega) (fg_MTat hMn (i := v + 3) (k := 3) (by omega) (by omega)) ?_
      refine fg_icmp_geN (tgt := 128) (fg_ft (pc := 78) tb_Mo_passHour 50 rfl) (by decide) (by omega) (by omega) (fun c78 => ?_) (fun c78 => ?_)
      · exact hk ν _ hag (by rw [show T 3 = q by omega]; exact hN)
      · refine fg_aloadn (fg_ft (pc := 81) tb_Mo_passHour 51 rfl) rfl ?_
        refine fg_getR (fg_ft (pc := 82) tb_Mo_passHour 52 rfl) ff_Mo_7 ly_287 rfl (fg_lt ly_287 (by decide)) (rh_287_0 R) ?_
        refine fg_iloadn (fg_ft (pc := 85) tb_Mo_passHour 53 rfl) rfl ?_
        refine fg_bipush (fg_ft (pc := 86) tb_Mo_passHour 54 rfl) ib_55 ?_
        refine fg_iaddN (fg_ft (pc := 88) tb_Mo_passHour 55 rfl) ?_
        refine fg_iconst (fg_ft (pc := 89) tb_Mo_passHour 56 rfl) ic_2 ?_
        refine fg_iloadn (fg_ft (pc := 90) tb_Mo_passHour 57 rfl) rfl ?_
        refine fg_imulN (fg_ft (pc := 91) tb_Mo_passHour 58 rfl) ?_
        refine fg_iaddN (fg_ft (pc := 92) tb_Mo_passHour 59 rfl) ?_
        refine fg_ialdV (v := (nI (T (55 + 2 * q)))) (fg_ft (pc := 93) tb_Mo_passHour 60 rfl) ly_288 (fg_lt ly_288 (by decide)) (by omega) (fg_MTat hMn (i := (v + 55) + (2 * q)) (k := 55 + 2 * q) (by omega) (by omega)) ?_
        refine fg_aloadn (fg_ft (pc := 94) tb_Mo_passHour 61 rfl) rfl ?_
        refine fg_getV (v := (nI (h + 1))) (fg_ft (pc := 95) tb_Mo_passHour 62 rfl) ff_Mo_200 ly_287 rfl (fg_lt ly_287 (by decide)) hN.1 ?_
        refine fg_icmp_neN (tgt := 122) (fg_ft (pc := 98) tb_Mo_passHour 63 rfl) (by decide) (by have := (hok.2.2.2.2.1 q (by omega)).1; omega) (by omega) (fun c98 => ?_) (fun c98 => ?_)
        · refine fg_iincN (fg_ft (pc := 122) tb_Mo_passHour 80 rfl) rfl ic_1 rfl ?_
          refine fg_goto (tgt := 69) (fg_ft (pc := 125) tb_Mo_passHour 81 rfl) (by decide) ?_
          exact ih (q + 1) ν (by omega) (by omega) hag (by rw [fg_sz_no c98]; exact hN)
        · refine fg_aloadn (fg_ft (pc := 101) tb_Mo_passHour 64 rfl) rfl ?_
          refine fg_iloadn (fg_ft (pc := 102) tb_Mo_passHour 65 rfl) rfl ?_
          refine fg_iloadn (fg_ft (pc := 103) tb_Mo_passHour 66 rfl) rfl ?_
          refine fg_aloadn (fg_ft (pc := 104) tb_Mo_passHour 67 rfl) rfl ?_
          refine fg_getR (fg_ft (pc := 105) tb_Mo_passHour 68 rfl) ff_Mo_7 ly_287 rfl (fg_lt ly_287 (by decide)) (rh_287_0 R) ?_
          refine fg_iloadn (fg_ft (pc := 108) tb_Mo_passHour 69 rfl) rfl ?_
          refine fg_bipush (fg_ft (pc := 109) tb_Mo_passHour 70 rfl) ib_55 ?_
          refine fg_iaddN (fg_ft (pc := 111) tb_Mo_passHour 71 rfl) ?_
          refine fg_iconst (fg_ft (pc := 112) tb_Mo_passHour 72 rfl) ic_2 ?_
          refine fg_iloadn (fg_ft (pc := 113) tb_Mo_passHour 73 rfl) rfl ?_
          refine fg_imulN (fg_ft (pc := 114) tb_Mo_passHour 74 rfl) ?_
          refine fg_iaddN (fg_ft (pc := 115) tb_Mo_passHour 75 rfl) ?_
          refine fg_iconst (fg_ft (pc := 116) tb_Mo_passHour 76 rfl) ic_1 ?_
          refine fg_iaddN (fg_ft (pc := 117) tb_Mo_passHour 77 rfl) ?_
          refine fg_ialdV (v := (nI (T (56 + 2 * q)))) (fg_ft (pc := 118) tb_Mo_passHour 78 rfl) ly_288 (fg_lt ly_288 (by decide)) (by omega) (fg_MTat hMn (i := ((v + 55) + (2 * q)) + 1) (k := 56 + 2 * q) (by omega) (by omega)) ?_
          refine fg_callV (fg_ft (pc := 119) tb_Mo_passHour 79 rfl) cf_Mo_218 (fg_isOf ly_287 rfl (fg_lt ly_287 (by decide))) (as := [.int (nI v), .int (nI p), .int (nI (T (56 + 2 * q)))]) (st := []) rfl rfl (Nat.le_of_ble_eq_true rfl) (Nat.le_refl _) (Nat.le_refl _) (ev_Mo_learn hMn hok hCn (o := o) (lv := lv) (n0 := n0) (y := y) (h := h + 1) (Z := (fg_sz T (h + 1) p (fg_oz T (h + 1) o Z p) q)) (hv := hv) hN hzn (p := p) (f := (T (56 + 2 * q))) (hpT) ((hok.2.2.2.2.1 q (by omega)).2) ?_)
          intro μ2 hag2 hN2
          show fg_wp _ _ _ _ _ _ _ _ _ (μ2, fg_rho R, 304)
          refine fg_iincN (fg_ft (pc := 122) tb_Mo_passHour 80 rfl) rfl ic_1 rfl ?_
          refine fg_goto (tgt := 69) (fg_ft (pc := 125) tb_Mo_passHour 81 rfl) (by decide) ?_
          exact ih (q + 1) μ2 (by omega) (by omega) (fg_agP_tr hag hag2) (by rw [fg_sz_lr c98]; exact hN2)
  have people : (∀ (ν : Nat → Nat → Int32) (v2 v3 : Value), fg_agP μ ν → fg_MS ν T (h + 1, (fg_oz T (h + 1) o Z (T 2)), hv) lv o n0 y → fg_wp E yy_Mo_passHour (d + 4) 304 304 Q 134 [.ref 287, .int (nI v), v2, v3] [] (ν, fg_rho R, 304)) → ∀ (m p : Nat) (ν : Nat → Nat → Int32) (v3 : Value), T 2 - p < m → p ≤ T 2 → fg_agP μ ν → fg_MS ν T (h + 1, (fg_oz T (h + 1) o Z p), hv) lv o n0 y → fg_wp E yy_Mo_passHour (d + 4) 304 304 Q 12 [.ref 287, .int (nI v), .int (nI p), v3] [] (ν, fg_rho R, 304) := by
    intro hk m
    induction m with
    | zero => intro p ν v3 h; exact absurd h (Nat.not_lt_zero _)
    | succ m ih =>
      intro p ν v3 hm hp2 hag hN
      have hMn := hM.agP hag
      have hCn := hC.agP hag
      have hzn := fg_zok.oz hok (⟨hh9, hz.2⟩ : fg_zok T (h + 1) Z hv) (o := o) p hp2
      refine fg_iloadn (fg_ft (pc := 12) tb_Mo_passHour 8 rfl) rfl ?_
      refine fg_aloadn (fg_ft (pc := 13) tb_Mo_passHour 9 rfl) rfl ?_
      refine fg_getR (fg_ft (pc := 14) tb_Mo_passHour 10 rfl) ff_Mo_7 ly_287 rfl (fg_lt ly_287 (by decide)) (rh_287_0 R) ?_
      refine fg_iloadn (fg_ft (pc := 17) tb_Mo_passHour 11 rfl) rfl ?_
      refine fg_iconst (fg_ft (pc := 18) tb_Mo_passHour 12 rfl) ic_2 ?_
      refine fg_iaddN (fg_ft (pc := 19) tb_Mo_passHour 13 rfl) ?_
      refine fg_ialdV (v := (nI (T 2))) (fg_ft (pc := 20) tb_Mo_passHour 14 rfl) ly_288 (fg_lt ly_288 (by decide)) (by omega) (fg_MTat hMn (i := v + 2) (k := 2) (by omega) (by omega)) ?_
      refine fg_icmp_geN (tgt := 134) (fg_ft (pc := 21) tb_Mo_passHour 15 rfl) (by decide) (by omega) (by omega) (fun c21 => ?_) (fun c21 => ?_)
      · exact hk ν _ _ hag (by rw [show T 2 = p by omega]; exact hN)
      · refine fg_aloadn (fg_ft (pc := 24) tb_Mo_passHour 16 rfl) rfl ?_
        refine fg_iloadn (fg_ft (pc := 25) tb_Mo_passHour 17 rfl) rfl ?_
        refine fg_iloadn (fg_ft (pc := 26) tb_Mo_passHour 18 rfl) rfl ?_
        refine fg_iconst (fg_ft (pc := 27) tb_Mo_passHour 19 rfl) ic_2 ?_
        refine fg_callV (fg_ft (pc := 28) tb_Mo_passHour 20 rfl) cf_Mo_203 (fg_isOf ly_287 rfl (fg_lt ly_287 (by decide))) (as := [.int (nI v), .int (nI p), .int (nI 2)]) (st := []) rfl rfl (Nat.le_of_ble_eq_true rfl) (Nat.le_refl _) (Nat.le_refl _) (ev_Mo_kept hMn hok (p := p) (w := 2) (k := 42 + 3 * p) (by omega) (by omega) (by omega) ?_)
        refine fg_aloadn (fg_ft (pc := 31) tb_Mo_passHour 21 rfl) rfl ?_
        refine fg_getV (v := (nI (h + 1))) (fg_ft (pc := 32) tb_Mo_passHour 22 rfl) ff_Mo_200 ly_287 rfl (fg_lt ly_287 (by decide)) hN.1 ?_
        refine fg_ishrN (fg_ft (pc := 35) tb_Mo_passHour 23 rfl) (by have := (hok.2.2.2.1 p (by omega)).2.2; omega) (by omega) ?_
        refine fg_iconst (fg_ft (pc := 36) tb_Mo_passHour 24 rfl) ic_1 ?_
        refine fg_iandN (fg_ft (pc := 37) tb_Mo_passHour 25 rfl) ?_
        refine fg_ifbit_eq (tgt := 128) (fg_ft (pc := 38) tb_Mo_passHour 26 rfl) (by decide) (fun c38 => ?_) (fun c38 => ?_)
        · refine fg_iincN (fg_ft (pc := 128) tb_Mo_passHour 82 rfl) rfl ic_1 rfl ?_
          refine fg_goto (tgt := 12) (fg_ft (pc := 131) tb_Mo_passHour 83 rfl) (by decide) ?_
          exact ih (p + 1) ν _ (by omega) (by omega) hag (by rw [fg_oz_no (fun hh => by rw [fg_df_bit] at hh; first | (rw [c38] at hh; cases hh) | (rw [if_pos c46, c61] at hh; revert hh; cases (T (42 + 3 * p)).testBit (h + 1) <;> decide))]; exact hN)
        · refine fg_iloadn (fg_ft (pc := 41) tb_Mo_passHour 27 rfl) rfl ?_
          refine fg_aloadn (fg_ft (pc := 42) tb_Mo_passHour 28 rfl) rfl ?_
          refine fg_getV (v := (fg_o o.1)) (fg_ft (pc := 43) tb_Mo_passHour 29 rfl) ff_Mo_32 ly_287 rfl (fg_lt ly_287 (by decide)) hN.2.2.2.2.2.2.1 ?_
          refine fg_icmp_ne (tgt := 67) (fg_ft (pc := 46) tb_Mo_passHour 30 rfl) (by decide) (fun c46 => ?_) (fun c46 => ?_)
          · refine fg_iconst (fg_ft (pc := 67) tb_Mo_passHour 41 rfl) ic_0 ?_
            refine fg_istoren (fg_ft (pc := 68) tb_Mo_passHour 42 rfl) (Nat.le_of_ble_eq_true rfl) ?_
            exact signs p (by omega) (fun ν' v3' hag' hN' => by
              refine fg_iincN (fg_ft (pc := 128) tb_Mo_passHour 82 rfl) rfl ic_1 rfl ?_
              refine fg_goto (tgt := 12) (fg_ft (pc := 131) tb_Mo_passHour 83 rfl) (by decide) ?_
              exact ih (p + 1) ν' _ (by omega) (by omega) hag' (by rw [(fg_oz_yes (by rw [fg_df_bit, c38]; first | (rw [if_neg c46, Nat.zero_testBit]; rfl) | (rw [if_pos c46, c61]; rfl)))]; exact hN')) (T 3 + 1) 0 ν (by omega) (by omega) hag hN
          · have hos := fg_o_some (by omega) ho1 c46
            have hin : ν 287 18 = nI o.2.1 := hN.2.2.2.2.2.2.2.1.elim (fun z => by rw [z] at hos; cases hos) id
            refine fg_aloadn (fg_ft (pc := 49) tb_Mo_passHour 31 rfl) rfl ?_
            refine fg_getV (v := (nI (o.2.1))) (fg_ft (pc := 50) tb_Mo_passHour 32 rfl) ff_Mo_215 ly_287 rfl (fg_lt ly_287 (by decide)) hin ?_
            refine fg_aloadn (fg_ft (pc := 53) tb_Mo_passHour 33 rfl) rfl ?_
            refine fg_getV (v := (nI (h + 1))) (fg_ft (pc := 54) tb_Mo_passHour 34 rfl) ff_Mo_200 ly_287 rfl (fg_lt ly_287 (by decide)) hN.1 ?_
            refine fg_ishrN (fg_ft (pc := 57) tb_Mo_passHour 35 rfl) (ho2) (by omega) ?_
            refine fg_iconst (fg_ft (pc := 58) tb_Mo_passHour 36 rfl) ic_1 ?_
            refine fg_iandN (fg_ft (pc := 59) tb_Mo_passHour 37 rfl) ?_
            refine fg_iconst (fg_ft (pc := 60) tb_Mo_passHour 38 rfl) ic_1 ?_
            refine fg_icmpbit_ne (tgt := 67) (fg_ft (pc := 61) tb_Mo_passHour 39 rfl) (by decide) (fun c61 => ?_) (fun c61 => ?_)
            · refine fg_iconst (fg_ft (pc := 67) tb_Mo_passHour 41 rfl) ic_0 ?_
              refine fg_istoren (fg_ft (pc := 68) tb_Mo_passHour 42 rfl) (Nat.le_of_ble_eq_true rfl) ?_
              exact signs p (by omega) (fun ν' v3' hag' hN' => by
                refine fg_iincN (fg_ft (pc := 128) tb_Mo_passHour 82 rfl) rfl ic_1 rfl ?_
                refine fg_goto (tgt := 12) (fg_ft (pc := 131) tb_Mo_passHour 83 rfl) (by decide) ?_
                exact ih (p + 1) ν' _ (by omega) (by omega) hag' (by rw [(fg_oz_yes (by rw [fg_df_bit, c38]; first | (rw [if_neg c46, Nat.zero_testBit]; rfl) | (rw [if_pos c46, c61]; rfl)))]; exact hN')) (T 3 + 1) 0 ν (by omega) (by omega) hag hN
            · refine fg_goto (tgt := 128) (fg_ft (pc := 64) tb_Mo_passHour 40 rfl) (by decide) ?_
              refine fg_iincN (fg_ft (pc := 128) tb_Mo_passHour 82 rfl) rfl ic_1 rfl ?_
              refine fg_goto (tgt := 12) (fg_ft (pc := 131) tb_Mo_passHour 83 rfl) (by decide) ?_
              exact ih (p + 1) ν _ (by omega) (by omega) hag (by rw [fg_oz_no (fun hh => by rw [fg_df_bit] at hh; first | (rw [c38] at hh; cases hh) | (rw [if_pos c46, c61] at hh; revert hh; cases (T (42 + 3 * p)).testBit (h + 1) <;> decide))]; exact hN)
  have meets : (∀ (ν : Nat → Nat → Int32) (v2 v3 : Value), fg_agP μ ν → fg_MS ν T (h + 1, (fg_mz T (h + 1) o.2.2 (fg_oz T (h + 1) o Z (T 2)) (T 4)), hv) lv o n0 y → fg_wp E yy_Mo_passHour (d + 4) 304 304 Q 274 [.ref 287, .int (nI v), v2, v3] [] (ν, fg_rho R, 304)) → ∀ (m q : Nat) (ν : Nat → Nat → Int32) (v3 : Value), T 4 - q < m → q ≤ T 4 → fg_agP μ ν → fg_MS ν T (h + 1, (fg_mz T (h + 1) o.2.2 (fg_oz T (h + 1) o Z (T 2)) q), hv) lv o n0 y → fg_wp E yy_Mo_passHour (d + 4) 304 304 Q 136 [.ref 287, .int (nI v), .int (nI q), v3] [] (ν, fg_rho R, 304) := by
    intro hk m
    induction m with
    | zero => intro q ν v3 h; exact absurd h (Nat.not_lt_zero _)
    | succ m ih =>
      intro q ν v3 hm hq4 hag hN
      have hMn := hM.agP hag
      have hCn := hC.agP hag
      have hzo := fg_zok.oz hok (⟨hh9, hz.2⟩ : fg_zok T (h + 1) Z hv) (o := o) (T 2) (Nat.le_refl _)
      have hzn := fg_zok.mz hok hzo (sh := o.2.2) q hq4
      refine fg_iloadn (fg_ft (pc := 136) tb_Mo_passHour 86 rfl) rfl ?_
      refine fg_aloadn (fg_ft (pc := 137) tb_Mo_passHour 87 rfl) rfl ?_
      refine fg_getR (fg_ft (pc := 138) tb_Mo_passHour 88 rfl) ff_Mo_7 ly_287 rfl (fg_lt ly_287 (by decide)) (rh_287_0 R) ?_
      refine fg_iloadn (fg_ft (pc := 141) tb_Mo_passHour 89 rfl) rfl ?_
      refine fg_iconst (fg_ft (pc := 142) tb_Mo_passHour 90 rfl) ic_4 ?_
      refine fg_iaddN (fg_ft (pc := 143) tb_Mo_passHour 91 rfl) ?_
      refine fg_ialdV (v := (nI (T 4))) (fg_ft (pc := 144) tb_Mo_passHour 92 rfl) ly_288 (fg_lt ly_288 (by decide)) (by omega) (fg_MTat hMn (i := v + 4) (k := 4) (by omega) (by omega)) ?_
      refine fg_icmp_geN (tgt := 274) (fg_ft (pc := 145) tb_Mo_passHour 93 rfl) (by decide) (by omega) (by omega) (fun c145 => ?_) (fun c145 => ?_)
      · exact hk ν _ _ hag (by rw [show T 4 = q by omega]; exact hN)
      · obtain ⟨gm1, gm2, gm3, gm4⟩ := hok.2.2.2.2.2.1 q (by omega)
        refine fg_iloadn (fg_ft (pc := 148) tb_Mo_passHour 94 rfl) rfl ?_
        refine fg_bipush (fg_ft (pc := 149) tb_Mo_passHour 95 rfl) ib_79 ?_
        refine fg_iaddN (fg_ft (pc := 151) tb_Mo_passHour 96 rfl) ?_
        refine fg_iconst (fg_ft (pc := 152) tb_Mo_passHour 97 rfl) ic_4 ?_
        refine fg_iloadn (fg_ft (pc := 153) tb_Mo_passHour 98 rfl) rfl ?_
        refine fg_imulN (fg_ft (pc := 154) tb_Mo_passHour 99 rfl) ?_
        refine fg_iaddN (fg_ft (pc := 155) tb_Mo_passHour 100 rfl) ?_
        refine fg_istoren (fg_ft (pc := 156) tb_Mo_passHour 101 rfl) (Nat.le_of_ble_eq_true rfl) ?_
        refine fg_aloadn (fg_ft (pc := 157) tb_Mo_passHour 102 rfl) rfl ?_
        refine fg_getR (fg_ft (pc := 158) tb_Mo_passHour 103 rfl) ff_Mo_7 ly_287 rfl (fg_lt ly_287 (by decide)) (rh_287_0 R) ?_
        refine fg_iloadn (fg_ft (pc := 161) tb_Mo_passHour 104 rfl) rfl ?_
        refine fg_iconst (fg_ft (pc := 162) tb_Mo_passHour 105 rfl) ic_2 ?_
        refine fg_iaddN (fg_ft (pc := 163) tb_Mo_passHour 106 rfl) ?_
        refine fg_ialdV (v := (nI (T (81 + 4 * q)))) (fg_ft (pc := 164) tb_Mo_passHour 107 rfl) ly_288 (fg_lt ly_288 (by decide)) (by omega) (fg_MTat hMn (i := ((v + 79) + (4 * q)) + 2) (k := 81 + 4 * q) (by omega) (by omega)) ?_
        refine fg_aloadn (fg_ft (pc := 165) tb_Mo_passHour 108 rfl) rfl ?_
        refine fg_getV (v := (nI (h + 1))) (fg_ft (pc := 166) tb_Mo_passHour 109 rfl) ff_Mo_200 ly_287 rfl (fg_lt ly_287 (by decide)) hN.1 ?_
        refine fg_icmp_neN (tgt := 268) (fg_ft (pc := 169) tb_Mo_passHour 110 rfl) (by decide) (by omega) (by omega) (fun c169 => ?_) (fun c169 => ?_)
        · refine fg_iincN (fg_ft (pc := 268) tb_Mo_passHour 173 rfl) rfl ic_1 rfl ?_
          refine fg_goto (tgt := 136) (fg_ft (pc := 271) tb_Mo_passHour 174 rfl) (by decide) ?_
          exact ih (q + 1) ν _ (by omega) (by omega) hag (by rw [fg_mz_no (fun hh => by first | exact c169 hh.1.1 | exact absurd hh.1.2 (by rw [c181]; decide) | exact c202 hh.2)]; exact hN)
        · refine fg_aloadn (fg_ft (pc := 172) tb_Mo_passHour 111 rfl) rfl ?_
          refine fg_getV (v := (nI (o.2.2))) (fg_ft (pc := 173) tb_Mo_passHour 112 rfl) ff_Mo_221 ly_287 rfl (fg_lt ly_287 (by decide)) hN.2.2.2.2.2.2.2.2 ?_
          refine fg_iloadn (fg_ft (pc := 176) tb_Mo_passHour 113 rfl) rfl ?_
          refine fg_ishrN (fg_ft (pc := 177) tb_Mo_passHour 114 rfl) (ho3) (by omega) ?_
          refine fg_iconst (fg_ft (pc := 178) tb_Mo_passHour 115 rfl) ic_1 ?_
          refine fg_iandN (fg_ft (pc := 179) tb_Mo_passHour 116 rfl) ?_
          refine fg_iconst (fg_ft (pc := 180) tb_Mo_passHour 117 rfl) ic_1 ?_
          refine fg_icmpbit_eq (tgt := 268) (fg_ft (pc := 181) tb_Mo_passHour 118 rfl) (by decide) (fun c181 => ?_) (fun c181 => ?_)
          · refine fg_iincN (fg_ft (pc := 268) tb_Mo_passHour 173 rfl) rfl ic_1 rfl ?_
            refine fg_goto (tgt := 136) (fg_ft (pc := 271) tb_Mo_passHour 174 rfl) (by decide) ?_
            exact ih (q + 1) ν _ (by omega) (by omega) hag (by rw [fg_mz_no (fun hh => by first | exact c169 hh.1.1 | exact absurd hh.1.2 (by rw [c181]; decide) | exact c202 hh.2)]; exact hN)
          · refine fg_aloadn (fg_ft (pc := 184) tb_Mo_passHour 119 rfl) rfl ?_
            refine fg_aloadn (fg_ft (pc := 185) tb_Mo_passHour 120 rfl) rfl ?_
            refine fg_getR (fg_ft (pc := 186) tb_Mo_passHour 121 rfl) ff_Mo_7 ly_287 rfl (fg_lt ly_287 (by decide)) (rh_287_0 R) ?_
            refine fg_iloadn (fg_ft (pc := 189) tb_Mo_passHour 122 rfl) rfl ?_
            refine fg_ialdV (v := (nI (T (79 + 4 * q)))) (fg_ft (pc := 190) tb_Mo_passHour 123 rfl) ly_288 (fg_lt ly_288 (by decide)) (by omega) (fg_MTat hMn (i := (v + 79) + (4 * q)) (k := 79 + 4 * q) (by omega) (by omega)) ?_
            refine fg_aloadn (fg_ft (pc := 191) tb_Mo_passHour 124 rfl) rfl ?_
            refine fg_getR (fg_ft (pc := 192) tb_Mo_passHour 125 rfl) ff_Mo_7 ly_287 rfl (fg_lt ly_287 (by decide)) (rh_287_0 R) ?_
            refine fg_iloadn (fg_ft (pc := 195) tb_Mo_passHour 126 rfl) rfl ?_
            refine fg_iconst (fg_ft (pc := 196) tb_Mo_passHour 127 rfl) ic_3 ?_
            refine fg_iaddN (fg_ft (pc := 197) tb_Mo_passHour 128 rfl) ?_
            refine fg_ialdV (v := (nI (T (82 + 4 * q)))) (fg_ft (pc := 198) tb_Mo_passHour 129 rfl) ly_288 (fg_lt ly_288 (by decide)) (by omega) (fg_MTat hMn (i := ((v + 79) + (4 * q)) + 3) (k := 82 + 4 * q) (by omega) (by omega)) ?_
            refine fg_callV (fg_ft (pc := 199) tb_Mo_passHour 130 rfl) cf_Mo_212 (fg_isOf ly_287 rfl (fg_lt ly_287 (by decide))) (as := [.int (nI (T (79 + 4 * q))), .int (nI (T (82 + 4 * q)))]) (st := []) rfl rfl (Nat.le_of_ble_eq_true rfl) (Nat.le_refl _) (Nat.le_refl _) (ev_Mo_knows (Mv := (fg_mz T (h + 1) o.2.2 (fg_oz T (h + 1) o Z (T 2)) q).1) (T := T) (hN.2.1) (p := (T (79 + 4 * q))) (f := (T (82 + 4 * q))) (gm1) (by omega) (fg_km hok hzn (gm1)) ?_)
            refine fg_ifB_ne (tgt := 208) (fg_ft (pc := 202) tb_Mo_passHour 131 rfl) (by decide) (fun c202 => ?_) (fun c202 => ?_)
            · refine fg_aloadn (fg_ft (pc := 208) tb_Mo_passHour 133 rfl) rfl ?_
              refine fg_dup (fg_ft (pc := 209) tb_Mo_passHour 134 rfl) rfl ?_
              refine fg_getV (v := (y ||| nI (fg_mz T (h + 1) o.2.2 (fg_oz T (h + 1) o Z (T 2)) q).2.2.2)) (fg_ft (pc := 210) tb_Mo_passHour 135 rfl) ff_Mo_224 ly_287 rfl (fg_lt ly_287 (by decide)) hN.2.2.2.2.2.1 ?_
              refine fg_aloadn (fg_ft (pc := 213) tb_Mo_passHour 136 rfl) rfl ?_
              refine fg_aloadn (fg_ft (pc := 214) tb_Mo_passHour 137 rfl) rfl ?_
              refine fg_getR (fg_ft (pc := 215) tb_Mo_passHour 138 rfl) ff_Mo_7 ly_287 rfl (fg_lt ly_287 (by decide)) (rh_287_0 R) ?_
              refine fg_iloadn (fg_ft (pc := 218) tb_Mo_passHour 139 rfl) rfl ?_
              refine fg_iconst (fg_ft (pc := 219) tb_Mo_passHour 140 rfl) ic_1 ?_
              refine fg_iaddN (fg_ft (pc := 220) tb_Mo_passHour 141 rfl) ?_
              refine fg_ialdV (v := (nI (T (80 + 4 * q)))) (fg_ft (pc := 221) tb_Mo_passHour 142 rfl) ly_288 (fg_lt ly_288 (by decide)) (by omega) (fg_MTat hMn (i := ((v + 79) + (4 * q)) + 1) (k := 80 + 4 * q) (by omega) (by omega)) ?_
              refine fg_aloadn (fg_ft (pc := 222) tb_Mo_passHour 143 rfl) rfl ?_
              refine fg_getR (fg_ft (pc := 223) tb_Mo_passHour 144 rfl) ff_Mo_7 ly_287 rfl (fg_lt ly_287 (by decide)) (rh_287_0 R) ?_
              refine fg_iloadn (fg_ft (pc := 226) tb_Mo_passHour 145 rfl) rfl ?_
              refine fg_iconst (fg_ft (pc := 227) tb_Mo_passHour 146 rfl) ic_3 ?_
              refine fg_iaddN (fg_ft (pc := 228) tb_Mo_passHour 147 rfl) ?_
              refine fg_ialdV (v := (nI (T (82 + 4 * q)))) (fg_ft (pc := 229) tb_Mo_passHour 148 rfl) ly_288 (fg_lt ly_288 (by decide)) (by omega) (fg_MTat hMn (i := ((v + 79) + (4 * q)) + 3) (k := 82 + 4 * q) (by omega) (by omega)) ?_
              refine fg_callV (fg_ft (pc := 230) tb_Mo_passHour 149 rfl) cf_Mo_212 (fg_isOf ly_287 rfl (fg_lt ly_287 (by decide))) (as := [.int (nI (T (80 + 4 * q))), .int (nI (T (82 + 4 * q)))]) (st := [.int (y ||| nI (fg_mz T (h + 1) o.2.2 (fg_oz T (h + 1) o Z (T 2)) q).2.2.2), .ref 287]) rfl rfl (Nat.le_of_ble_eq_true rfl) (Nat.le_refl _) (Nat.le_refl _) (ev_Mo_knows (Mv := (fg_mz T (h + 1) o.2.2 (fg_oz T (h + 1) o Z (T 2)) q).1) (T := T) (hN.2.1) (p := (T (80 + 4 * q))) (f := (T (82 + 4 * q))) (gm2) (by omega) (fg_km hok hzn (gm2)) ?_)
              refine fg_ifB_eq (tgt := 240) (fg_ft (pc := 233) tb_Mo_passHour 150 rfl) (by decide) (fun c233 => ?_) (fun c233 => ?_)
              · refine fg_iconst (fg_ft (pc := 240) tb_Mo_passHour 153 rfl) ic_1 ?_
                refine fg_iloadn (fg_ft (pc := 241) tb_Mo_passHour 154 rfl) rfl ?_
                refine fg_ishl1 (fg_ft (pc := 242) tb_Mo_passHour 155 rfl) (by omega) ?_
                refine fg_ior (fg_ft (pc := 243) tb_Mo_passHour 156 rfl) ?_
                refine fg_putI (fg_ft (pc := 244) tb_Mo_passHour 157 rfl) ff_Mo_224 ly_287 rfl (fg_lt ly_287 (by decide)) (fg_nokI _) (fun _ _ h => by cases h; rfl) ?_
                show fg_wp _ _ _ _ _ _ _ _ _ (fg_u2 ν 287 20 ((y ||| nI (fg_mz T (h + 1) o.2.2 (fg_oz T (h + 1) o Z (T 2)) q).2.2.2) ||| (nI (2 ^ q))), fg_rho R, 304)
                have hag1 : fg_agP ν (fg_u2 ν 287 20 ((y ||| nI (fg_mz T (h + 1) o.2.2 (fg_oz T (h + 1) o Z (T 2)) q).2.2.2) ||| (nI (2 ^ q)))) := fg_agP_u (Or.inr (Or.inr (Or.inr ⟨rfl, Or.inr (Or.inr rfl)⟩)))
                have hN1 : fg_MS (fg_u2 ν 287 20 ((y ||| nI (fg_mz T (h + 1) o.2.2 (fg_oz T (h + 1) o Z (T 2)) q).2.2.2) ||| (nI (2 ^ q)))) T (h + 1, ((fg_mz T (h + 1) o.2.2 (fg_oz T (h + 1) o Z (T 2)) q).1, (fg_mz T (h + 1) o.2.2 (fg_oz T (h + 1) o Z (T 2)) q).2.1, (fg_mz T (h + 1) o.2.2 (fg_oz T (h + 1) o Z (T 2)) q).2.2.1, if ((fg_mz T (h + 1) o.2.2 (fg_oz T (h + 1) o Z (T 2)) q).1 (T (80 + 4 * q))).testBit (T (82 + 4 * q)) = true then (fg_mz T (h + 1) o.2.2 (fg_oz T (h + 1) o Z (T 2)) q).2.2.2 else (fg_mz T (h + 1) o.2.2 (fg_oz T (h + 1) o Z (T 2)) q).2.2.2 ||| 2 ^ q), hv) lv o n0 y := fg_MS.slot hN (S' := (h + 1, ((fg_mz T (h + 1) o.2.2 (fg_oz T (h + 1) o Z (T 2)) q).1, (fg_mz T (h + 1) o.2.2 (fg_oz T (h + 1) o Z (T 2)) q).2.1, (fg_mz T (h + 1) o.2.2 (fg_oz T (h + 1) o Z (T 2)) q).2.2.1, if ((fg_mz T (h + 1) o.2.2 (fg_oz T (h + 1) o Z (T 2)) q).1 (T (80 + 4 * q))).testBit (T (82 + 4 * q)) = true then (fg_mz T (h + 1) o.2.2 (fg_oz T (h + 1) o Z (T 2)) q).2.2.2 else (fg_mz T (h + 1) o.2.2 (fg_oz T (h + 1) o Z (T 2)) q).2.2.2 ||| 2 ^ q), hv)) rfl rfl (Or.inr (Or.inr ⟨rfl, rfl, rfl, by
                  show _ = y ||| nI (if _ then _ else _)
                  first
                    | (rw [if_pos c233, fg_hd, Nat.or_zero])
                    | (rw [if_neg c233, fg_hd])⟩))
                refine fg_aloadn (fg_ft (pc := 247) tb_Mo_passHour 158 rfl) rfl ?_
                refine fg_iloadn (fg_ft (pc := 248) tb_Mo_passHour 159 rfl) rfl ?_
                refine fg_aloadn (fg_ft (pc := 249) tb_Mo_passHour 160 rfl) rfl ?_
                refine fg_getR (fg_ft (pc := 250) tb_Mo_passHour 161 rfl) ff_Mo_7 ly_287 rfl (fg_lt ly_287 (by decide)) (rh_287_0 R) ?_
                refine fg_iloadn (fg_ft (pc := 253) tb_Mo_passHour 162 rfl) rfl ?_
                refine fg_iconst (fg_ft (pc := 254) tb_Mo_passHour 163 rfl) ic_1 ?_
                refine fg_iaddN (fg_ft (pc := 255) tb_Mo_passHour 164 rfl) ?_
                refine fg_ialdV (v := (nI (T (80 + 4 * q)))) (fg_ft (pc := 256) tb_Mo_passHour 165 rfl) ly_288 (fg_lt ly_288 (by decide)) (by omega) ((fg_u2ne (f := ν) (a := 287) (k := 20) (b := 288) (j := ((v + 79) + (4 * q)) + 1) (x := ((y ||| nI (fg_mz T (h + 1) o.2.2 (fg_oz T (h + 1) o Z (T 2)) q).2.2.2) ||| (nI (2 ^ q)))) (by decide)).trans (fg_MTat hMn (i := ((v + 79) + (4 * q)) + 1) (k := 80 + 4 * q) (by omega) (by omega))) ?_
                refine fg_aloadn (fg_ft (pc := 257) tb_Mo_passHour 166 rfl) rfl ?_
                refine fg_getR (fg_ft (pc := 258) tb_Mo_passHour 167 rfl) ff_Mo_7 ly_287 rfl (fg_lt ly_287 (by decide)) (rh_287_0 R) ?_
                refine fg_iloadn (fg_ft (pc := 261) tb_Mo_passHour 168 rfl) rfl ?_
                refine fg_iconst (fg_ft (pc := 262) tb_Mo_passHour 169 rfl) ic_3 ?_
                refine fg_iaddN (fg_ft (pc := 263) tb_Mo_passHour 170 rfl) ?_
                refine fg_ialdV (v := (nI (T (82 + 4 * q)))) (fg_ft (pc := 264) tb_Mo_passHour 171 rfl) ly_288 (fg_lt ly_288 (by decide)) (by omega) ((fg_u2ne (f := ν) (a := 287) (k := 20) (b := 288) (j := ((v + 79) + (4 * q)) + 3) (x := ((y ||| nI (fg_mz T (h + 1) o.2.2 (fg_oz T (h + 1) o Z (T 2)) q).2.2.2) ||| (nI (2 ^ q)))) (by decide)).trans (fg_MTat hMn (i := ((v + 79) + (4 * q)) + 3) (k := 82 + 4 * q) (by omega) (by omega))) ?_
                refine fg_callV (fg_ft (pc := 265) tb_Mo_passHour 172 rfl) cf_Mo_218 (fg_isOf ly_287 rfl (fg_lt ly_287 (by decide))) (as := [.int (nI v), .int (nI (T (80 + 4 * q))), .int (nI (T (82 + 4 * q)))]) (st := []) rfl rfl (Nat.le_of_ble_eq_true rfl) (Nat.le_refl _) (Nat.le_refl _) (ev_Mo_learn (hMn.agP hag1) hok (hCn.agP hag1) (o := o) (lv := lv) (n0 := n0) (y := y) (h := h + 1) (Z := ((fg_mz T (h + 1) o.2.2 (fg_oz T (h + 1) o Z (T 2)) q).1, (fg_mz T (h + 1) o.2.2 (fg_oz T (h + 1) o Z (T 2)) q).2.1, (fg_mz T (h + 1) o.2.2 (fg_oz T (h + 1) o Z (T 2)) q).2.2.1, if ((fg_mz T (h + 1) o.2.2 (fg_oz T (h + 1) o Z (T 2)) q).1 (T (80 + 4 * q))).testBit (T (82 + 4 * q)) = true then (fg_mz T (h + 1) o.2.2 (fg_oz T (h + 1) o Z (T 2)) q).2.2.2 else (fg_mz T (h + 1) o.2.2 (fg_oz T (h + 1) o Z (T 2)) q).2.2.2 ||| 2 ^ q)) (hv := hv) hN1 (fg_zok.news hzn) (p := (T (80 + 4 * q))) (f := (T (82 + 4 * q))) (gm2) (gm4) ?_)
                intro μ2 hag2 hN2
                show fg_wp _ _ _ _ _ _ _ _ _ (μ2, fg_rho R, 304)
                refine fg_iincN (fg_ft (pc := 268) tb_Mo_passHour 173 rfl) rfl ic_1 rfl ?_
                refine fg_goto (tgt := 136) (fg_ft (pc := 271) tb_Mo_passHour 174 rfl) (by decide) ?_
                exact ih (q + 1) μ2 _ (by omega) (by omega) (fg_agP_tr hag (fg_agP_tr hag1 hag2)) (by rw [fg_mz_yes ⟨⟨c169, c181⟩, c202⟩]; exact hN2)
              · refine fg_iconst (fg_ft (pc := 236) tb_Mo_passHour 151 rfl) ic_0 ?_
                refine fg_goto (tgt := 243) (fg_ft (pc := 237) tb_Mo_passHour 152 rfl) (by decide) ?_
                refine fg_ior (fg_ft (pc := 243) tb_Mo_passHour 156 rfl) ?_
                refine fg_putI (fg_ft (pc := 244) tb_Mo_passHour 157 rfl) ff_Mo_224 ly_287 rfl (fg_lt ly_287 (by decide)) (fg_nokI _) (fun _ _ h => by cases h; rfl) ?_
                show fg_wp _ _ _ _ _ _ _ _ _ (fg_u2 ν 287 20 ((y ||| nI (fg_mz T (h + 1) o.2.2 (fg_oz T (h + 1) o Z (T 2)) q).2.2.2) ||| (nI 0)), fg_rho R, 304)
                have hag1 : fg_agP ν (fg_u2 ν 287 20 ((y ||| nI (fg_mz T (h + 1) o.2.2 (fg_oz T (h + 1) o Z (T 2)) q).2.2.2) ||| (nI 0))) := fg_agP_u (Or.inr (Or.inr (Or.inr ⟨rfl, Or.inr (Or.inr rfl)⟩)))
                have hN1 : fg_MS (fg_u2 ν 287 20 ((y ||| nI (fg_mz T (h + 1) o.2.2 (fg_oz T (h + 1) o Z (T 2)) q).2.2.2) ||| (nI 0))) T (h + 1, ((fg_mz T (h + 1) o.2.2 (fg_oz T (h + 1) o Z (T 2)) q).1, (fg_mz T (h + 1) o.2.2 (fg_oz T (h + 1) o Z (T 2)) q).2.1, (fg_mz T (h + 1) o.2.2 (fg_oz T (h + 1) o Z (T 2)) q).2.2.1, if ((fg_mz T (h + 1) o.2.2 (fg_oz T (h + 1) o Z (T 2)) q).1 (T (80 + 4 * q))).testBit (T (82 + 4 * q)) = true then (fg_mz T (h + 1) o.2.2 (fg_oz T (h + 1) o Z (T 2)) q).2.2.2 else (fg_mz T (h + 1) o.2.2 (fg_oz T (h + 1) o Z (T 2)) q).2.2.2 ||| 2 ^ q), hv) lv o n0 y := fg_MS.slot hN (S' := (h + 1, ((fg_mz T (h + 1) o.2.2 (fg_oz T (h + 1) o Z (T 2)) q).1, (fg_mz T (h + 1) o.2.2 (fg_oz T (h + 1) o Z (T 2)) q).2.1, (fg_mz T (h + 1) o.2.2 (fg_oz T (h + 1) o Z (T 2)) q).2.2.1, if ((fg_mz T (h + 1) o.2.2 (fg_oz T (h + 1) o Z (T 2)) q).1 (T (80 + 4 * q))).testBit (T (82 + 4 * q)) = true then (fg_mz T (h + 1) o.2.2 (fg_oz T (h + 1) o Z (T 2)) q).2.2.2 else (fg_mz T (h + 1) o.2.2 (fg_oz T (h + 1) o Z (T 2)) q).2.2.2 ||| 2 ^ q), hv)) rfl rfl (Or.inr (Or.inr ⟨rfl, rfl, rfl, by
                  show _ = y ||| nI (if _ then _ else _)
                  first
                    | (rw [if_pos c233, fg_hd, Nat.or_zero])
                    | (rw [if_neg c233, fg_hd])⟩))
                refine fg_aloadn (fg_ft (pc := 247) tb_Mo_passHour 158 rfl) rfl ?_
                refine fg_iloadn (fg_ft (pc := 248) tb_Mo_passHour 159 rfl) rfl ?_
                refine fg_aloadn (fg_ft (pc := 249) tb_Mo_passHour 160 rfl) rfl ?_
                refine fg_getR (fg_ft (pc := 250) tb_Mo_passHour 161 rfl) ff_Mo_7 ly_287 rfl (fg_lt ly_287 (by decide)) (rh_287_0 R) ?_
                refine fg_iloadn (fg_ft (pc := 253) tb_Mo_passHour 162 rfl) rfl ?_
                refine fg_iconst (fg_ft (pc := 254) tb_Mo_passHour 163 rfl) ic_1 ?_
                refine fg_iaddN (fg_ft (pc := 255) tb_Mo_passHour 164 rfl) ?_
                refine fg_ialdV (v := (nI (T (80 + 4 * q)))) (fg_ft (pc := 256) tb_Mo_passHour 165 rfl) ly_288 (fg_lt ly_288 (by decide)) (by omega) ((fg_u2ne (f := ν) (a := 287) (k := 20) (b := 288) (j := ((v + 79) + (4 * q)) + 1) (x := ((y ||| nI (fg_mz T (h + 1) o.2.2 (fg_oz T (h + 1) o Z (T 2)) q).2.2.2) ||| (nI 0))) (by decide)).trans (fg_MTat hMn (i := ((v + 79) + (4 * q)) + 1) (k := 80 + 4 * q) (by omega) (by omega))) ?_
                refine fg_aloadn (fg_ft (pc := 257) tb_Mo_passHour 166 rfl) rfl ?_
                refine fg_getR (fg_ft (pc := 258) tb_Mo_passHour 167 rfl) ff_Mo_7 ly_287 rfl (fg_lt ly_287 (by decide)) (rh_287_0 R) ?_
                refine fg_iloadn (fg_ft (pc := 261) tb_Mo_passHour 168 rfl) rfl ?_
                refine fg_iconst (fg_ft (pc := 262) tb_Mo_passHour 169 rfl) ic_3 ?_
                refine fg_iaddN (fg_ft (pc := 263) tb_Mo_passHour 170 rfl) ?_
                refine fg_ialdV (v := (nI (T (82 + 4 * q)))) (fg_ft (pc := 264) tb_Mo_passHour 171 rfl) ly_288 (fg_lt ly_288 (by decide)) (by omega) ((fg_u2ne (f := ν) (a := 287) (k := 20) (b := 288) (j := ((v + 79) + (4 * q)) + 3) (x := ((y ||| nI (fg_mz T (h + 1) o.2.2 (fg_oz T (h + 1) o Z (T 2)) q).2.2.2) ||| (nI 0))) (by decide)).trans (fg_MTat hMn (i := ((v + 79) + (4 * q)) + 3) (k := 82 + 4 * q) (by omega) (by omega))) ?_
                refine fg_callV (fg_ft (pc := 265) tb_Mo_passHour 172 rfl) cf_Mo_218 (fg_isOf ly_287 rfl (fg_lt ly_287 (by decide))) (as := [.int (nI v), .int (nI (T (80 + 4 * q))), .int (nI (T (82 + 4 * q)))]) (st := []) rfl rfl (Nat.le_of_ble_eq_true rfl) (Nat.le_refl _) (Nat.le_refl _) (ev_Mo_learn (hMn.agP hag1) hok (hCn.agP hag1) (o := o) (lv := lv) (n0 := n0) (y := y) (h := h + 1) (Z := ((fg_mz T (h + 1) o.2.2 (fg_oz T (h + 1) o Z (T 2)) q).1, (fg_mz T (h + 1) o.2.2 (fg_oz T (h + 1) o Z (T 2)) q).2.1, (fg_mz T (h + 1) o.2.2 (fg_oz T (h + 1) o Z (T 2)) q).2.2.1, if ((fg_mz T (h + 1) o.2.2 (fg_oz T (h + 1) o Z (T 2)) q).1 (T (80 + 4 * q))).testBit (T (82 + 4 * q)) = true then (fg_mz T (h + 1) o.2.2 (fg_oz T (h + 1) o Z (T 2)) q).2.2.2 else (fg_mz T (h + 1) o.2.2 (fg_oz T (h + 1) o Z (T 2)) q).2.2.2 ||| 2 ^ q)) (hv := hv) hN1 (fg_zok.news hzn) (p := (T (80 + 4 * q))) (f := (T (82 + 4 * q))) (gm2) (gm4) ?_)
                intro μ2 hag2 hN2
                show fg_wp _ _ _ _ _ _ _ _ _ (μ2, fg_rho R, 304)
                refine fg_iincN (fg_ft (pc := 268) tb_Mo_passHour 173 rfl) rfl ic_1 rfl ?_
                refine fg_goto (tgt := 136) (fg_ft (pc := 271) tb_Mo_passHour 174 rfl) (by decide) ?_
                exact ih (q + 1) μ2 _ (by omega) (by omega) (fg_agP_tr hag (fg_agP_tr hag1 hag2)) (by rw [fg_mz_yes ⟨⟨c169, c181⟩, c202⟩]; exact hN2)
            · refine fg_goto (tgt := 268) (fg_ft (pc := 205) tb_Mo_passHour 132 rfl) (by decide) ?_
              refine fg_iincN (fg_ft (pc := 268) tb_Mo_passHour 173 rfl) rfl ic_1 rfl ?_
              refine fg_goto (tgt := 136) (fg_ft (pc := 271) tb_Mo_passHour 174 rfl) (by decide) ?_
              exact ih (q + 1) ν _ (by omega) (by omega) hag (by rw [fg_mz_no (fun hh => by first | exact c169 hh.1.1 | exact absurd hh.1.2 (by rw [c181]; decide) | exact c202 hh.2)]; exact hN)
  have eve : h + 1 = 9 → ∀ (m p : Nat) (ν : Nat → Nat → Int32) (v3 : Value), T 2 - p < m → p ≤ T 2 → fg_agP μ ν → fg_MS ν T (h + 1, (fg_hz T hv (fg_Zm T o (h + 1) Z) p), (fg_h0 hv p)) lv o n0 y → fg_wp E yy_Mo_passHour (d + 4) 304 304 Q 286 [.ref 287, .int (nI v), .int (nI p), v3] [] (ν, fg_rho R, 304) := by
    intro h9 m
    induction m with
    | zero => intro p ν v3 h; exact absurd h (Nat.not_lt_zero _)
    | succ m ih =>
      intro p ν v3 hm hp2 hag hN
      have hMn := hM.agP hag
      have hCn := hC.agP hag
      have hzm : fg_zok T 9 (fg_Zm T o (h + 1) Z) hv := by
        have q9 := fg_zok.mz hok (fg_zok.oz hok (⟨hh9, hz.2⟩ : fg_zok T (h + 1) Z hv) (o := o) (T 2) (Nat.le_refl _)) (sh := o.2.2) (T 4) (Nat.le_refl _)
        exact ⟨Nat.le_refl _, q9.2⟩
      have hzn := fg_zok.hz hok hzm p hp2
      refine fg_iloadn (fg_ft (pc := 286) tb_Mo_passHour 182 rfl) rfl ?_
      refine fg_aloadn (fg_ft (pc := 287) tb_Mo_passHour 183 rfl) rfl ?_
      refine fg_getR (fg_ft (pc := 288) tb_Mo_passHour 184 rfl) ff_Mo_7 ly_287 rfl (fg_lt ly_287 (by decide)) (rh_287_0 R) ?_
      refine fg_iloadn (fg_ft (pc := 291) tb_Mo_passHour 185 rfl) rfl ?_
      refine fg_iconst (fg_ft (pc := 292) tb_Mo_passHour 186 rfl) ic_2 ?_
      refine fg_iaddN (fg_ft (pc := 293) tb_Mo_passHour 187 rfl) ?_
      refine fg_ialdV (v := (nI (T 2))) (fg_ft (pc := 294) tb_Mo_passHour 188 rfl) ly_288 (fg_lt ly_288 (by decide)) (by omega) (fg_MTat hMn (i := v + 2) (k := 2) (by omega) (by omega)) ?_
      refine fg_icmp_geN (tgt := 335) (fg_ft (pc := 295) tb_Mo_passHour 189 rfl) (by decide) (by omega) (by omega) (fun c295 => ?_) (fun c295 => ?_)
      · exact fg_vret (fg_ft (pc := 335) tb_Mo_passHour 213 rfl) rfl rfl (hQ ν hag (by rw [fg_ph9 (show h < 9 from hh), if_pos h9, if_pos h9]; rw [show p = T 2 by omega] at hN; exact hN))
      · refine fg_aloadn (fg_ft (pc := 298) tb_Mo_passHour 190 rfl) rfl ?_
        refine fg_getR (fg_ft (pc := 299) tb_Mo_passHour 191 rfl) ff_Mo_23 ly_287 rfl (fg_lt ly_287 (by decide)) (rh_287_12 R) ?_
        refine fg_iloadn (fg_ft (pc := 302) tb_Mo_passHour 192 rfl) rfl ?_
        refine fg_aloadn (fg_ft (pc := 303) tb_Mo_passHour 193 rfl) rfl ?_
        refine fg_iloadn (fg_ft (pc := 304) tb_Mo_passHour 194 rfl) rfl ?_
        refine fg_aloadn (fg_ft (pc := 305) tb_Mo_passHour 195 rfl) rfl ?_
        refine fg_getR (fg_ft (pc := 306) tb_Mo_passHour 196 rfl) ff_Mo_23 ly_287 rfl (fg_lt ly_287 (by decide)) (rh_287_12 R) ?_
        refine fg_iloadn (fg_ft (pc := 309) tb_Mo_passHour 197 rfl) rfl ?_
        refine fg_ialdV (v := (nI ((fg_hz T hv (fg_Zm T o (h + 1) Z) p).1 p))) (fg_ft (pc := 310) tb_Mo_passHour 198 rfl) ly_292 (fg_lt ly_292 (by decide)) (by omega) (hN.2.1 _ (by omega)) ?_
        refine fg_aloadn (fg_ft (pc := 311) tb_Mo_passHour 199 rfl) rfl ?_
        refine fg_getR (fg_ft (pc := 312) tb_Mo_passHour 200 rfl) ff_Mo_26 ly_287 rfl (fg_lt ly_287 (by decide)) (rh_287_13 R) ?_
        refine fg_iloadn (fg_ft (pc := 315) tb_Mo_passHour 201 rfl) rfl ?_
        refine fg_ialdV (v := (nI ((fg_h0 hv p) p))) (fg_ft (pc := 316) tb_Mo_passHour 202 rfl) ly_293 (fg_lt ly_293 (by decide)) (by omega) (hN.2.2.1 _ (by omega)) ?_
        refine fg_iorN (fg_ft (pc := 317) tb_Mo_passHour 203 rfl) ?_
        refine fg_callV (fg_ft (pc := 318) tb_Mo_passHour 204 rfl) cf_Mo_206 (fg_isOf ly_287 rfl (fg_lt ly_287 (by decide))) (as := [.int (nI v), .int (nI (((fg_hz T hv (fg_Zm T o (h + 1) Z) p).1 p) ||| ((fg_h0 hv p) p)))]) (st := [.int (nI p), .ref 292]) rfl rfl (Nat.le_of_ble_eq_true rfl) (Nat.le_refl _) (Nat.le_refl _) (ev_Mo_follow hMn hok hCn (s := (((fg_hz T hv (fg_Zm T o (h + 1) Z) p).1 p) ||| ((fg_h0 hv p) p))) (fg_or_lt (hzn.2.1 p (by omega)).1 (hzn.2.2 p (by omega))) ?_)
        refine fg_iastN (fg_ft (pc := 321) tb_Mo_passHour 205 rfl) ly_292 (fg_lt ly_292 (by decide)) (by omega) ?_
        show fg_wp _ _ _ _ _ _ _ _ _ (fg_u2 ν 292 p (nI (fg_clo T (((fg_hz T hv (fg_Zm T o (h + 1) Z) p).1 p) ||| ((fg_h0 hv p) p)))), fg_rho R, 304)
        refine fg_aloadn (fg_ft (pc := 322) tb_Mo_passHour 206 rfl) rfl ?_
        refine fg_getR (fg_ft (pc := 323) tb_Mo_passHour 207 rfl) ff_Mo_26 ly_287 rfl (fg_lt ly_287 (by decide)) (rh_287_13 R) ?_
        refine fg_iloadn (fg_ft (pc := 326) tb_Mo_passHour 208 rfl) rfl ?_
        refine fg_iconst (fg_ft (pc := 327) tb_Mo_passHour 209 rfl) ic_0 ?_
        refine fg_iastN (fg_ft (pc := 328) tb_Mo_passHour 210 rfl) ly_293 (fg_lt ly_293 (by decide)) (by omega) ?_
        show fg_wp _ _ _ _ _ _ _ _ _ (fg_u2 (fg_u2 ν 292 p (nI (fg_clo T (((fg_hz T hv (fg_Zm T o (h + 1) Z) p).1 p) ||| ((fg_h0 hv p) p))))) 293 p (nI 0), fg_rho R, 304)
        refine fg_iincN (fg_ft (pc := 329) tb_Mo_passHour 211 rfl) rfl ic_1 rfl ?_
        refine fg_goto (tgt := 286) (fg_ft (pc := 332) tb_Mo_passHour 212 rfl) (by decide) ?_
        refine ih (p + 1) _ _ (by omega) (by omega) (fg_agP_tr hag (fg_agP_tr (fg_agP_u (Or.inl rfl)) (fg_agP_u (Or.inr (Or.inl rfl))))) ?_
        have q1 := fg_MS.halves (fg_MS.minds hN (p := p) (m := fg_clo T ((fg_hz T hv (fg_Zm T o (h + 1) Z) p).1 p ||| fg_h0 hv p p))) (p := p) (m := 0)
        have ehv : fg_h0 hv p p = hv p := if_neg (Nat.lt_irrefl _)
        have ez : ((fg_hz T hv (fg_Zm T o (h + 1) Z) (p + 1))).1 = fg_up1 ((fg_hz T hv (fg_Zm T o (h + 1) Z) p)).1 p (fg_clo T ((fg_hz T hv (fg_Zm T o (h + 1) Z) p).1 p ||| fg_h0 hv p p)) := by
          rw [ehv]; exact fg_lz_val (hzn.2.1 p (by omega)).2
        exact fg_MS.cg q1 rfl ez (fg_h0_u).symm (fg_lz_n).1 (fg_lz_n).2
  refine fg_intro (by decide +kernel) (Nat.le_of_ble_eq_true rfl) (fg_okAs rfl) (Nat.le_refl _) ?_
  refine fg_aloadn (fg_ft (pc := 0) tb_Mo_passHour 0 rfl) rfl ?_
  refine fg_dup (fg_ft (pc := 1) tb_Mo_passHour 1 rfl) rfl ?_
  refine fg_getV (v := (nI h)) (fg_ft (pc := 2) tb_Mo_passHour 2 rfl) ff_Mo_200 ly_287 rfl (fg_lt ly_287 (by decide)) hS.1 ?_
  refine fg_iconst (fg_ft (pc := 5) tb_Mo_passHour 3 rfl) ic_1 ?_
  refine fg_iaddN (fg_ft (pc := 6) tb_Mo_passHour 4 rfl) ?_
  refine fg_putI (fg_ft (pc := 7) tb_Mo_passHour 5 rfl) ff_Mo_200 ly_287 rfl (fg_lt ly_287 (by decide)) (fg_nokI _) (fun _ _ h => by cases h; rfl) ?_
  show fg_wp _ _ _ _ _ _ _ _ _ (fg_u2 μ 287 15 (nI (h + 1)), fg_rho R, 304)
  refine fg_iconst (fg_ft (pc := 10) tb_Mo_passHour 6 rfl) ic_0 ?_
  refine fg_istoren (fg_ft (pc := 11) tb_Mo_passHour 7 rfl) (Nat.le_of_ble_eq_true rfl) ?_
  have hag0 : fg_agP μ (fg_u2 μ 287 15 (nI (h + 1))) := fg_agP_u (Or.inr (Or.inr (Or.inr ⟨rfl, Or.inl rfl⟩)))
  refine people (fun ν v2 v3 hag hN => ?_) (T 2 + 1) 0 _ _ (by omega) (by omega) hag0 (fg_MS.slot hS (S' := (h + 1, Z, hv)) rfl rfl (Or.inl ⟨rfl, rfl, rfl, rfl⟩))
  refine fg_iconst (fg_ft (pc := 134) tb_Mo_passHour 84 rfl) ic_0 ?_
  refine fg_istoren (fg_ft (pc := 135) tb_Mo_passHour 85 rfl) (Nat.le_of_ble_eq_true rfl) ?_
  refine meets (fun ν v2 v3 hag hN => ?_) (T 4 + 1) 0 _ _ (by omega) (by omega) hag hN
  refine fg_aloadn (fg_ft (pc := 274) tb_Mo_passHour 175 rfl) rfl ?_
  refine fg_getV (v := (nI (h + 1))) (fg_ft (pc := 275) tb_Mo_passHour 176 rfl) ff_Mo_200 ly_287 rfl (fg_lt ly_287 (by decide)) hN.1 ?_
  refine fg_bipush (fg_ft (pc := 278) tb_Mo_passHour 177 rfl) ib_9 ?_
  refine fg_icmp_geN (tgt := 284) (fg_ft (pc := 280) tb_Mo_passHour 178 rfl) (by decide) (by omega) (by decide) (fun c280 => ?_) (fun c280 => ?_)
  · refine fg_iconst (fg_ft (pc := 284) tb_Mo_passHour 180 rfl) ic_0 ?_
    refine fg_istoren (fg_ft (pc := 285) tb_Mo_passHour 181 rfl) (Nat.le_of_ble_eq_true rfl) ?_
    exact eve (by omega) (T 2 + 1) 0 _ _ (by omega) (by omega) hag hN
  · exact fg_vret (fg_ft (pc := 283) tb_Mo_passHour 179 rfl) rfl rfl (hQ ν hag (by rw [fg_ph9 (show h < 9 from hh), if_neg (by omega), if_neg (by omega)]; exact hN))
