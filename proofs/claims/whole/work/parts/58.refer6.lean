theorem fg_pn_9 {T : Nat → Nat} {o : Option Nat × Nat × Nat} {S : fg_H3} (h : S.1 < 9) : fg_pn T o (9 - (fg_ph T o S).1) (fg_ph T o S) = fg_pn T o (9 - S.1) S := by
  rw [fg_ph_h h, show 9 - S.1 = 9 - (S.1 + 1) + 1 by omega]
  rfl
theorem ev_Mo_toEvening {E : fg_E} {d : Nat} {μ : Nat → Nat → Int32} {R : fg_T4} {Q : Option Value → fg_M → Prop} {v : Nat} {T : Nat → Nat} (hM : fg_MT (μ 288) v T) (hok : fg_ok T) (hC : fg_MC μ T) {n0 y : Int32} {o : Option Nat × Nat × Nat} {h : Nat} {Z : fg_Z} {hv lv : Nat → Nat} (hS : fg_MS μ T (h, Z, hv) lv o n0 y) (hz : fg_zok T h Z hv) (ho1 : ∀ q, o.1 = some q → q < 2 ^ 31) (ho2 : o.2.1 < 2 ^ 31) (ho3 : o.2.2 < 2 ^ 31) (hQ : ∀ μ' : Nat → Nat → Int32, fg_agP μ μ' → fg_MS μ' T (fg_pn T o (9 - h) (h, Z, hv)) lv o n0 y → Q none (μ', fg_rho R, 304)) : fg_Ev E yy_Mo_toEvening (d + 5) [.ref 287, .int (nI v)] (μ, fg_rho R, 304) 304 Q := by
  have hv0 := hM.1
  have hb0 := hok.1
  have hb1 := hok.2.1
  have hp := hok.p
  have hq := Nat.two_pow_pos (T 0)
  have loop : ∀ (m : Nat) (S : fg_H3) (ν : Nat → Nat → Int32), 9 - S.1 < m → fg_zs T S → fg_agP μ ν → fg_MS ν T S lv o n0 y → fg_pn T o (9 - S.1) S = fg_pn T o (9 - h) (h, Z, hv) → fg_wp E yy_Mo_toEvening (d + 5) 304 304 Q 0 [.ref 287, .int (nI v)] [] (ν, fg_rho R, 304) := by
    intro m
    induction m with
    | zero => intro S ν h; exact absurd h (Nat.not_lt_zero _)
    | succ m ih =>
      intro S ν hm hzn hag hN he
      have hMn := hM.agP hag
      have hCn := hC.agP hag
      have hz9 := hzn.1
      refine fg_aloadn (fg_ft (pc := 0) tb_Mo_toEvening 0 rfl) rfl ?_
      refine fg_getV (v := (nI (S.1))) (fg_ft (pc := 1) tb_Mo_toEvening 1 rfl) ff_Mo_200 ly_287 rfl (fg_lt ly_287 (by decide)) hN.1 ?_
      refine fg_bipush (fg_ft (pc := 4) tb_Mo_toEvening 2 rfl) ib_9 ?_
      refine fg_icmp_geN (tgt := 17) (fg_ft (pc := 6) tb_Mo_toEvening 3 rfl) (by decide) (by omega) (by decide) (fun c6 => ?_) (fun c6 => ?_)
      · exact fg_vret (fg_ft (pc := 17) tb_Mo_toEvening 8 rfl) rfl rfl (hQ ν hag (by rw [← he, show 9 - S.1 = 0 by omega]; exact hN))
      · refine fg_aloadn (fg_ft (pc := 9) tb_Mo_toEvening 4 rfl) rfl ?_
        refine fg_iloadn (fg_ft (pc := 10) tb_Mo_toEvening 5 rfl) rfl ?_
        refine fg_callV (fg_ft (pc := 11) tb_Mo_toEvening 6 rfl) cf_Mo_227 (fg_isOf ly_287 rfl (fg_lt ly_287 (by decide))) (as := [.int (nI v)]) (st := []) rfl rfl (Nat.le_of_ble_eq_true rfl) (Nat.le_refl _) (Nat.le_refl _) (ev_Mo_passHour hMn hok hCn (h := S.1) (Z := S.2.1) (hv := S.2.2) (lv := lv) (o := o) (n0 := n0) (y := y) hN hzn ho1 ho2 ho3 c6 ?_)
        intro μ2 hag2 hN2
        show fg_wp _ _ _ _ _ _ _ _ _ (μ2, fg_rho R, 304)
        refine fg_goto (tgt := 0) (fg_ft (pc := 14) tb_Mo_toEvening 7 rfl) (by decide) ?_
        exact ih (fg_ph T o S) μ2 (by rw [fg_ph_h c6]; omega) (fg_zok.ph hok hzn) (fg_agP_tr hag hag2) hN2 (by rw [fg_pn_9 c6]; exact he)
  refine fg_intro (by decide +kernel) (Nat.le_of_ble_eq_true rfl) (fg_okAs rfl) (Nat.le_refl _) ?_
  exact loop 10 (h, Z, hv) μ (by show 9 - h < 10; omega) hz (fg_agP_rf μ) hS rfl
theorem fg_nwc (n0 : Int32) (a k : Nat) : n0 + nI (a + k) = (n0 + nI k) + nI a := by
  rw [← nI_add, Int32.add_comm (nI a), Int32.add_assoc]
theorem ev_Mo_doesHour {E : fg_E} {d : Nat} {μ : Nat → Nat → Int32} {R : fg_T4} {Q : Option Value → fg_M → Prop} {v : Nat} {T : Nat → Nat} (hM : fg_MT (μ 288) v T) (hok : fg_ok T) (hC : fg_MC μ T) {n0 y : Int32} {o : Option Nat × Nat × Nat} {h : Nat} {Z : fg_Z} {hv lv : Nat → Nat} (hS : fg_MS μ T (h, Z, hv) lv o n0 y) (hz : fg_zok T h Z hv) (ho1 : ∀ q, o.1 = some q → q < 2 ^ 31) (ho2 : o.2.1 < 2 ^ 31) (ho3 : o.2.2 < 2 ^ 31) {dd kd a b c : Nat} (hd : dd + 4 ≤ 5120) (h0 : μ 288 dd = nI kd) (h6 : kd = 6) (hQ0 : fg_do T o kd a b c (h, Z, hv) lv = none → Q (some (.int (nI 0))) (μ, fg_rho R, 304)) (hQ : ∀ (S' : fg_H3) (lv' : Nat → Nat), fg_do T o kd a b c (h, Z, hv) lv = some (S', lv') → ∀ (μ' : Nat → Nat → Int32) (n0' : Int32), fg_agP μ μ' → fg_MS μ' T S' lv' o n0' y → Q (some (.int (nI 1))) (μ', fg_rho R, 304)) : fg_Ev E yy_Mo_does (d + 5) [.ref 287, .int (nI v), .int (nI dd)] (μ, fg_rho R, 304) 304 Q := by
  have hv0 := hM.1
  have hb0 := hok.1
  have hb1 := hok.2.1
  have hp := hok.p
  have hq := Nat.two_pow_pos (T 0)
  have hz9 := hz.1
  refine fg_intro (by decide +kernel) (Nat.le_of_ble_eq_true rfl) (fg_okAs rfl) (Nat.le_refl _) ?_
  refine fg_aloadn (fg_ft (pc := 0) tb_Mo_does 0 rfl) rfl ?_
  refine fg_getR (fg_ft (pc := 1) tb_Mo_does 1 rfl) ff_Mo_7 ly_287 rfl (fg_lt ly_287 (by decide)) (rh_287_0 R) ?_
  refine fg_iloadn (fg_ft (pc := 4) tb_Mo_does 2 rfl) rfl ?_
  refine fg_ialdV (v := (nI kd)) (fg_ft (pc := 5) tb_Mo_does 3 rfl) ly_288 (fg_lt ly_288 (by decide)) (by omega) h0 ?_
  refine fg_istoren (fg_ft (pc := 6) tb_Mo_does 4 rfl) (Nat.le_of_ble_eq_true rfl) ?_
  refine fg_aloadn (fg_ft (pc := 7) tb_Mo_does 5 rfl) rfl ?_
  refine fg_getR (fg_ft (pc := 8) tb_Mo_does 6 rfl) ff_Mo_7 ly_287 rfl (fg_lt ly_287 (by decide)) (rh_287_0 R) ?_
  refine fg_iloadn (fg_ft (pc := 11) tb_Mo_does 7 rfl) rfl ?_
  refine fg_iconst (fg_ft (pc := 12) tb_Mo_does 8 rfl) ic_1 ?_
  refine fg_iaddN (fg_ft (pc := 13) tb_Mo_does 9 rfl) ?_
  refine fg_ialdN (fg_ft (pc := 14) tb_Mo_does 10 rfl) ly_288 (fg_lt ly_288 (by decide)) (by omega) ?_
  refine fg_istore (fg_ft (pc := 15) tb_Mo_does 11 rfl) (Nat.le_of_ble_eq_true rfl) ?_
  refine fg_aloadn (fg_ft (pc := 17) tb_Mo_does 12 rfl) rfl ?_
  refine fg_getR (fg_ft (pc := 18) tb_Mo_does 13 rfl) ff_Mo_7 ly_287 rfl (fg_lt ly_287 (by decide)) (rh_287_0 R) ?_
  refine fg_iloadn (fg_ft (pc := 21) tb_Mo_does 14 rfl) rfl ?_
  refine fg_iconst (fg_ft (pc := 22) tb_Mo_does 15 rfl) ic_2 ?_
  refine fg_iaddN (fg_ft (pc := 23) tb_Mo_does 16 rfl) ?_
  refine fg_ialdN (fg_ft (pc := 24) tb_Mo_does 17 rfl) ly_288 (fg_lt ly_288 (by decide)) (by omega) ?_
  refine fg_istore (fg_ft (pc := 25) tb_Mo_does 18 rfl) (Nat.le_of_ble_eq_true rfl) ?_
  refine fg_iloadn (fg_ft (pc := 27) tb_Mo_does 19 rfl) rfl ?_
  refine fg_iconst (fg_ft (pc := 28) tb_Mo_does 20 rfl) ic_5 ?_
  refine fg_icmp_leN (tgt := 50) (fg_ft (pc := 29) tb_Mo_does 21 rfl) (by decide) (by omega) (by decide) (fun c29 => (absurd c29 (by omega))) (fun c29 => ?_)
  refine fg_aloadn (fg_ft (pc := 32) tb_Mo_does 22 rfl) rfl ?_
  refine fg_getV (v := (nI h)) (fg_ft (pc := 33) tb_Mo_does 23 rfl) ff_Mo_200 ly_287 rfl (fg_lt ly_287 (by decide)) hS.1 ?_
  refine fg_bipush (fg_ft (pc := 36) tb_Mo_does 24 rfl) ib_9 ?_
  refine fg_icmp_neN (tgt := 43) (fg_ft (pc := 38) tb_Mo_does 25 rfl) (by decide) (by omega) (by decide) (fun c38 => ?_) (fun c38 => ?_)
  · refine fg_aloadn (fg_ft (pc := 43) tb_Mo_does 28 rfl) rfl ?_
    refine fg_iloadn (fg_ft (pc := 44) tb_Mo_does 29 rfl) rfl ?_
    refine fg_callV (fg_ft (pc := 45) tb_Mo_does 30 rfl) cf_Mo_227 (fg_isOf ly_287 rfl (fg_lt ly_287 (by decide))) (as := [.int (nI v)]) (st := []) rfl rfl (Nat.le_of_ble_eq_true rfl) (Nat.le_refl _) (Nat.le_refl _) (ev_Mo_passHour hM hok hC (h := h) (Z := Z) (hv := hv) (lv := lv) (o := o) (n0 := n0) (y := y) hS hz ho1 ho2 ho3 (by omega) ?_)
    intro μ2 hag2 hN2
    show fg_wp _ _ _ _ _ _ _ _ _ (μ2, fg_rho R, 304)
    refine fg_iconst (fg_ft (pc := 48) tb_Mo_does 31 rfl) ic_1 ?_
    exact fg_zret (fg_ft (pc := 49) tb_Mo_does 32 rfl) rfl (by decide) rfl (hQ _ _ (by unfold fg_do; rw [if_pos h6, if_pos (show h < 9 by omega)]) μ2 n0 hag2 hN2)
  · refine fg_iconst (fg_ft (pc := 41) tb_Mo_does 26 rfl) ic_0 ?_
    exact fg_zret (fg_ft (pc := 42) tb_Mo_does 27 rfl) rfl (by decide) rfl (hQ0 (by unfold fg_do; rw [if_pos h6, if_neg (show ¬ h < 9 by omega)]))
theorem fg_MS.lrz {μ : Nat → Nat → Int32} {T : Nat → Nat} {h p f : Nat} {Z : fg_Z} {hv lv : Nat → Nat} {o : Option Nat × Nat × Nat} {n0 y : Int32} (H : fg_MS μ T (h, fg_lr T h p f Z, hv) lv o n0 y) (hc : fg_clsd T (Z.1 p)) : fg_MS μ T (h, fg_lz T h p (2 ^ f) Z, hv) lv o (n0 + nI (if (Z.1 p).testBit f = true then 0 else 1)) y := by
  obtain ⟨h1, h2, h3, h4, h5, h6, h7⟩ := H
  have e1 : (fg_lr T h p f Z).1 = (fg_lz T h p (2 ^ f) Z).1 := (fg_lr_m hc).trans (fg_lz_val hc).symm
  refine ⟨h1, fun q hq => by show _ = nI ((fg_lz T h p (2 ^ f) Z).1 q); rw [← e1]; exact h2 q hq, h3, h4, ?_, ?_, h7⟩
  · show _ = _ + nI (fg_lz T h p (2 ^ f) Z).2.1
    have h5 : μ 287 16 = n0 + nI (fg_lr T h p f Z).2.1 := h5
    rw [fg_lz_n.1, h5, fg_lr_n.1]
    split
    · exact fg_nwc n0 _ 0
    · exact fg_nwc n0 _ 1
  · show _ = y ||| nI (fg_lz T h p (2 ^ f) Z).2.2.2
    have h6 : μ 287 20 = y ||| nI (fg_lr T h p f Z).2.2.2 := h6
    rw [fg_lz_n.2, h6, fg_lr_n.2]
theorem ev_Mo_doesAct {E : fg_E} {d : Nat} {μ : Nat → Nat → Int32} {R : fg_T4} {Q : Option Value → fg_M → Prop} {v : Nat} {T : Nat → Nat} (hM : fg_MT (μ 288) v T) (hok : fg_ok T) (hC : fg_MC μ T) {n0 y : Int32} {o : Option Nat × Nat × Nat} {h : Nat} {Z : fg_Z} {hv lv : Nat → Nat} (hS : fg_MS μ T (h, Z, hv) lv o n0 y) (hz : fg_zok T h Z hv) (ho1 : ∀ q, o.1 = some q → q < 2 ^ 31) (ho2 : o.2.1 < 2 ^ 31) (ho3 : o.2.2 < 2 ^ 31) {dd kd a b c : Nat} (hd : dd + 4 ≤ 5120) (h0 : μ 288 dd = nI kd) (hk5 : kd ≤ 5) (h1 : μ 288 (dd + 1) = nI a ∧ μ 288 (dd + 2) = nI b ∧ a < 5 ∧ b < 10) (h3 : kd = 5 → μ 288 (dd + 3) = nI c ∧ b < 5 ∧ c < 10) (hQ0 : fg_do T o kd a b c (h, Z, hv) lv = none → Q (some (.int (nI 0))) (μ, fg_rho R, 304)) (hQ : ∀ (S' : fg_H3) (lv' : Nat → Nat), fg_do T o kd a b c (h, Z, hv) lv = some (S', lv') → ∀ (μ' : Nat → Nat → Int32) (n0' : Int32), fg_agP μ μ' → fg_MS μ' T S' lv' o n0' y → Q (some (.int (nI 1))) (μ', fg_rho R, 304)) : fg_Ev E yy_Mo_does (d + 5) [.ref 287, .int (nI v), .int (nI dd)] (μ, fg_rho R, 304) 304 Q := by
  have hv0 := hM.1
  have hb0 := hok.1
  have hb1 := hok.2.1
  have hp := hok.p
  have hq := Nat.two_pow_pos (T 0)
  have hz9 := hz.1
  have hab := h1.2.2
  refine fg_intro (by decide +kernel) (Nat.le_of_ble_eq_true rfl) (fg_okAs rfl) (Nat.le_refl _) ?_
  refine fg_aloadn (fg_ft (pc := 0) tb_Mo_does 0 rfl) rfl ?_
  refine fg_getR (fg_ft (pc := 1) tb_Mo_does 1 rfl) ff_Mo_7 ly_287 rfl (fg_lt ly_287 (by decide)) (rh_287_0 R) ?_
  refine fg_iloadn (fg_ft (pc := 4) tb_Mo_does 2 rfl) rfl ?_
  refine fg_ialdV (v := (nI kd)) (fg_ft (pc := 5) tb_Mo_does 3 rfl) ly_288 (fg_lt ly_288 (by decide)) (by omega) h0 ?_
  refine fg_istoren (fg_ft (pc := 6) tb_Mo_does 4 rfl) (Nat.le_of_ble_eq_true rfl) ?_
  refine fg_aloadn (fg_ft (pc := 7) tb_Mo_does 5 rfl) rfl ?_
  refine fg_getR (fg_ft (pc := 8) tb_Mo_does 6 rfl) ff_Mo_7 ly_287 rfl (fg_lt ly_287 (by decide)) (rh_287_0 R) ?_
  refine fg_iloadn (fg_ft (pc := 11) tb_Mo_does 7 rfl) rfl ?_
  refine fg_iconst (fg_ft (pc := 12) tb_Mo_does 8 rfl) ic_1 ?_
  refine fg_iaddN (fg_ft (pc := 13) tb_Mo_does 9 rfl) ?_
  refine fg_ialdV (v := (nI a)) (fg_ft (pc := 14) tb_Mo_does 10 rfl) ly_288 (fg_lt ly_288 (by decide)) (by omega) h1.1 ?_
  refine fg_istore (fg_ft (pc := 15) tb_Mo_does 11 rfl) (Nat.le_of_ble_eq_true rfl) ?_
  refine fg_aloadn (fg_ft (pc := 17) tb_Mo_does 12 rfl) rfl ?_
  refine fg_getR (fg_ft (pc := 18) tb_Mo_does 13 rfl) ff_Mo_7 ly_287 rfl (fg_lt ly_287 (by decide)) (rh_287_0 R) ?_
  refine fg_iloadn (fg_ft (pc := 21) tb_Mo_does 14 rfl) rfl ?_
  refine fg_iconst (fg_ft (pc := 22) tb_Mo_does 15 rfl) ic_2 ?_
  refine fg_iaddN (fg_ft (pc := 23) tb_Mo_does 16 rfl) ?_
  refine fg_ialdV (v := (nI b)) (fg_ft (pc := 24) tb_Mo_does 17 rfl) ly_288 (fg_lt ly_288 (by decide)) (by omega) h1.2.1 ?_
  refine fg_istore (fg_ft (pc := 25) tb_Mo_does 18 rfl) (Nat.le_of_ble_eq_true rfl) ?_
  refine fg_iloadn (fg_ft (pc := 27) tb_Mo_does 19 rfl) rfl ?_
  refine fg_iconst (fg_ft (pc := 28) tb_Mo_does 20 rfl) ic_5 ?_
  refine fg_icmp_leN (tgt := 50) (fg_ft (pc := 29) tb_Mo_does 21 rfl) (by decide) (by omega) (by decide) (fun c29 => ?_) (fun c29 => (absurd c29 (by omega)))
  refine fg_aloadn (fg_ft (pc := 50) tb_Mo_does 33 rfl) rfl ?_
  refine fg_iloadn (fg_ft (pc := 51) tb_Mo_does 34 rfl) rfl ?_
  refine fg_iload (fg_ft (pc := 52) tb_Mo_does 35 rfl) rfl ?_
  refine fg_callV (fg_ft (pc := 54) tb_Mo_does 36 rfl) cf_Mo_230 (fg_isOf ly_287 rfl (fg_lt ly_287 (by decide))) (as := [.int (nI v), .int (nI a)]) (st := []) rfl rfl (Nat.le_of_ble_eq_true rfl) (Nat.le_refl _) (Nat.le_refl _) (ev_Mo_isPerson hM hok (k := a) (Nat.lt_trans (show _ < 2 ^ 31 from by omega) (by decide)) ?_)
  refine fg_ifB_ne (tgt := 62) (fg_ft (pc := 57) tb_Mo_does 37 rfl) (by decide) (fun c57 => ?_) (fun c57 => ?_)
  · refine fg_iloadn (fg_ft (pc := 62) tb_Mo_does 40 rfl) rfl ?_
    refine fg_iconst (fg_ft (pc := 63) tb_Mo_does 41 rfl) ic_5 ?_
    refine fg_icmp_neN (tgt := 129) (fg_ft (pc := 64) tb_Mo_does 42 rfl) (by decide) (by omega) (by decide) (fun c64 => ?_) (fun c64 => ?_)
    · refine fg_aloadn (fg_ft (pc := 129) tb_Mo_does 82 rfl) rfl ?_
      refine fg_iloadn (fg_ft (pc := 130) tb_Mo_does 83 rfl) rfl ?_
      refine fg_iload (fg_ft (pc := 131) tb_Mo_does 84 rfl) rfl ?_
      refine fg_callV (fg_ft (pc := 133) tb_Mo_does 85 rfl) cf_Mo_233 (fg_isOf ly_287 rfl (fg_lt ly_287 (by decide))) (as := [.int (nI v), .int (nI b)]) (st := []) rfl rfl (Nat.le_of_ble_eq_true rfl) (Nat.le_refl _) (Nat.le_refl _) (ev_Mo_isFact hM hok (k := b) (Nat.lt_trans (show _ < 2 ^ 31 from by omega) (by decide)) ?_)
      refine fg_ifB_ne (tgt := 141) (fg_ft (pc := 136) tb_Mo_does 86 rfl) (by decide) (fun c136 => ?_) (fun c136 => ?_)
      · refine fg_iloadn (fg_ft (pc := 141) tb_Mo_does 89 rfl) rfl ?_
        refine fg_iconst (fg_ft (pc := 142) tb_Mo_does 90 rfl) ic_4 ?_
        refine fg_icmp_neN (tgt := 157) (fg_ft (pc := 143) tb_Mo_does 91 rfl) (by decide) (by omega) (by decide) (fun c143 => ?_) (fun c143 => ?_)
        · refine fg_aloadn (fg_ft (pc := 157) tb_Mo_does 99 rfl) rfl ?_
          refine fg_iload (fg_ft (pc := 158) tb_Mo_does 100 rfl) rfl ?_
          refine fg_iload (fg_ft (pc := 160) tb_Mo_does 101 rfl) rfl ?_
          refine fg_callV (fg_ft (pc := 162) tb_Mo_does 102 rfl) cf_Mo_212 (fg_isOf ly_287 rfl (fg_lt ly_287 (by decide))) (as := [.int (nI a), .int (nI b)]) (st := []) rfl rfl (Nat.le_of_ble_eq_true rfl) (Nat.le_refl _) (Nat.le_refl _) (ev_Mo_knows (Mv := Z.1) (T := T) (hS.2.1) (p := a) (f := b) (by omega) (by omega) (fg_km hok hz (by omega)) ?_)
          refine fg_ifB_ne (tgt := 170) (fg_ft (pc := 165) tb_Mo_does 103 rfl) (by decide) (fun c165 => ?_) (fun c165 => ?_)
          · have hmz := hz.2.1 a c57
            have hmz1 := hmz.1
            refine fg_aloadn (fg_ft (pc := 170) tb_Mo_does 106 rfl) rfl ?_
            refine fg_iloadn (fg_ft (pc := 171) tb_Mo_does 107 rfl) rfl ?_
            refine fg_aloadn (fg_ft (pc := 172) tb_Mo_does 108 rfl) rfl ?_
            refine fg_getR (fg_ft (pc := 173) tb_Mo_does 109 rfl) ff_Mo_23 ly_287 rfl (fg_lt ly_287 (by decide)) (rh_287_12 R) ?_
            refine fg_iload (fg_ft (pc := 176) tb_Mo_does 110 rfl) rfl ?_
            refine fg_ialdV (v := (nI (Z.1 a))) (fg_ft (pc := 178) tb_Mo_does 111 rfl) ly_292 (fg_lt ly_292 (by decide)) (by omega) (hS.2.1 _ (by omega)) ?_
            refine fg_iload (fg_ft (pc := 179) tb_Mo_does 112 rfl) rfl ?_
            refine fg_iloadn (fg_ft (pc := 181) tb_Mo_does 113 rfl) rfl ?_
            refine fg_iconst (fg_ft (pc := 182) tb_Mo_does 114 rfl) ic_3 ?_
            refine fg_icmp_neN (tgt := 190) (fg_ft (pc := 183) tb_Mo_does 115 rfl) (by decide) (by omega) (by decide) (fun c183 => ?_) (fun c183 => ?_)
            · refine fg_iloadn (fg_ft (pc := 190) tb_Mo_does 118 rfl) rfl ?_
              refine fg_callV (fg_ft (pc := 191) tb_Mo_does 119 rfl) cf_Mo_236 (fg_isOf ly_287 rfl (fg_lt ly_287 (by decide))) (as := [.int (nI v), .int (nI (Z.1 a)), .int (nI b), .int (nI kd)]) (st := []) rfl rfl (Nat.le_of_ble_eq_true rfl) (Nat.le_refl _) (Nat.le_refl _) (ev_Mo_forget hM hok hC (m := Z.1 a) (f := b) (kd := kd) hmz1 c165 (by omega) ?_)
              refine fg_istore (fg_ft (pc := 194) tb_Mo_does 120 rfl) (Nat.le_of_ble_eq_true rfl) ?_
              refine fg_aloadn (fg_ft (pc := 196) tb_Mo_does 121 rfl) rfl ?_
              refine fg_getR (fg_ft (pc := 197) tb_Mo_does 122 rfl) ff_Mo_26 ly_287 rfl (fg_lt ly_287 (by decide)) (rh_287_13 R) ?_
              refine fg_iload (fg_ft (pc := 200) tb_Mo_does 123 rfl) rfl ?_
              refine fg_dup2 (fg_ft (pc := 202) tb_Mo_does 124 rfl) rfl rfl ?_
              refine fg_ialdV (v := (nI (hv a))) (fg_ft (pc := 203) tb_Mo_does 125 rfl) ly_293 (fg_lt ly_293 (by decide)) (by omega) (hS.2.2.1 _ (by omega)) ?_
              refine fg_iloadn (fg_ft (pc := 204) tb_Mo_does 126 rfl) rfl ?_
              refine fg_iconst (fg_ft (pc := 205) tb_Mo_does 127 rfl) ic_3 ?_
              refine fg_icmp_neN (tgt := 224) (fg_ft (pc := 206) tb_Mo_does 128 rfl) (by decide) (by omega) (by decide) (fun c206 => ?_) (fun c206 => ?_)
              · refine fg_iconst (fg_ft (pc := 224) tb_Mo_does 138 rfl) ic_0 ?_
                refine fg_iorN (fg_ft (pc := 225) tb_Mo_does 139 rfl) ?_
                refine fg_iastN (fg_ft (pc := 226) tb_Mo_does 140 rfl) ly_293 (fg_lt ly_293 (by decide)) (by omega) ?_
                show fg_wp _ _ _ _ _ _ _ _ _ (fg_u2 μ 293 a (nI ((hv a) ||| 0)), fg_rho R, 304)
                refine fg_aloadn (fg_ft (pc := 227) tb_Mo_does 141 rfl) rfl ?_
                refine fg_getR (fg_ft (pc := 228) tb_Mo_does 142 rfl) ff_Mo_23 ly_287 rfl (fg_lt ly_287 (by decide)) (rh_287_12 R) ?_
                refine fg_iload (fg_ft (pc := 231) tb_Mo_does 143 rfl) rfl ?_
                refine fg_iload (fg_ft (pc := 233) tb_Mo_does 144 rfl) rfl ?_
                refine fg_iastN (fg_ft (pc := 235) tb_Mo_does 145 rfl) ly_292 (fg_lt ly_292 (by decide)) (by omega) ?_
                show fg_wp _ _ _ _ _ _ _ _ _ (fg_u2 (fg_u2 μ 293 a (nI ((hv a) ||| 0))) 292 a (nI (fg_fgt T (Z.1 a) b kd)), fg_rho R, 304)
                refine fg_aloadn (fg_ft (pc := 236) tb_Mo_does 146 rfl) rfl ?_
                refine fg_getR (fg_ft (pc := 237) tb_Mo_does 147 rfl) ff_Mo_29 ly_287 rfl (fg_lt ly_287 (by decide)) (rh_287_14 R) ?_
                refine fg_iload (fg_ft (pc := 240) tb_Mo_does 148 rfl) rfl ?_
                refine fg_dup2 (fg_ft (pc := 242) tb_Mo_does 149 rfl) rfl rfl ?_
                refine fg_ialdV (v := (nI (lv a))) (fg_ft (pc := 243) tb_Mo_does 150 rfl) ly_294 (fg_lt ly_294 (by decide)) (by omega) ((fg_u2ne (f := (fg_u2 μ 293 a (nI ((hv a) ||| 0)))) (a := 292) (k := a) (b := 294) (j := a) (x := (nI (fg_fgt T (Z.1 a) b kd))) (by decide)).trans ((fg_u2ne (f := μ) (a := 293) (k := a) (b := 294) (j := a) (x := (nI ((hv a) ||| 0))) (by decide)).trans (hS.2.2.2.1 _ (by omega)))) ?_
                refine fg_iconst (fg_ft (pc := 244) tb_Mo_does 151 rfl) ic_1 ?_
                refine fg_iaddN (fg_ft (pc := 245) tb_Mo_does 152 rfl) ?_
                refine fg_iastN (fg_ft (pc := 246) tb_Mo_does 153 rfl) ly_294 (fg_lt ly_294 (by decide)) (by omega) ?_
                show fg_wp _ _ _ _ _ _ _ _ _ (fg_u2 (fg_u2 (fg_u2 μ 293 a (nI ((hv a) ||| 0))) 292 a (nI (fg_fgt T (Z.1 a) b kd))) 294 a (nI ((lv a) + 1)), fg_rho R, 304)
                refine fg_iconst (fg_ft (pc := 247) tb_Mo_does 154 rfl) ic_1 ?_
                exact fg_zret (fg_ft (pc := 248) tb_Mo_does 155 rfl) rfl (by decide) rfl (hQ _ _ (by unfold fg_do; rw [if_neg (show ¬ kd = 6 by omega)]; rw [if_pos c57, if_neg c64, if_neg c143, if_pos c165]) _ n0 (fg_agP_tr (fg_agP_tr (fg_agP_u (Or.inr (Or.inl rfl))) (fg_agP_u (Or.inl rfl))) (fg_agP_u (Or.inr (Or.inr (Or.inl rfl))))) (by
  have q1 := fg_MS.loaves (fg_MS.minds (fg_MS.halves hS (p := a) (m := hv a ||| (if kd = 3 then fg_df (Z.1 a) (fg_fgt T (Z.1 a) b (if kd = 3 then 1 else kd)) else 0))) (p := a) (m := fg_fgt T (Z.1 a) b (if kd = 3 then 1 else kd))) (p := a) (m := lv a + 1)
  first
    | exact absurd c206 c183
    | exact absurd c183 c206
    | (simp only [if_pos c183] at q1 ⊢; exact q1)
    | (simp only [if_neg c183] at q1 ⊢; exact q1)))
              · refine fg_aloadn (fg_ft (pc := 209) tb_Mo_does 129 rfl) rfl ?_
                refine fg_getR (fg_ft (pc := 210) tb_Mo_does 130 rfl) ff_Mo_23 ly_287 rfl (fg_lt ly_287 (by decide)) (rh_287_12 R) ?_
                refine fg_iload (fg_ft (pc := 213) tb_Mo_does 131 rfl) rfl ?_
                refine fg_ialdV (v := (nI (Z.1 a))) (fg_ft (pc := 215) tb_Mo_does 132 rfl) ly_292 (fg_lt ly_292 (by decide)) (by omega) (hS.2.1 _ (by omega)) ?_
                refine fg_iload (fg_ft (pc := 216) tb_Mo_does 133 rfl) rfl ?_
                refine fg_iconst (fg_ft (pc := 218) tb_Mo_does 134 rfl) ic_m1 ?_
                refine fg_ixor (fg_ft (pc := 219) tb_Mo_does 135 rfl) ?_
                refine fg_iandD (fg_ft (pc := 220) tb_Mo_does 136 rfl) ?_
                refine fg_goto (tgt := 225) (fg_ft (pc := 221) tb_Mo_does 137 rfl) (by decide) ?_
                refine fg_iorN (fg_ft (pc := 225) tb_Mo_does 139 rfl) ?_
                refine fg_iastN (fg_ft (pc := 226) tb_Mo_does 140 rfl) ly_293 (fg_lt ly_293 (by decide)) (by omega) ?_
                show fg_wp _ _ _ _ _ _ _ _ _ (fg_u2 μ 293 a (nI ((hv a) ||| (fg_df (Z.1 a) (fg_fgt T (Z.1 a) b kd)))), fg_rho R, 304)
                refine fg_aloadn (fg_ft (pc := 227) tb_Mo_does 141 rfl) rfl ?_
                refine fg_getR (fg_ft (pc := 228) tb_Mo_does 142 rfl) ff_Mo_23 ly_287 rfl (fg_lt ly_287 (by decide)) (rh_287_12 R) ?_
                refine fg_iload (fg_ft (pc := 231) tb_Mo_does 143 rfl) rfl ?_
                refine fg_iload (fg_ft (pc := 233) tb_Mo_does 144 rfl) rfl ?_
                refine fg_iastN (fg_ft (pc := 235) tb_Mo_does 145 rfl) ly_292 (fg_lt ly_292 (by decide)) (by omega) ?_
                show fg_wp _ _ _ _ _ _ _ _ _ (fg_u2 (fg_u2 μ 293 a (nI ((hv a) ||| (fg_df (Z.1 a) (fg_fgt T (Z.1 a) b kd))))) 292 a (nI (fg_fgt T (Z.1 a) b kd)), fg_rho R, 304)
                refine fg_aloadn (fg_ft (pc := 236) tb_Mo_does 146 rfl) rfl ?_
                refine fg_getR (fg_ft (pc := 237) tb_Mo_does 147 rfl) ff_Mo_29 ly_287 rfl (fg_lt ly_287 (by decide)) (rh_287_14 R) ?_
                refine fg_iload (fg_ft (pc := 240) tb_Mo_does 148 rfl) rfl ?_
                refine fg_dup2 (fg_ft (pc := 242) tb_Mo_does 149 rfl) rfl rfl ?_
                refine fg_ialdV (v := (nI (lv a))) (fg_ft (pc := 243) tb_Mo_does 150 rfl) ly_294 (fg_lt ly_294 (by decide)) (by omega) ((fg_u2ne (f := (fg_u2 μ 293 a (nI ((hv a) ||| (fg_df (Z.1 a) (fg_fgt T (Z.1 a) b kd)))))) (a := 292) (k := a) (b := 294) (j := a) (x := (nI (fg_fgt T (Z.1 a) b kd))) (by decide)).trans ((fg_u2ne (f := μ) (a := 293) (k := a) (b := 294) (j := a) (x := (nI ((hv a) ||| (fg_df (Z.1 a) (fg_fgt T (Z.1 a) b kd))))) (by decide)).trans (hS.2.2.2.1 _ (by omega)))) ?_
                refine fg_iconst (fg_ft (pc := 244) tb_Mo_does 151 rfl) ic_1 ?_
                refine fg_iaddN (fg_ft (pc := 245) tb_Mo_does 152 rfl) ?_
                refine fg_iastN (fg_ft (pc := 246) tb_Mo_does 153 rfl) ly_294 (fg_lt ly_294 (by decide)) (by omega) ?_
                show fg_wp _ _ _ _ _ _ _ _ _ (fg_u2 (fg_u2 (fg_u2 μ 293 a (nI ((hv a) ||| (fg_df (Z.1 a) (fg_fgt T (Z.1 a) b kd))))) 292 a (nI (fg_fgt T (Z.1 a) b kd))) 294 a (nI ((lv a) + 1)), fg_rho R, 304)
                refine fg_iconst (fg_ft (pc := 247) tb_Mo_does 154 rfl) ic_1 ?_
                exact fg_zret (fg_ft (pc := 248) tb_Mo_does 155 rfl) rfl (by decide) rfl (hQ _ _ (by unfold fg_do; rw [if_neg (show ¬ kd = 6 by omega)]; rw [if_pos c57, if_neg c64, if_neg c143, if_pos c165]) _ n0 (fg_agP_tr (fg_agP_tr (fg_agP_u (Or.inr (Or.inl rfl))) (fg_agP_u (Or.inl rfl))) (fg_agP_u (Or.inr (Or.inr (Or.inl rfl))))) (by
  have q1 := fg_MS.loaves (fg_MS.minds (fg_MS.halves hS (p := a) (m := hv a ||| (if kd = 3 then fg_df (Z.1 a) (fg_fgt T (Z.1 a) b (if kd = 3 then 1 else kd)) else 0))) (p := a) (m := fg_fgt T (Z.1 a) b (if kd = 3 then 1 else kd))) (p := a) (m := lv a + 1)
  first
    | exact absurd c206 c183
    | exact absurd c183 c206
    | (simp only [if_pos c183] at q1 ⊢; exact q1)
    | (simp only [if_neg c183] at q1 ⊢; exact q1)))
            · refine fg_iconst (fg_ft (pc := 186) tb_Mo_does 116 rfl) ic_1 ?_
              refine fg_goto (tgt := 191) (fg_ft (pc := 187) tb_Mo_does 117 rfl) (by decide) ?_
              refine fg_callV (fg_ft (pc := 191) tb_Mo_does 119 rfl) cf_Mo_236 (fg_isOf ly_287 rfl (fg_lt ly_287 (by decide))) (as := [.int (nI v), .int (nI (Z.1 a)), .int (nI b), .int (nI 1)]) (st := []) rfl rfl (Nat.le_of_ble_eq_true rfl) (Nat.le_refl _) (Nat.le_refl _) (ev_Mo_forget hM hok hC (m := Z.1 a) (f := b) (kd := 1) hmz1 c165 (by omega) ?_)
              refine fg_istore (fg_ft (pc := 194) tb_Mo_does 120 rfl) (Nat.le_of_ble_eq_true rfl) ?_
              refine fg_aloadn (fg_ft (pc := 196) tb_Mo_does 121 rfl) rfl ?_
              refine fg_getR (fg_ft (pc := 197) tb_Mo_does 122 rfl) ff_Mo_26 ly_287 rfl (fg_lt ly_287 (by decide)) (rh_287_13 R) ?_
              refine fg_iload (fg_ft (pc := 200) tb_Mo_does 123 rfl) rfl ?_
              refine fg_dup2 (fg_ft (pc := 202) tb_Mo_does 124 rfl) rfl rfl ?_
              refine fg_ialdV (v := (nI (hv a))) (fg_ft (pc := 203) tb_Mo_does 125 rfl) ly_293 (fg_lt ly_293 (by decide)) (by omega) (hS.2.2.1 _ (by omega)) ?_
              refine fg_iloadn (fg_ft (pc := 204) tb_Mo_does 126 rfl) rfl ?_
              refine fg_iconst (fg_ft (pc := 205) tb_Mo_does 127 rfl) ic_3 ?_
              refine fg_icmp_neN (tgt := 224) (fg_ft (pc := 206) tb_Mo_does 128 rfl) (by decide) (by omega) (by decide) (fun c206 => ?_) (fun c206 => ?_)
              · refine fg_iconst (fg_ft (pc := 224) tb_Mo_does 138 rfl) ic_0 ?_
                refine fg_iorN (fg_ft (pc := 225) tb_Mo_does 139 rfl) ?_
                refine fg_iastN (fg_ft (pc := 226) tb_Mo_does 140 rfl) ly_293 (fg_lt ly_293 (by decide)) (by omega) ?_
                show fg_wp _ _ _ _ _ _ _ _ _ (fg_u2 μ 293 a (nI ((hv a) ||| 0)), fg_rho R, 304)
                refine fg_aloadn (fg_ft (pc := 227) tb_Mo_does 141 rfl) rfl ?_
                refine fg_getR (fg_ft (pc := 228) tb_Mo_does 142 rfl) ff_Mo_23 ly_287 rfl (fg_lt ly_287 (by decide)) (rh_287_12 R) ?_
                refine fg_iload (fg_ft (pc := 231) tb_Mo_does 143 rfl) rfl ?_
                refine fg_iload (fg_ft (pc := 233) tb_Mo_does 144 rfl) rfl ?_
                refine fg_iastN (fg_ft (pc := 235) tb_Mo_does 145 rfl) ly_292 (fg_lt ly_292 (by decide)) (by omega) ?_
                show fg_wp _ _ _ _ _ _ _ _ _ (fg_u2 (fg_u2 μ 293 a (nI ((hv a) ||| 0))) 292 a (nI (fg_fgt T (Z.1 a) b 1)), fg_rho R, 304)
                refine fg_aloadn (fg_ft (pc := 236) tb_Mo_does 146 rfl) rfl ?_
                refine fg_getR (fg_ft (pc := 237) tb_Mo_does 147 rfl) ff_Mo_29 ly_287 rfl (fg_lt ly_287 (by decide)) (rh_287_14 R) ?_
                refine fg_iload (fg_ft (pc := 240) tb_Mo_does 148 rfl) rfl ?_
                refine fg_dup2 (fg_ft (pc := 242) tb_Mo_does 149 rfl) rfl rfl ?_
                refine fg_ialdV (v := (nI (lv a))) (fg_ft (pc := 243) tb_Mo_does 150 rfl) ly_294 (fg_lt ly_294 (by decide)) (by omega) ((fg_u2ne (f := (fg_u2 μ 293 a (nI ((hv a) ||| 0)))) (a := 292) (k := a) (b := 294) (j := a) (x := (nI (fg_fgt T (Z.1 a) b 1))) (by decide)).trans ((fg_u2ne (f := μ) (a := 293) (k := a) (b := 294) (j := a) (x := (nI ((hv a) ||| 0))) (by decide)).trans (hS.2.2.2.1 _ (by omega)))) ?_
                refine fg_iconst (fg_ft (pc := 244) tb_Mo_does 151 rfl) ic_1 ?_
                refine fg_iaddN (fg_ft (pc := 245) tb_Mo_does 152 rfl) ?_
                refine fg_iastN (fg_ft (pc := 246) tb_Mo_does 153 rfl) ly_294 (fg_lt ly_294 (by decide)) (by omega) ?_
                show fg_wp _ _ _ _ _ _ _ _ _ (fg_u2 (fg_u2 (fg_u2 μ 293 a (nI ((hv a) ||| 0))) 292 a (nI (fg_fgt T (Z.1 a) b 1))) 294 a (nI ((lv a) + 1)), fg_rho R, 304)
                refine fg_iconst (fg_ft (pc := 247) tb_Mo_does 154 rfl) ic_1 ?_
                exact fg_zret (fg_ft (pc := 248) tb_Mo_does 155 rfl) rfl (by decide) rfl (hQ _ _ (by unfold fg_do; rw [if_neg (show ¬ kd = 6 by omega)]; rw [if_pos c57, if_neg c64, if_neg c143, if_pos c165]) _ n0 (fg_agP_tr (fg_agP_tr (fg_agP_u (Or.inr (Or.inl rfl))) (fg_agP_u (Or.inl rfl))) (fg_agP_u (Or.inr (Or.inr (Or.inl rfl))))) (by
  have q1 := fg_MS.loaves (fg_MS.minds (fg_MS.halves hS (p := a) (m := hv a ||| (if kd = 3 then fg_df (Z.1 a) (fg_fgt T (Z.1 a) b (if kd = 3 then 1 else kd)) else 0))) (p := a) (m := fg_fgt T (Z.1 a) b (if kd = 3 then 1 else kd))) (p := a) (m := lv a + 1)
  first
    | exact absurd c206 c183
    | exact absurd c183 c206
    | (simp only [if_pos c183] at q1 ⊢; exact q1)
    | (simp only [if_neg c183] at q1 ⊢; exact q1)))
              · refine fg_aloadn (fg_ft (pc := 209) tb_Mo_does 129 rfl) rfl ?_
                refine fg_getR (fg_ft (pc := 210) tb_Mo_does 130 rfl) ff_Mo_23 ly_287 rfl (fg_lt ly_287 (by decide)) (rh_287_12 R) ?_
                refine fg_iload (fg_ft (pc := 213) tb_Mo_does 131 rfl) rfl ?_
                refine fg_ialdV (v := (nI (Z.1 a))) (fg_ft (pc := 215) tb_Mo_does 132 rfl) ly_292 (fg_lt ly_292 (by decide)) (by omega) (hS.2.1 _ (by omega)) ?_
                refine fg_iload (fg_ft (pc := 216) tb_Mo_does 133 rfl) rfl ?_
                refine fg_iconst (fg_ft (pc := 218) tb_Mo_does 134 rfl) ic_m1 ?_
                refine fg_ixor (fg_ft (pc := 219) tb_Mo_does 135 rfl) ?_
                refine fg_iandD (fg_ft (pc := 220) tb_Mo_does 136 rfl) ?_
                refine fg_goto (tgt := 225) (fg_ft (pc := 221) tb_Mo_does 137 rfl) (by decide) ?_
                refine fg_iorN (fg_ft (pc := 225) tb_Mo_does 139 rfl) ?_
                refine fg_iastN (fg_ft (pc := 226) tb_Mo_does 140 rfl) ly_293 (fg_lt ly_293 (by decide)) (by omega) ?_
                show fg_wp _ _ _ _ _ _ _ _ _ (fg_u2 μ 293 a (nI ((hv a) ||| (fg_df (Z.1 a) (fg_fgt T (Z.1 a) b 1)))), fg_rho R, 304)
                refine fg_aloadn (fg_ft (pc := 227) tb_Mo_does 141 rfl) rfl ?_
                refine fg_getR (fg_ft (pc := 228) tb_Mo_does 142 rfl) ff_Mo_23 ly_287 rfl (fg_lt ly_287 (by decide)) (rh_287_12 R) ?_
                refine fg_iload (fg_ft (pc := 231) tb_Mo_does 143 rfl) rfl ?_
                refine fg_iload (fg_ft (pc := 233) tb_Mo_does 144 rfl) rfl ?_
                refine fg_iastN (fg_ft (pc := 235) tb_Mo_does 145 rfl) ly_292 (fg_lt ly_292 (by decide)) (by omega) ?_
                show fg_wp _ _ _ _ _ _ _ _ _ (fg_u2 (fg_u2 μ 293 a (nI ((hv a) ||| (fg_df (Z.1 a) (fg_fgt T (Z.1 a) b 1))))) 292 a (nI (fg_fgt T (Z.1 a) b 1)), fg_rho R, 304)
                refine fg_aloadn (fg_ft (pc := 236) tb_Mo_does 146 rfl) rfl ?_
                refine fg_getR (fg_ft (pc := 237) tb_Mo_does 147 rfl) ff_Mo_29 ly_287 rfl (fg_lt ly_287 (by decide)) (rh_287_14 R) ?_
                refine fg_iload (fg_ft (pc := 240) tb_Mo_does 148 rfl) rfl ?_
                refine fg_dup2 (fg_ft (pc := 242) tb_Mo_does 149 rfl) rfl rfl ?_
                refine fg_ialdV (v := (nI (lv a))) (fg_ft (pc := 243) tb_Mo_does 150 rfl) ly_294 (fg_lt ly_294 (by decide)) (by omega) ((fg_u2ne (f := (fg_u2 μ 293 a (nI ((hv a) ||| (fg_df (Z.1 a) (fg_fgt T (Z.1 a) b 1)))))) (a := 292) (k := a) (b := 294) (j := a) (x := (nI (fg_fgt T (Z.1 a) b 1))) (by decide)).trans ((fg_u2ne (f := μ) (a := 293) (k := a) (b := 294) (j := a) (x := (nI ((hv a) ||| (fg_df (Z.1 a) (fg_fgt T (Z.1 a) b 1))))) (by decide)).trans (hS.2.2.2.1 _ (by omega)))) ?_
                refine fg_iconst (fg_ft (pc := 244) tb_Mo_does 151 rfl) ic_1 ?_
                refine fg_iaddN (fg_ft (pc := 245) tb_Mo_does 152 rfl) ?_
                refine fg_iastN (fg_ft (pc := 246) tb_Mo_does 153 rfl) ly_294 (fg_lt ly_294 (by decide)) (by omega) ?_
                show fg_wp _ _ _ _ _ _ _ _ _ (fg_u2 (fg_u2 (fg_u2 μ 293 a (nI ((hv a) ||| (fg_df (Z.1 a) (fg_fgt T (Z.1 a) b 1))))) 292 a (nI (fg_fgt T (Z.1 a) b 1))) 294 a (nI ((lv a) + 1)), fg_rho R, 304)
                refine fg_iconst (fg_ft (pc := 247) tb_Mo_does 154 rfl) ic_1 ?_
                exact fg_zret (fg_ft (pc := 248) tb_Mo_does 155 rfl) rfl (by decide) rfl (hQ _ _ (by unfold fg_do; rw [if_neg (show ¬ kd = 6 by omega)]; rw [if_pos c57, if_neg c64, if_neg c143, if_pos c165]) _ n0 (fg_agP_tr (fg_agP_tr (fg_agP_u (Or.inr (Or.inl rfl))) (fg_agP_u (Or.inl rfl))) (fg_agP_u (Or.inr (Or.inr (Or.inl rfl))))) (by
  have q1 := fg_MS.loaves (fg_MS.minds (fg_MS.halves hS (p := a) (m := hv a ||| (if kd = 3 then fg_df (Z.1 a) (fg_fgt T (Z.1 a) b (if kd = 3 then 1 else kd)) else 0))) (p := a) (m := fg_fgt T (Z.1 a) b (if kd = 3 then 1 else kd))) (p := a) (m := lv a + 1)
  first
    | exact absurd c206 c183
    | exact absurd c183 c206
    | (simp only [if_pos c183] at q1 ⊢; exact q1)
    | (simp only [if_neg c183] at q1 ⊢; exact q1)))
          · refine fg_iconst (fg_ft (pc := 168) tb_Mo_does 104 rfl) ic_0 ?_
            exact fg_zret (fg_ft (pc := 169) tb_Mo_does 105 rfl) rfl (by decide) rfl (hQ0 (by unfold fg_do; rw [if_neg (show ¬ kd = 6 by omega)]; first | (rw [if_neg c57]; done) | (rw [if_pos c57, if_pos c64]; first | rw [if_neg (fun hh => c74 hh.1.1)] | rw [if_neg (fun hh => c90 hh.2)] | rw [if_neg (fun hh => c107 hh.1.2)]) | (rw [if_pos c57, if_neg c64]; first | (rw [if_pos c143, if_neg c136]; done) | (rw [if_neg c143, if_neg c165]; done) | (by_cases e4 : kd = 4; (rw [if_pos e4, if_neg c136]); (rw [if_neg e4, if_neg (fun hh => c136 (fg_bit_lt (hz.2.1 a c57).1 hh))])))))
        · refine fg_aloadn (fg_ft (pc := 146) tb_Mo_does 92 rfl) rfl ?_
          refine fg_iloadn (fg_ft (pc := 147) tb_Mo_does 93 rfl) rfl ?_
          refine fg_iload (fg_ft (pc := 148) tb_Mo_does 94 rfl) rfl ?_
          refine fg_iload (fg_ft (pc := 150) tb_Mo_does 95 rfl) rfl ?_
          refine fg_callV (fg_ft (pc := 152) tb_Mo_does 96 rfl) cf_Mo_218 (fg_isOf ly_287 rfl (fg_lt ly_287 (by decide))) (as := [.int (nI v), .int (nI a), .int (nI b)]) (st := []) rfl rfl (Nat.le_of_ble_eq_true rfl) (Nat.le_refl _) (Nat.le_refl _) (ev_Mo_learn hM hok hC (o := o) (lv := lv) (n0 := n0) (y := y) (h := h) (Z := Z) (hv := hv) hS hz (p := a) (f := b) (by omega) (by omega) ?_)
          intro μ2 hag2 hN2
          show fg_wp _ _ _ _ _ _ _ _ _ (μ2, fg_rho R, 304)
          refine fg_iconst (fg_ft (pc := 155) tb_Mo_does 97 rfl) ic_1 ?_
          exact fg_zret (fg_ft (pc := 156) tb_Mo_does 98 rfl) rfl (by decide) rfl (hQ _ _ (by unfold fg_do; rw [if_neg (show ¬ kd = 6 by omega)]; rw [if_pos c57, if_neg c64, if_pos c143, if_pos c136]) μ2 (n0 + nI (if (Z.1 a).testBit b = true then 0 else 1)) hag2 (fg_MS.lrz hN2 (hz.2.1 a c57).2))
      · refine fg_iconst (fg_ft (pc := 139) tb_Mo_does 87 rfl) ic_0 ?_
        exact fg_zret (fg_ft (pc := 140) tb_Mo_does 88 rfl) rfl (by decide) rfl (hQ0 (by unfold fg_do; rw [if_neg (show ¬ kd = 6 by omega)]; first | (rw [if_neg c57]; done) | (rw [if_pos c57, if_pos c64]; first | rw [if_neg (fun hh => c74 hh.1.1)] | rw [if_neg (fun hh => c90 hh.2)] | rw [if_neg (fun hh => c107 hh.1.2)]) | (rw [if_pos c57, if_neg c64]; first | (rw [if_pos c143, if_neg c136]; done) | (rw [if_neg c143, if_neg c165]; done) | (by_cases e4 : kd = 4; (rw [if_pos e4, if_neg c136]); (rw [if_neg e4, if_neg (fun hh => c136 (fg_bit_lt (hz.2.1 a c57).1 hh))])))))
    · have h3b := (h3 c64).2
      refine fg_aloadn (fg_ft (pc := 67) tb_Mo_does 43 rfl) rfl ?_
      refine fg_iloadn (fg_ft (pc := 68) tb_Mo_does 44 rfl) rfl ?_
      refine fg_iload (fg_ft (pc := 69) tb_Mo_does 45 rfl) rfl ?_
      refine fg_callV (fg_ft (pc := 71) tb_Mo_does 46 rfl) cf_Mo_230 (fg_isOf ly_287 rfl (fg_lt ly_287 (by decide))) (as := [.int (nI v), .int (nI b)]) (st := []) rfl rfl (Nat.le_of_ble_eq_true rfl) (Nat.le_refl _) (Nat.le_refl _) (ev_Mo_isPerson hM hok (k := b) (Nat.lt_trans (show _ < 2 ^ 31 from by omega) (by decide)) ?_)
      refine fg_ifB_eq (tgt := 110) (fg_ft (pc := 74) tb_Mo_does 47 rfl) (by decide) (fun c74 => ?_) (fun c74 => ?_)
      · refine fg_iconst (fg_ft (pc := 110) tb_Mo_does 68 rfl) ic_0 ?_
        exact fg_zret (fg_ft (pc := 111) tb_Mo_does 69 rfl) rfl (by decide) rfl (hQ0 (by unfold fg_do; rw [if_neg (show ¬ kd = 6 by omega)]; first | (rw [if_neg c57]; done) | (rw [if_pos c57, if_pos c64]; first | rw [if_neg (fun hh => c74 hh.1.1)] | rw [if_neg (fun hh => c90 hh.2)] | rw [if_neg (fun hh => c107 hh.1.2)]) | (rw [if_pos c57, if_neg c64]; first | (rw [if_pos c143, if_neg c136]; done) | (rw [if_neg c143, if_neg c165]; done) | (by_cases e4 : kd = 4; (rw [if_pos e4, if_neg c136]); (rw [if_neg e4, if_neg (fun hh => c136 (fg_bit_lt (hz.2.1 a c57).1 hh))])))))
      · refine fg_aloadn (fg_ft (pc := 77) tb_Mo_does 48 rfl) rfl ?_
        refine fg_iloadn (fg_ft (pc := 78) tb_Mo_does 49 rfl) rfl ?_
        refine fg_aloadn (fg_ft (pc := 79) tb_Mo_does 50 rfl) rfl ?_
        refine fg_getR (fg_ft (pc := 80) tb_Mo_does 51 rfl) ff_Mo_7 ly_287 rfl (fg_lt ly_287 (by decide)) (rh_287_0 R) ?_
        refine fg_iloadn (fg_ft (pc := 83) tb_Mo_does 52 rfl) rfl ?_
        refine fg_iconst (fg_ft (pc := 84) tb_Mo_does 53 rfl) ic_3 ?_
        refine fg_iaddN (fg_ft (pc := 85) tb_Mo_does 54 rfl) ?_
        refine fg_ialdV (v := (nI c)) (fg_ft (pc := 86) tb_Mo_does 55 rfl) ly_288 (fg_lt ly_288 (by decide)) (by omega) (h3 c64).1 ?_
        refine fg_callV (fg_ft (pc := 87) tb_Mo_does 56 rfl) cf_Mo_233 (fg_isOf ly_287 rfl (fg_lt ly_287 (by decide))) (as := [.int (nI v), .int (nI c)]) (st := []) rfl rfl (Nat.le_of_ble_eq_true rfl) (Nat.le_refl _) (Nat.le_refl _) (ev_Mo_isFact hM hok (k := c) (Nat.lt_trans (show _ < 2 ^ 31 from by omega) (by decide)) ?_)
        refine fg_ifB_eq (tgt := 110) (fg_ft (pc := 90) tb_Mo_does 57 rfl) (by decide) (fun c90 => ?_) (fun c90 => ?_)
        · refine fg_iconst (fg_ft (pc := 110) tb_Mo_does 68 rfl) ic_0 ?_
          exact fg_zret (fg_ft (pc := 111) tb_Mo_does 69 rfl) rfl (by decide) rfl (hQ0 (by unfold fg_do; rw [if_neg (show ¬ kd = 6 by omega)]; first | (rw [if_neg c57]; done) | (rw [if_pos c57, if_pos c64]; first | rw [if_neg (fun hh => c74 hh.1.1)] | rw [if_neg (fun hh => c90 hh.2)] | rw [if_neg (fun hh => c107 hh.1.2)]) | (rw [if_pos c57, if_neg c64]; first | (rw [if_pos c143, if_neg c136]; done) | (rw [if_neg c143, if_neg c165]; done) | (by_cases e4 : kd = 4; (rw [if_pos e4, if_neg c136]); (rw [if_neg e4, if_neg (fun hh => c136 (fg_bit_lt (hz.2.1 a c57).1 hh))])))))
        · refine fg_aloadn (fg_ft (pc := 93) tb_Mo_does 58 rfl) rfl ?_
          refine fg_iload (fg_ft (pc := 94) tb_Mo_does 59 rfl) rfl ?_
          refine fg_aloadn (fg_ft (pc := 96) tb_Mo_does 60 rfl) rfl ?_
          refine fg_getR (fg_ft (pc := 97) tb_Mo_does 61 rfl) ff_Mo_7 ly_287 rfl (fg_lt ly_287 (by decide)) (rh_287_0 R) ?_
          refine fg_iloadn (fg_ft (pc := 100) tb_Mo_does 62 rfl) rfl ?_
          refine fg_iconst (fg_ft (pc := 101) tb_Mo_does 63 rfl) ic_3 ?_
          refine fg_iaddN (fg_ft (pc := 102) tb_Mo_does 64 rfl) ?_
          refine fg_ialdV (v := (nI c)) (fg_ft (pc := 103) tb_Mo_does 65 rfl) ly_288 (fg_lt ly_288 (by decide)) (by omega) (h3 c64).1 ?_
          refine fg_callV (fg_ft (pc := 104) tb_Mo_does 66 rfl) cf_Mo_212 (fg_isOf ly_287 rfl (fg_lt ly_287 (by decide))) (as := [.int (nI b), .int (nI c)]) (st := []) rfl rfl (Nat.le_of_ble_eq_true rfl) (Nat.le_refl _) (Nat.le_refl _) (ev_Mo_knows (Mv := Z.1) (T := T) (hS.2.1) (p := b) (f := c) (by omega) (by omega) (fg_km hok hz (by omega)) ?_)
          refine fg_ifB_ne (tgt := 112) (fg_ft (pc := 107) tb_Mo_does 67 rfl) (by decide) (fun c107 => ?_) (fun c107 => ?_)
          · refine fg_aloadn (fg_ft (pc := 112) tb_Mo_does 70 rfl) rfl ?_
            refine fg_iloadn (fg_ft (pc := 113) tb_Mo_does 71 rfl) rfl ?_
            refine fg_iload (fg_ft (pc := 114) tb_Mo_does 72 rfl) rfl ?_
            refine fg_aloadn (fg_ft (pc := 116) tb_Mo_does 73 rfl) rfl ?_
            refine fg_getR (fg_ft (pc := 117) tb_Mo_does 74 rfl) ff_Mo_7 ly_287 rfl (fg_lt ly_287 (by decide)) (rh_287_0 R) ?_
            refine fg_iloadn (fg_ft (pc := 120) tb_Mo_does 75 rfl) rfl ?_
            refine fg_iconst (fg_ft (pc := 121) tb_Mo_does 76 rfl) ic_3 ?_
            refine fg_iaddN (fg_ft (pc := 122) tb_Mo_does 77 rfl) ?_
            refine fg_ialdV (v := (nI c)) (fg_ft (pc := 123) tb_Mo_does 78 rfl) ly_288 (fg_lt ly_288 (by decide)) (by omega) (h3 c64).1 ?_
            refine fg_callV (fg_ft (pc := 124) tb_Mo_does 79 rfl) cf_Mo_218 (fg_isOf ly_287 rfl (fg_lt ly_287 (by decide))) (as := [.int (nI v), .int (nI a), .int (nI c)]) (st := []) rfl rfl (Nat.le_of_ble_eq_true rfl) (Nat.le_refl _) (Nat.le_refl _) (ev_Mo_learn hM hok hC (o := o) (lv := lv) (n0 := n0) (y := y) (h := h) (Z := Z) (hv := hv) hS hz (p := a) (f := c) (by omega) (by omega) ?_)
            intro μ2 hag2 hN2
            show fg_wp _ _ _ _ _ _ _ _ _ (μ2, fg_rho R, 304)
            refine fg_iconst (fg_ft (pc := 127) tb_Mo_does 80 rfl) ic_1 ?_
            exact fg_zret (fg_ft (pc := 128) tb_Mo_does 81 rfl) rfl (by decide) rfl (hQ _ _ (by unfold fg_do; rw [if_neg (show ¬ kd = 6 by omega)]; rw [if_pos c57, if_pos c64, if_pos ⟨⟨c74, c107⟩, c90⟩]) μ2 (n0 + nI (if (Z.1 a).testBit c = true then 0 else 1)) hag2 (fg_MS.lrz hN2 (hz.2.1 a c57).2))
          · refine fg_iconst (fg_ft (pc := 110) tb_Mo_does 68 rfl) ic_0 ?_
            exact fg_zret (fg_ft (pc := 111) tb_Mo_does 69 rfl) rfl (by decide) rfl (hQ0 (by unfold fg_do; rw [if_neg (show ¬ kd = 6 by omega)]; first | (rw [if_neg c57]; done) | (rw [if_pos c57, if_pos c64]; first | rw [if_neg (fun hh => c74 hh.1.1)] | rw [if_neg (fun hh => c90 hh.2)] | rw [if_neg (fun hh => c107 hh.1.2)]) | (rw [if_pos c57, if_neg c64]; first | (rw [if_pos c143, if_neg c136]; done) | (rw [if_neg c143, if_neg c165]; done) | (by_cases e4 : kd = 4; (rw [if_pos e4, if_neg c136]); (rw [if_neg e4, if_neg (fun hh => c136 (fg_bit_lt (hz.2.1 a c57).1 hh))])))))
  · refine fg_iconst (fg_ft (pc := 60) tb_Mo_does 38 rfl) ic_0 ?_
    exact fg_zret (fg_ft (pc := 61) tb_Mo_does 39 rfl) rfl (by decide) rfl (hQ0 (by unfold fg_do; rw [if_neg (show ¬ kd = 6 by omega)]; first | (rw [if_neg c57]; done) | (rw [if_pos c57, if_pos c64]; first | rw [if_neg (fun hh => c74 hh.1.1)] | rw [if_neg (fun hh => c90 hh.2)] | rw [if_neg (fun hh => c107 hh.1.2)]) | (rw [if_pos c57, if_neg c64]; first | (rw [if_pos c143, if_neg c136]; done) | (rw [if_neg c143, if_neg c165]; done) | (by_cases e4 : kd = 4; (rw [if_pos e4, if_neg c136]); (rw [if_neg e4, if_neg (fun hh => c136 (fg_bit_lt (hz.2.1 a c57).1 hh))])))))
theorem ev_Mo_does {E : fg_E} {d : Nat} {μ : Nat → Nat → Int32} {R : fg_T4} {Q : Option Value → fg_M → Prop} {v : Nat} {T : Nat → Nat} (hM : fg_MT (μ 288) v T) (hok : fg_ok T) (hC : fg_MC μ T) {n0 y : Int32} {o : Option Nat × Nat × Nat} {h : Nat} {Z : fg_Z} {hv lv : Nat → Nat} (hS : fg_MS μ T (h, Z, hv) lv o n0 y) (hz : fg_zok T h Z hv) (ho1 : ∀ q, o.1 = some q → q < 2 ^ 31) (ho2 : o.2.1 < 2 ^ 31) (ho3 : o.2.2 < 2 ^ 31) {dd kd a b c : Nat} (hd : dd + 4 ≤ 5120) {D : Nat → Int32} {k : Nat} (hac : fg_ac D k kd a b c) (hD : ∀ i, i < 4 → μ 288 (dd + i) = D (1 + (k * 4 + i))) (hQ0 : fg_do T o kd a b c (h, Z, hv) lv = none → Q (some (.int (nI 0))) (μ, fg_rho R, 304)) (hQ : ∀ (S' : fg_H3) (lv' : Nat → Nat), fg_do T o kd a b c (h, Z, hv) lv = some (S', lv') → ∀ (μ' : Nat → Nat → Int32) (n0' : Int32), fg_agP μ μ' → fg_MS μ' T S' lv' o n0' y → Q (some (.int (nI 1))) (μ', fg_rho R, 304)) : fg_Ev E yy_Mo_does (d + 5) [.ref 287, .int (nI v), .int (nI dd)] (μ, fg_rho R, 304) 304 Q := by
  obtain ⟨g1, g2, g3, g4⟩ := hac
  rcases Nat.lt_or_ge kd 6 with q | q
  · refine ev_Mo_doesAct hM hok hC hS hz ho1 ho2 ho3 hd ((hD 0 (by decide)).trans g2) (by omega) ⟨(hD 1 (by decide)).trans (g3 (by omega)).1, (hD 2 (by decide)).trans (g3 (by omega)).2.1, (g3 (by omega)).2.2⟩ (fun z => ⟨(hD 3 (by decide)).trans (g4 z).1, (g4 z).2⟩) hQ0 hQ
  · exact ev_Mo_doesHour hM hok hC hS hz ho1 ho2 ho3 hd ((hD 0 (by decide)).trans g2) (by omega) hQ0 hQ
