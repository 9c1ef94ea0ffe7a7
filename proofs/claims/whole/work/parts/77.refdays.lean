/-! seeded days -/
def fg_agD (μ μ' : Nat → Nat → Int32) : Prop := (∀ a, a ≠ 287 → a ≠ 292 → a ≠ 293 → a ≠ 294 → ∀ j, μ' a j = μ a j) ∧ ∀ j, j ≠ 15 → j ≠ 16 → j ≠ 20 → j ≠ 34 → μ' 287 j = μ 287 j
theorem fg_agD_rf (μ : Nat → Nat → Int32) : fg_agD μ μ := ⟨fun _ _ _ _ _ _ => rfl, fun _ _ _ _ _ => rfl⟩
theorem fg_agD_tr {μ μ' μ'' : Nat → Nat → Int32} (h1 : fg_agD μ μ') (h2 : fg_agD μ' μ'') : fg_agD μ μ'' := ⟨fun a a1 a2 a3 a4 j => (h2.1 a a1 a2 a3 a4 j).trans (h1.1 a a1 a2 a3 a4 j), fun j j1 j2 j3 j4 => (h2.2 j j1 j2 j3 j4).trans (h1.2 j j1 j2 j3 j4)⟩
theorem fg_agD_P {μ μ' : Nat → Nat → Int32} (h : fg_agP μ μ') : fg_agD μ μ' := ⟨h.1, fun j j1 j2 j3 _ => h.2 j j1 j2 j3⟩
theorem fg_agD_x {μ : Nat → Nat → Int32} {x : Int32} : fg_agD μ (fg_u2 μ 287 34 x) := ⟨fun _ a1 _ _ _ _ => fg_u2ne a1, fun _ _ _ _ j4 => fg_u2ns j4⟩
theorem fg_agR_D {μ μ' : Nat → Nat → Int32} (h : fg_agD μ μ') : fg_agR μ μ' := ⟨fun a ha j => h.1 a (by omega) (by omega) (by omega) (by omega) j, h.2 17 (by decide) (by decide) (by decide) (by decide), h.2 19 (by decide) (by decide) (by decide) (by decide)⟩
theorem fg_MT.agD {μ μ' : Nat → Nat → Int32} {v : Nat} {T : Nat → Nat} (h : fg_MT (μ 288) v T) (e : fg_agD μ μ') : fg_MT (μ' 288) v T := h.ag (e.1 288 (by decide) (by decide) (by decide) (by decide))
theorem fg_MC.agD {μ μ' : Nat → Nat → Int32} {T : Nat → Nat} (h : fg_MC μ T) (e : fg_agD μ μ') : fg_MC μ' T := h.ag (e.1 291 (by decide) (by decide) (by decide) (by decide))
theorem fg_MS.x34 {μ : Nat → Nat → Int32} {T : Nat → Nat} {S : fg_H3} {lv : Nat → Nat} {o : Option Nat × Nat × Nat} {n0 y x : Int32} (H : fg_MS μ T S lv o n0 y) : fg_MS (fg_u2 μ 287 34 x) T S lv o n0 y := by
  obtain ⟨h1, h2, h3, h4, h5, h6, h7, h8, h9⟩ := H
  exact ⟨(fg_u2ns (by decide)).trans h1, fun q hq => (fg_u2ne (by decide)).trans (h2 q hq), fun q hq => (fg_u2ne (by decide)).trans (h3 q hq), fun q hq => (fg_u2ne (by decide)).trans (h4 q hq), (fg_u2ns (by decide)).trans h5, (fg_u2ns (by decide)).trans h6, (fg_u2ns (by decide)).trans h7, h8.elim Or.inl (fun z => Or.inr ((fg_u2ns (by decide)).trans z)), (fg_u2ns (by decide)).trans h9⟩
theorem fg_sumL_up {n2 p : Nat} {lv : Nat → Nat} (hp : p < n2) : ∀ k, fg_sumL n2 (fg_up1 lv p (lv p + 1)) k = fg_sumL n2 lv k + (if p < k then 1 else 0) := by
  intro k
  induction k with
  | zero => rfl
  | succ k ih =>
    show fg_sumL n2 (fg_up1 lv p (lv p + 1)) k + (if k < n2 then fg_up1 lv p (lv p + 1) k else 0) = fg_sumL n2 lv k + (if k < n2 then lv k else 0) + (if p < k + 1 then 1 else 0)
    rw [ih]
    rcases Nat.decEq k p with e | e
    · rw [fg_up1_ne e]
      by_cases c : p < k
      · rw [if_pos c, if_pos (show p < k + 1 by omega)]; omega
      · rw [if_neg c, if_neg (show ¬ p < k + 1 by omega)]; omega
    · subst e
      rw [fg_up1_eq, if_pos hp, if_pos hp, if_neg (Nat.lt_irrefl _), if_pos (Nat.lt_succ_self _)]; omega
theorem ev_Mo_drawn {E : fg_E} {d : Nat} {μ : Nat → Nat → Int32} {R : fg_T4} {Q : Option Value → fg_M → Prop} {n : Nat} {x : Int32} (hn0 : 0 < n) (hn31 : n < 2 ^ 31) (hx : μ 287 34 = x) (hQ : Q (some (.int (nI (fg_bl (fg_dr x) n)))) (fg_u2 μ 287 34 (fg_dr x), fg_rho R, 304)) : fg_Ev E yy_Mo_drawn (d + 1) [.ref 287, .int (nI n)] (μ, fg_rho R, 304) 304 Q := by
  refine fg_intro (by decide +kernel) (Nat.le_of_ble_eq_true rfl) (fg_okAs rfl) (Nat.le_refl _) ?_
  refine fg_aloadn (fg_ft (pc := 0) tb_Mo_drawn 0 rfl) rfl ?_
  refine fg_aloadn (fg_ft (pc := 1) tb_Mo_drawn 1 rfl) rfl ?_
  refine fg_getV (v := x) (fg_ft (pc := 2) tb_Mo_drawn 2 rfl) ff_Mo_336 ly_287 rfl (fg_lt ly_287 (by decide)) hx ?_
  refine fg_ldcw (fg_ft (pc := 5) tb_Mo_drawn 3 rfl) fd_Mo_339 ?_
  refine fg_imul (fg_ft (pc := 8) tb_Mo_drawn 4 rfl) ?_
  refine fg_sipush (fg_ft (pc := 9) tb_Mo_drawn 5 rfl) is_12345 ?_
  refine fg_iadd (fg_ft (pc := 12) tb_Mo_drawn 6 rfl) ?_
  refine fg_top (y := fg_dr x) (by unfold fg_dr; rfl) ?_
  refine fg_putI (fg_ft (pc := 13) tb_Mo_drawn 7 rfl) ff_Mo_336 ly_287 rfl (fg_lt ly_287 (by decide)) (fg_nokI _) (fun _ _ h => by cases h; rfl) ?_
  show fg_wp _ _ _ _ _ _ _ _ _ (fg_u2 μ 287 34 (fg_dr x), fg_rho R, 304)
  refine fg_aloadn (fg_ft (pc := 16) tb_Mo_drawn 8 rfl) rfl ?_
  refine fg_getV (v := (fg_dr x)) (fg_ft (pc := 17) tb_Mo_drawn 9 rfl) ff_Mo_336 ly_287 rfl (fg_lt ly_287 (by decide)) (fg_u2eq (f := μ) (a := 287) (k := 34) (x := fg_dr x)) ?_
  refine fg_bipush (fg_ft (pc := 20) tb_Mo_drawn 10 rfl) ib_16 ?_
  refine fg_iushr (fg_ft (pc := 22) tb_Mo_drawn 11 rfl) ?_
  refine fg_iloadn (fg_ft (pc := 23) tb_Mo_drawn 12 rfl) rfl ?_
  refine fg_irem (fg_ft (pc := 24) tb_Mo_drawn 13 rfl) (fun h => absurd (nI_inj0 hn31 h) (by omega)) ?_
  exact fg_iret (fg_ft (pc := 25) tb_Mo_drawn 14 rfl) rfl rfl (by rw [show fg_bl (fg_dr x) n = _ from if_neg (by omega)] at hQ; rw [fg_ush, nI_rem (by have h3 : (fg_dr x).toUInt32.toNat < 4294967296 := (fg_dr x).toUInt32.toBitVec.isLt; omega) hn31]; exact hQ)
theorem ev_Mo_eatsOne {E : fg_E} {d : Nat} {μ : Nat → Nat → Int32} {R : fg_T4} {Q : Option Value → fg_M → Prop} {v : Nat} {T : Nat → Nat} (hM : fg_MT (μ 288) v T) (hok : fg_ok T) (hC : fg_MC μ T) {n0 y : Int32} {o : Option Nat × Nat × Nat} {h : Nat} {Z : fg_Z} {hv lv : Nat → Nat} (hS : fg_MS μ T (h, Z, hv) lv o n0 y) (hz : fg_zok T h Z hv) {p kk : Nat} {x : Int32} (hpT : p < T 2) (hm0 : Z.1 p ≠ 0) (hx : μ 287 34 = x) (hkk : fg_fa (Z.1 p) 10 0 (fg_bl (fg_dr x) (fg_pc (Z.1 p))) = some kk) (hQ : ∀ μ' : Nat → Nat → Int32, fg_agD μ μ' → fg_MS μ' T (h, (fg_up1 Z.1 p (fg_fgt T (Z.1 p) kk 1), Z.2), hv) (fg_up1 lv p (lv p + 1)) o n0 y → μ' 287 34 = fg_dr x → Q none (μ', fg_rho R, 304)) : fg_Ev E yy_Mo_eatsOne (d + 4) [.ref 287, .int (nI v), .int (nI p)] (μ, fg_rho R, 304) 304 Q := by
  have hv0 := hM.1
  have hb0 := hok.1
  have hb1 := hok.2.1
  have hp := hok.p
  have hq := Nat.two_pow_pos (T 0)
  have hSx := hS.x34 (x := fg_dr x)
  have hMx := hM.agD (fg_agD_x (x := fg_dr x))
  have hCx := hC.agD (fg_agD_x (x := fg_dr x))
  have hmp := (hz.2.1 p hpT).1
  have hp10 := Nat.lt_of_lt_of_le hmp (Nat.pow_le_pow_right (n := 2) (j := 10) (by decide) hok.1.2)
  have loop : ∀ (n k left : Nat), k + n = 10 → left < 2 ^ 31 → fg_fa (Z.1 p) n k left = some kk → fg_wp E yy_Mo_eatsOne (d + 4) 304 304 Q 17 [.ref 287, .int (nI v), .int (nI p), .int (nI left), .int (nI k)] [] ((fg_u2 μ 287 34 (fg_dr x)), fg_rho R, 304) := by
    intro n
    induction n with
    | zero => intro k left _ _ h; cases h
    | succ n ih =>
      intro k left hk hl hr
      refine fg_aloadn (fg_ft (pc := 17) tb_Mo_eatsOne 10 rfl) rfl ?_
      refine fg_iloadn (fg_ft (pc := 18) tb_Mo_eatsOne 11 rfl) rfl ?_
      refine fg_iload (fg_ft (pc := 19) tb_Mo_eatsOne 12 rfl) rfl ?_
      refine fg_callV (fg_ft (pc := 21) tb_Mo_eatsOne 13 rfl) cf_Mo_212 (fg_isOf ly_287 rfl (fg_lt ly_287 (by decide))) (as := [.int (nI p), .int (nI k)]) (st := []) rfl rfl (Nat.le_of_ble_eq_true rfl) (Nat.le_refl _) (Nat.le_refl _) (ev_Mo_knows (Mv := Z.1) (T := T) (fun q9 hq9 => ((fg_u2ne (f := μ) (a := 287) (k := 34) (b := 292) (j := q9) (x := (fg_dr x)) (by decide)).trans (hSx.2.1 q9 hq9))) (p := p) (f := k) (hpT) (by omega) (fg_km hok hz (hpT)) ?_)
      refine fg_ifB_eq (tgt := 31) (fg_ft (pc := 24) tb_Mo_eatsOne 14 rfl) (by decide) (fun c24 => ?_) (fun c24 => ?_)
      · refine fg_iloadn (fg_ft (pc := 31) tb_Mo_eatsOne 17 rfl) rfl ?_
        refine fg_aloadn (fg_ft (pc := 32) tb_Mo_eatsOne 18 rfl) rfl ?_
        refine fg_iloadn (fg_ft (pc := 33) tb_Mo_eatsOne 19 rfl) rfl ?_
        refine fg_iload (fg_ft (pc := 34) tb_Mo_eatsOne 20 rfl) rfl ?_
        refine fg_callV (fg_ft (pc := 36) tb_Mo_eatsOne 21 rfl) cf_Mo_212 (fg_isOf ly_287 rfl (fg_lt ly_287 (by decide))) (as := [.int (nI p), .int (nI k)]) (st := [.int (nI left)]) rfl rfl (Nat.le_of_ble_eq_true rfl) (Nat.le_refl _) (Nat.le_refl _) (ev_Mo_knows (Mv := Z.1) (T := T) (fun q9 hq9 => ((fg_u2ne (f := μ) (a := 287) (k := 34) (b := 292) (j := q9) (x := (fg_dr x)) (by decide)).trans (hSx.2.1 q9 hq9))) (p := p) (f := k) (hpT) (by omega) (fg_km hok hz (hpT)) ?_)
        refine fg_ifB_eq (tgt := 46) (fg_ft (pc := 39) tb_Mo_eatsOne 22 rfl) (by decide) (fun c39 => ?_) (fun c39 => ?_)
        · refine fg_iconst (fg_ft (pc := 46) tb_Mo_eatsOne 25 rfl) ic_0 ?_
          refine fg_isubN (fg_ft (pc := 47) tb_Mo_eatsOne 26 rfl) (by first | omega | exact absurd c39 c24) ?_
          refine fg_istoren (fg_ft (pc := 48) tb_Mo_eatsOne 27 rfl) (Nat.le_of_ble_eq_true rfl) ?_
          refine fg_iincN (fg_ft (pc := 49) tb_Mo_eatsOne 28 rfl) rfl ic_1 rfl ?_
          refine fg_goto (tgt := 17) (fg_ft (pc := 52) tb_Mo_eatsOne 29 rfl) (by decide) ?_
          first
            | exact absurd c24 c39
            | exact absurd c39 c24
            | exact ih (k + 1) _ (by omega) (by omega) (by rw [← hr]; show _ = (if (Z.1 p).testBit k = true then (if left = 0 then some k else fg_fa (Z.1 p) n (k + 1) (left - 1)) else fg_fa (Z.1 p) n (k + 1) left); first | (rw [if_pos c24, if_neg (by omega)]; done) | (rw [if_neg c24]; rfl))
        · refine fg_iconst (fg_ft (pc := 42) tb_Mo_eatsOne 23 rfl) ic_1 ?_
          refine fg_goto (tgt := 47) (fg_ft (pc := 43) tb_Mo_eatsOne 24 rfl) (by decide) ?_
          refine fg_isubN (fg_ft (pc := 47) tb_Mo_eatsOne 26 rfl) (by first | omega | exact absurd c39 c24) ?_
          refine fg_istoren (fg_ft (pc := 48) tb_Mo_eatsOne 27 rfl) (Nat.le_of_ble_eq_true rfl) ?_
          refine fg_iincN (fg_ft (pc := 49) tb_Mo_eatsOne 28 rfl) rfl ic_1 rfl ?_
          refine fg_goto (tgt := 17) (fg_ft (pc := 52) tb_Mo_eatsOne 29 rfl) (by decide) ?_
          first
            | exact absurd c24 c39
            | exact absurd c39 c24
            | exact ih (k + 1) _ (by omega) (by omega) (by rw [← hr]; show _ = (if (Z.1 p).testBit k = true then (if left = 0 then some k else fg_fa (Z.1 p) n (k + 1) (left - 1)) else fg_fa (Z.1 p) n (k + 1) left); first | (rw [if_pos c24, if_neg (by omega)]; done) | (rw [if_neg c24]; rfl))
      · refine fg_iloadn (fg_ft (pc := 27) tb_Mo_eatsOne 15 rfl) rfl ?_
        refine fg_if_leN (tgt := 55) (fg_ft (pc := 28) tb_Mo_eatsOne 16 rfl) (by decide) (by omega) (fun c28 => ?_) (fun c28 => ?_)
        · obtain rfl : kk = k := by
            have q9 : (if (Z.1 p).testBit k = true then (if left = 0 then some k else fg_fa (Z.1 p) n (k + 1) (left - 1)) else fg_fa (Z.1 p) n (k + 1) left) = some kk := hr
            rw [if_pos c24, if_pos (by omega)] at q9
            cases q9; rfl
          refine fg_aloadn (fg_ft (pc := 55) tb_Mo_eatsOne 30 rfl) rfl ?_
          refine fg_getR (fg_ft (pc := 56) tb_Mo_eatsOne 31 rfl) ff_Mo_23 ly_287 rfl (fg_lt ly_287 (by decide)) (rh_287_12 R) ?_
          refine fg_iloadn (fg_ft (pc := 59) tb_Mo_eatsOne 32 rfl) rfl ?_
          refine fg_aloadn (fg_ft (pc := 60) tb_Mo_eatsOne 33 rfl) rfl ?_
          refine fg_aloadn (fg_ft (pc := 61) tb_Mo_eatsOne 34 rfl) rfl ?_
          refine fg_getR (fg_ft (pc := 62) tb_Mo_eatsOne 35 rfl) ff_Mo_23 ly_287 rfl (fg_lt ly_287 (by decide)) (rh_287_12 R) ?_
          refine fg_iloadn (fg_ft (pc := 65) tb_Mo_eatsOne 36 rfl) rfl ?_
          refine fg_ialdV (v := (nI (Z.1 p))) (fg_ft (pc := 66) tb_Mo_eatsOne 37 rfl) ly_292 (fg_lt ly_292 (by decide)) (by omega) ((fg_u2ne (f := μ) (a := 287) (k := 34) (b := 292) (j := p) (x := (fg_dr x)) (by decide)).trans (hSx.2.1 _ (by omega))) ?_
          refine fg_iconst (fg_ft (pc := 67) tb_Mo_eatsOne 38 rfl) ic_1 ?_
          refine fg_iload (fg_ft (pc := 68) tb_Mo_eatsOne 39 rfl) rfl ?_
          refine fg_ishl1 (fg_ft (pc := 70) tb_Mo_eatsOne 40 rfl) (by omega) ?_
          refine fg_iconst (fg_ft (pc := 71) tb_Mo_eatsOne 41 rfl) ic_0 ?_
          refine fg_callV (fg_ft (pc := 72) tb_Mo_eatsOne 42 rfl) cf_Mo_188 (fg_isOf ly_287 rfl (fg_lt ly_287 (by decide))) (as := [.int (nI (Z.1 p)), .int (nI (2 ^ kk)), .int (nI 0)]) (st := [.int (nI p), .ref 292]) rfl rfl (Nat.le_of_ble_eq_true rfl) (Nat.le_refl _) (Nat.le_refl _) (ev_Mo_bestPart hMx hok hCx (mind := (Z.1 p)) (gone := (2 ^ kk)) (kept := 0) (hmp) (by decide) ?_)
          refine fg_top (y := nI (fg_fgt T (Z.1 p) kk 1)) (by rw [(fg_lst_some hok _ _).1]; unfold fg_fgt; rw [if_pos c24, if_pos rfl]; rfl) ?_
          refine fg_iastN (fg_ft (pc := 75) tb_Mo_eatsOne 43 rfl) ly_292 (fg_lt ly_292 (by decide)) (by omega) ?_
          show fg_wp _ _ _ _ _ _ _ _ _ (fg_u2 (fg_u2 μ 287 34 (fg_dr x)) 292 p (nI (fg_fgt T (Z.1 p) kk 1)), fg_rho R, 304)
          refine fg_aloadn (fg_ft (pc := 76) tb_Mo_eatsOne 44 rfl) rfl ?_
          refine fg_getR (fg_ft (pc := 77) tb_Mo_eatsOne 45 rfl) ff_Mo_29 ly_287 rfl (fg_lt ly_287 (by decide)) (rh_287_14 R) ?_
          refine fg_iloadn (fg_ft (pc := 80) tb_Mo_eatsOne 46 rfl) rfl ?_
          refine fg_dup2 (fg_ft (pc := 81) tb_Mo_eatsOne 47 rfl) rfl rfl ?_
          refine fg_ialdV (v := (nI (lv p))) (fg_ft (pc := 82) tb_Mo_eatsOne 48 rfl) ly_294 (fg_lt ly_294 (by decide)) (by omega) ((fg_u2ne (f := (fg_u2 μ 287 34 (fg_dr x))) (a := 292) (k := p) (b := 294) (j := p) (x := (nI (fg_fgt T (Z.1 p) kk 1))) (by decide)).trans ((fg_u2ne (f := μ) (a := 287) (k := 34) (b := 294) (j := p) (x := (fg_dr x)) (by decide)).trans (hSx.2.2.2.1 _ (by omega)))) ?_
          refine fg_iconst (fg_ft (pc := 83) tb_Mo_eatsOne 49 rfl) ic_1 ?_
          refine fg_iaddN (fg_ft (pc := 84) tb_Mo_eatsOne 50 rfl) ?_
          refine fg_iastN (fg_ft (pc := 85) tb_Mo_eatsOne 51 rfl) ly_294 (fg_lt ly_294 (by decide)) (by omega) ?_
          show fg_wp _ _ _ _ _ _ _ _ _ (fg_u2 (fg_u2 (fg_u2 μ 287 34 (fg_dr x)) 292 p (nI (fg_fgt T (Z.1 p) kk 1))) 294 p (nI ((lv p) + 1)), fg_rho R, 304)
          exact fg_vret (fg_ft (pc := 86) tb_Mo_eatsOne 52 rfl) rfl rfl (hQ _ (fg_agD_tr fg_agD_x (fg_agD_tr (fg_agD_P (fg_agP_u (Or.inl rfl))) (fg_agD_P (fg_agP_u (Or.inr (Or.inr (Or.inl rfl))))))) (hSx.minds.loaves) ((fg_u2ne (by decide)).trans ((fg_u2ne (by decide)).trans fg_u2eq)))
        · refine fg_iloadn (fg_ft (pc := 31) tb_Mo_eatsOne 17 rfl) rfl ?_
          refine fg_aloadn (fg_ft (pc := 32) tb_Mo_eatsOne 18 rfl) rfl ?_
          refine fg_iloadn (fg_ft (pc := 33) tb_Mo_eatsOne 19 rfl) rfl ?_
          refine fg_iload (fg_ft (pc := 34) tb_Mo_eatsOne 20 rfl) rfl ?_
          refine fg_callV (fg_ft (pc := 36) tb_Mo_eatsOne 21 rfl) cf_Mo_212 (fg_isOf ly_287 rfl (fg_lt ly_287 (by decide))) (as := [.int (nI p), .int (nI k)]) (st := [.int (nI left)]) rfl rfl (Nat.le_of_ble_eq_true rfl) (Nat.le_refl _) (Nat.le_refl _) (ev_Mo_knows (Mv := Z.1) (T := T) (fun q9 hq9 => ((fg_u2ne (f := μ) (a := 287) (k := 34) (b := 292) (j := q9) (x := (fg_dr x)) (by decide)).trans (hSx.2.1 q9 hq9))) (p := p) (f := k) (hpT) (by omega) (fg_km hok hz (hpT)) ?_)
          refine fg_ifB_eq (tgt := 46) (fg_ft (pc := 39) tb_Mo_eatsOne 22 rfl) (by decide) (fun c39 => ?_) (fun c39 => ?_)
          · refine fg_iconst (fg_ft (pc := 46) tb_Mo_eatsOne 25 rfl) ic_0 ?_
            refine fg_isubN (fg_ft (pc := 47) tb_Mo_eatsOne 26 rfl) (by first | omega | exact absurd c39 c24) ?_
            refine fg_istoren (fg_ft (pc := 48) tb_Mo_eatsOne 27 rfl) (Nat.le_of_ble_eq_true rfl) ?_
            refine fg_iincN (fg_ft (pc := 49) tb_Mo_eatsOne 28 rfl) rfl ic_1 rfl ?_
            refine fg_goto (tgt := 17) (fg_ft (pc := 52) tb_Mo_eatsOne 29 rfl) (by decide) ?_
            first
              | exact absurd c24 c39
              | exact absurd c39 c24
              | exact ih (k + 1) _ (by omega) (by omega) (by rw [← hr]; show _ = (if (Z.1 p).testBit k = true then (if left = 0 then some k else fg_fa (Z.1 p) n (k + 1) (left - 1)) else fg_fa (Z.1 p) n (k + 1) left); first | (rw [if_pos c24, if_neg (by omega)]; done) | (rw [if_neg c24]; rfl))
          · refine fg_iconst (fg_ft (pc := 42) tb_Mo_eatsOne 23 rfl) ic_1 ?_
            refine fg_goto (tgt := 47) (fg_ft (pc := 43) tb_Mo_eatsOne 24 rfl) (by decide) ?_
            refine fg_isubN (fg_ft (pc := 47) tb_Mo_eatsOne 26 rfl) (by first | omega | exact absurd c39 c24) ?_
            refine fg_istoren (fg_ft (pc := 48) tb_Mo_eatsOne 27 rfl) (Nat.le_of_ble_eq_true rfl) ?_
            refine fg_iincN (fg_ft (pc := 49) tb_Mo_eatsOne 28 rfl) rfl ic_1 rfl ?_
            refine fg_goto (tgt := 17) (fg_ft (pc := 52) tb_Mo_eatsOne 29 rfl) (by decide) ?_
            first
              | exact absurd c24 c39
              | exact absurd c39 c24
              | exact ih (k + 1) _ (by omega) (by omega) (by rw [← hr]; show _ = (if (Z.1 p).testBit k = true then (if left = 0 then some k else fg_fa (Z.1 p) n (k + 1) (left - 1)) else fg_fa (Z.1 p) n (k + 1) left); first | (rw [if_pos c24, if_neg (by omega)]; done) | (rw [if_neg c24]; rfl))
  refine fg_intro (by decide +kernel) (Nat.le_of_ble_eq_true rfl) (fg_okAs rfl) (Nat.le_refl _) ?_
  refine fg_aloadn (fg_ft (pc := 0) tb_Mo_eatsOne 0 rfl) rfl ?_
  refine fg_aloadn (fg_ft (pc := 1) tb_Mo_eatsOne 1 rfl) rfl ?_
  refine fg_getR (fg_ft (pc := 2) tb_Mo_eatsOne 2 rfl) ff_Mo_23 ly_287 rfl (fg_lt ly_287 (by decide)) (rh_287_12 R) ?_
  refine fg_iloadn (fg_ft (pc := 5) tb_Mo_eatsOne 3 rfl) rfl ?_
  refine fg_ialdV (v := (nI (Z.1 p))) (fg_ft (pc := 6) tb_Mo_eatsOne 4 rfl) ly_292 (fg_lt ly_292 (by decide)) (by omega) (hS.2.1 _ (by omega)) ?_
  refine fg_callS (fg_ft (pc := 7) tb_Mo_eatsOne 5 rfl) cf_Mo_185 (as := [.int (nI (Z.1 p))]) (st := [.ref 287]) rfl rfl (Nat.le_of_ble_eq_true rfl) (Nat.le_refl _) (Nat.le_refl _) (ev_Mo_many (s := (Z.1 p)) (by omega) ?_)
  refine fg_callV (fg_ft (pc := 10) tb_Mo_eatsOne 6 rfl) cf_Mo_340 (fg_isOf ly_287 rfl (fg_lt ly_287 (by decide))) (as := [.int (nI (fg_pc (Z.1 p)))]) (st := []) rfl rfl (Nat.le_of_ble_eq_true rfl) (Nat.le_refl _) (Nat.le_refl _) (ev_Mo_drawn (n := fg_pc (Z.1 p)) (x := x) (Nat.pos_of_ne_zero (fun h0 => hm0 (fg_pc0 (by omega) h0))) (by have := fg_pc_le (Z.1 p); omega) hx ?_)
  show fg_wp _ _ _ _ _ _ _ _ _ (fg_u2 μ 287 34 (fg_dr x), fg_rho R, 304)
  refine fg_istoren (fg_ft (pc := 13) tb_Mo_eatsOne 7 rfl) (Nat.le_of_ble_eq_true rfl) ?_
  refine fg_iconst (fg_ft (pc := 14) tb_Mo_eatsOne 8 rfl) ic_0 ?_
  refine fg_istore (fg_ft (pc := 15) tb_Mo_eatsOne 9 rfl) (Nat.le_of_ble_eq_true rfl) ?_
  exact loop 10 0 _ rfl fg_bl_lt hkk
