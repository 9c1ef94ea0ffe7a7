noncomputable def fg_tog (T : Nat → Nat) (M : Nat → Nat) (sort : Nat) : Nat := if sort = 0 then fg_andL T M (T 2) else if sort = 1 then fg_orL M (-1) (T 2) else fg_df (fg_frL T (T 2)) (fg_orL M (-1) (T 2))
theorem ev_Mo_together {E : fg_E} {d : Nat} {μ : Nat → Nat → Int32} {R : fg_T4} {Q : Option Value → fg_M → Prop} {v : Nat} {T : Nat → Nat} (hM : fg_MT (μ 288) v T) (hok : fg_ok T) (hC : fg_MC μ T) {n0 y : Int32} {o : Option Nat × Nat × Nat} {h : Nat} {Z : fg_Z} {hv lv : Nat → Nat} (hS : fg_MS μ T (h, Z, hv) lv o n0 y) (hz : fg_zok T h Z hv) {sort : Nat} (hsort : sort < 2 ^ 31) (hQ : Q (some (.int (nI (fg_tog T Z.1 sort)))) (μ, fg_rho R, 304))  : fg_Ev E yy_Mo_together (d + 3) [.ref 287, .int (nI v), .int (nI sort)] (μ, fg_rho R, 304) 304 Q := by
  have hv0 := hM.1
  have hb0 := hok.1
  have hb1 := hok.2.1
  have hp := hok.p
  have hq := Nat.two_pow_pos (T 0)
  have loop : ∀ (n k a b c : Nat), T 2 - k < n → k ≤ T 2 → a = fg_andL T Z.1 k → b = fg_orL Z.1 (-1) k → c = fg_frL T k → fg_wp E yy_Mo_together (d + 3) 304 304 Q 15 [.ref 287, .int (nI v), .int (nI sort), .int (nI a), .int (nI b), .int (nI c), .int (nI k)] [] (μ, fg_rho R, 304) := by
    intro n
    induction n with
    | zero => intro k a b c h; exact absurd h (Nat.not_lt_zero _)
    | succ n ih =>
      intro k a b c hn hk ha hb hc
      refine fg_iload (fg_ft (pc := 15) tb_Mo_together 10 rfl) rfl ?_
      refine fg_aloadn (fg_ft (pc := 17) tb_Mo_together 11 rfl) rfl ?_
      refine fg_getR (fg_ft (pc := 18) tb_Mo_together 12 rfl) ff_Mo_7 ly_287 rfl (fg_lt ly_287 (by decide)) (rh_287_0 R) ?_
      refine fg_iloadn (fg_ft (pc := 21) tb_Mo_together 13 rfl) rfl ?_
      refine fg_iconst (fg_ft (pc := 22) tb_Mo_together 14 rfl) ic_2 ?_
      refine fg_iaddN (fg_ft (pc := 23) tb_Mo_together 15 rfl) ?_
      refine fg_ialdV (v := (nI (T 2))) (fg_ft (pc := 24) tb_Mo_together 16 rfl) ly_288 (fg_lt ly_288 (by decide)) (by omega) (fg_MTat hM (i := v + 2) (k := 2) (by omega) (by omega)) ?_
      refine fg_icmp_geN (tgt := 74) (fg_ft (pc := 25) tb_Mo_together 17 rfl) (by decide) (by omega) (by omega) (fun c25 => ?_) (fun c25 => ?_)
      · refine fg_iloadn (fg_ft (pc := 74) tb_Mo_together 45 rfl) rfl ?_
        refine fg_if_neN (tgt := 82) (fg_ft (pc := 75) tb_Mo_together 46 rfl) (by decide) (by omega) (fun c75 => ?_) (fun c75 => ?_)
        · refine fg_iloadn (fg_ft (pc := 82) tb_Mo_together 49 rfl) rfl ?_
          refine fg_iconst (fg_ft (pc := 83) tb_Mo_together 50 rfl) ic_1 ?_
          refine fg_icmp_neN (tgt := 92) (fg_ft (pc := 84) tb_Mo_together 51 rfl) (by decide) (by omega) (by decide) (fun c84 => ?_) (fun c84 => ?_)
          · refine fg_iload (fg_ft (pc := 92) tb_Mo_together 54 rfl) rfl ?_
            refine fg_iload (fg_ft (pc := 94) tb_Mo_together 55 rfl) rfl ?_
            refine fg_iconst (fg_ft (pc := 96) tb_Mo_together 56 rfl) ic_m1 ?_
            refine fg_ixor (fg_ft (pc := 97) tb_Mo_together 57 rfl) ?_
            refine fg_iandD (fg_ft (pc := 98) tb_Mo_together 58 rfl) ?_
            exact fg_iret (fg_ft (pc := 99) tb_Mo_together 59 rfl) rfl rfl (fg_q hQ (by unfold fg_tog; rw [show T 2 = k by omega, ← ha, ← hb, ← hc]; first | rw [if_pos c75] | rw [if_neg c75, if_pos c84] | rw [if_neg c75, if_neg c84]))
          · refine fg_iload (fg_ft (pc := 87) tb_Mo_together 52 rfl) rfl ?_
            refine fg_goto (tgt := 99) (fg_ft (pc := 89) tb_Mo_together 53 rfl) (by decide) ?_
            exact fg_iret (fg_ft (pc := 99) tb_Mo_together 59 rfl) rfl rfl (fg_q hQ (by unfold fg_tog; rw [show T 2 = k by omega, ← ha, ← hb, ← hc]; first | rw [if_pos c75] | rw [if_neg c75, if_pos c84] | rw [if_neg c75, if_neg c84]))
        · refine fg_iloadn (fg_ft (pc := 78) tb_Mo_together 47 rfl) rfl ?_
          refine fg_goto (tgt := 99) (fg_ft (pc := 79) tb_Mo_together 48 rfl) (by decide) ?_
          exact fg_iret (fg_ft (pc := 99) tb_Mo_together 59 rfl) rfl rfl (fg_q hQ (by unfold fg_tog; rw [show T 2 = k by omega, ← ha, ← hb, ← hc]; first | rw [if_pos c75] | rw [if_neg c75, if_pos c84] | rw [if_neg c75, if_neg c84]))
      · refine fg_iloadn (fg_ft (pc := 28) tb_Mo_together 18 rfl) rfl ?_
        refine fg_aloadn (fg_ft (pc := 29) tb_Mo_together 19 rfl) rfl ?_
        refine fg_getR (fg_ft (pc := 30) tb_Mo_together 20 rfl) ff_Mo_23 ly_287 rfl (fg_lt ly_287 (by decide)) (rh_287_12 R) ?_
        refine fg_iload (fg_ft (pc := 33) tb_Mo_together 21 rfl) rfl ?_
        refine fg_ialdV (v := (nI (Z.1 k))) (fg_ft (pc := 35) tb_Mo_together 22 rfl) ly_292 (fg_lt ly_292 (by decide)) (by omega) (hS.2.1 _ (by omega)) ?_
        refine fg_iandN (fg_ft (pc := 36) tb_Mo_together 23 rfl) ?_
        refine fg_istoren (fg_ft (pc := 37) tb_Mo_together 24 rfl) (Nat.le_of_ble_eq_true rfl) ?_
        refine fg_iload (fg_ft (pc := 38) tb_Mo_together 25 rfl) rfl ?_
        refine fg_aloadn (fg_ft (pc := 40) tb_Mo_together 26 rfl) rfl ?_
        refine fg_getR (fg_ft (pc := 41) tb_Mo_together 27 rfl) ff_Mo_23 ly_287 rfl (fg_lt ly_287 (by decide)) (rh_287_12 R) ?_
        refine fg_iload (fg_ft (pc := 44) tb_Mo_together 28 rfl) rfl ?_
        refine fg_ialdV (v := (nI (Z.1 k))) (fg_ft (pc := 46) tb_Mo_together 29 rfl) ly_292 (fg_lt ly_292 (by decide)) (by omega) (hS.2.1 _ (by omega)) ?_
        refine fg_iorN (fg_ft (pc := 47) tb_Mo_together 30 rfl) ?_
        refine fg_istore (fg_ft (pc := 48) tb_Mo_together 31 rfl) (Nat.le_of_ble_eq_true rfl) ?_
        refine fg_iload (fg_ft (pc := 50) tb_Mo_together 32 rfl) rfl ?_
        refine fg_aloadn (fg_ft (pc := 52) tb_Mo_together 33 rfl) rfl ?_
        refine fg_iloadn (fg_ft (pc := 53) tb_Mo_together 34 rfl) rfl ?_
        refine fg_aloadn (fg_ft (pc := 54) tb_Mo_together 35 rfl) rfl ?_
        refine fg_iloadn (fg_ft (pc := 55) tb_Mo_together 36 rfl) rfl ?_
        refine fg_iload (fg_ft (pc := 56) tb_Mo_together 37 rfl) rfl ?_
        refine fg_iconst (fg_ft (pc := 58) tb_Mo_together 38 rfl) ic_1 ?_
        refine fg_callV (fg_ft (pc := 59) tb_Mo_together 39 rfl) cf_Mo_203 (fg_isOf ly_287 rfl (fg_lt ly_287 (by decide))) (as := [.int (nI v), .int (nI k), .int (nI 1)]) (st := [.int (nI v), .ref 287, .int (nI c)]) rfl rfl (Nat.le_of_ble_eq_true rfl) (Nat.le_refl _) (Nat.le_refl _) (ev_Mo_kept hM hok (p := k) (w := 1) (k := 41 + 3 * k) (by omega) (by omega) (by omega) ?_)
        refine fg_callV (fg_ft (pc := 62) tb_Mo_together 40 rfl) cf_Mo_206 (fg_isOf ly_287 rfl (fg_lt ly_287 (by decide))) (as := [.int (nI v), .int (nI (T (41 + 3 * k)))]) (st := [.int (nI c)]) rfl rfl (Nat.le_of_ble_eq_true rfl) (Nat.le_refl _) (Nat.le_refl _) (ev_Mo_follow hM hok hC (s := (T (41 + 3 * k))) ((hok.2.2.2.1 k (by omega)).2.1) ?_)
        refine fg_iorN (fg_ft (pc := 65) tb_Mo_together 41 rfl) ?_
        refine fg_istore (fg_ft (pc := 66) tb_Mo_together 42 rfl) (Nat.le_of_ble_eq_true rfl) ?_
        refine fg_iincN (fg_ft (pc := 68) tb_Mo_together 43 rfl) rfl ic_1 rfl ?_
        refine fg_goto (tgt := 15) (fg_ft (pc := 71) tb_Mo_together 44 rfl) (by decide) ?_
        exact ih (k + 1) _ _ _ (by omega) (by omega) (by rw [ha]; rfl) (by rw [hb]; show _ = fg_orL Z.1 (-1) k ||| (if nI k = -1 then 0 else Z.1 k); rw [if_neg (fg_nIm1 (by omega))]) (by rw [hc]; rfl)
  refine fg_intro (by decide +kernel) (Nat.le_of_ble_eq_true rfl) (fg_okAs rfl) (Nat.le_refl _) ?_
  refine fg_aloadn (fg_ft (pc := 0) tb_Mo_together 0 rfl) rfl ?_
  refine fg_iloadn (fg_ft (pc := 1) tb_Mo_together 1 rfl) rfl ?_
  refine fg_callV (fg_ft (pc := 2) tb_Mo_together 2 rfl) cf_Mo_169 (fg_isOf ly_287 rfl (fg_lt ly_287 (by decide))) (as := [.int (nI v)]) (st := []) rfl rfl (Nat.le_of_ble_eq_true rfl) (Nat.le_refl _) (Nat.le_refl _) (ev_Mo_wholeOf hM hok ?_)
  refine fg_istoren (fg_ft (pc := 5) tb_Mo_together 3 rfl) (Nat.le_of_ble_eq_true rfl) ?_
  refine fg_iconst (fg_ft (pc := 6) tb_Mo_together 4 rfl) ic_0 ?_
  refine fg_istore (fg_ft (pc := 7) tb_Mo_together 5 rfl) (Nat.le_of_ble_eq_true rfl) ?_
  refine fg_iconst (fg_ft (pc := 9) tb_Mo_together 6 rfl) ic_0 ?_
  refine fg_istore (fg_ft (pc := 10) tb_Mo_together 7 rfl) (Nat.le_of_ble_eq_true rfl) ?_
  refine fg_iconst (fg_ft (pc := 12) tb_Mo_together 8 rfl) ic_0 ?_
  refine fg_istore (fg_ft (pc := 13) tb_Mo_together 9 rfl) (Nat.le_of_ble_eq_true rfl) ?_
  exact loop (T 2 + 1) 0 _ 0 0 (by omega) (by omega) rfl rfl rfl
theorem fg_sumL_cut {n2 : Nat} {lv : Nat → Nat} : ∀ k, fg_sumL n2 lv (n2 + k) = fg_sumL n2 lv n2 := by
  intro k
  induction k with
  | zero => rfl
  | succ k ih =>
    show fg_sumL n2 lv (n2 + k) + (if n2 + k < n2 then lv (n2 + k) else 0) = _
    rw [if_neg (by omega), ih]
    rfl
theorem fg_MS.news0 {μ : Nat → Nat → Int32} {T : Nat → Nat} {h b c : Nat} {Mv hv lv : Nat → Nat} {o : Option Nat × Nat × Nat} {n0 y : Int32} (H : fg_MS μ T (h, (Mv, 0, b, c), hv) lv o n0 y) : fg_MS (fg_u2 μ 287 16 (nI 0)) T (h, (Mv, 0, b, c), hv) lv o 0 y := by
  obtain ⟨h1, h2, h3, h4, h5, h6, h7, h8, h9⟩ := H
  have e : ∀ j, j ≠ 16 → fg_u2 μ 287 16 (nI 0) 287 j = μ 287 j := fun j hj => fg_u2ns hj
  have ea : ∀ a j, a ≠ 287 → fg_u2 μ 287 16 (nI 0) a j = μ a j := fun a j ha => fg_u2ne ha
  exact ⟨(e _ (by decide)).trans h1, fun q hq => (ea _ _ (by decide)).trans (h2 q hq), fun q hq => (ea _ _ (by decide)).trans (h3 q hq), fun q hq => (ea _ _ (by decide)).trans (h4 q hq), fg_u2eq.trans (show nI 0 = (0 : Int32) + nI 0 by decide), (e _ (by decide)).trans h6, (e _ (by decide)).trans h7, h8.elim Or.inl (fun z => Or.inr ((e _ (by decide)).trans z)), (e _ (by decide)).trans h9⟩
theorem ev_Mo_state {E : fg_E} {d : Nat} {μ : Nat → Nat → Int32} {R : fg_T4} {Q : Option Value → fg_M → Prop} {A : fg_Tl} (hL : fg_ML (μ 288) A) (hw : fg_wA A) (h17 : μ 287 17 = -1) (h19 : μ 287 19 = nI 0) {town day n what : Nat} (htown : town < 2 ^ 32) (hday : day < 2 ^ 32) (hn : n < 2 ^ 32) (hwhat : what < 2 ^ 32) (hQ : ∀ μ' : Nat → Nat → Int32, fg_agR μ μ' → Q (some (.int (an_state A town day n what))) (μ', fg_rho R, 304)) : fg_Ev E yy_Mo_state (d + 12) [.ref 287, .int (nI town), .int (nI day), .int (nI n), .int (nI what)] (μ, fg_rho R, 304) 304 Q := by
  have ht2 := hw.2.1
  have hd3 := hw.2.2.1
  refine fg_intro (by decide +kernel) (Nat.le_of_ble_eq_true rfl) (fg_okAs rfl) (Nat.le_refl _) ?_
  refine fg_aloadn (fg_ft (pc := 0) tb_Mo_state 0 rfl) rfl ?_
  refine fg_iloadn (fg_ft (pc := 1) tb_Mo_state 1 rfl) rfl ?_
  refine fg_iloadn (fg_ft (pc := 2) tb_Mo_state 2 rfl) rfl ?_
  refine fg_iloadn (fg_ft (pc := 3) tb_Mo_state 3 rfl) rfl ?_
  refine fg_callV (fg_ft (pc := 4) tb_Mo_state 4 rfl) cf_Mo_249 (fg_isOf ly_287 rfl (fg_lt ly_287 (by decide))) (as := [.int (nI town), .int (nI day), .int (nI n)]) (st := []) rfl rfl (Nat.le_of_ble_eq_true rfl) (Nat.le_refl _) (Nat.le_refl _) (ev_Mo_isState hL hw h17 h19 htown hday hn (fun n4 μ1 ha1 => ?_) (fun S lv y4 μ1 n1 y1 ha1 hC1 hS1 => ?_))
  · refine fg_if_ne (tgt := 13) (fg_ft (pc := 7) tb_Mo_state 5 rfl) (by decide) (fun h => absurd h (by decide)) (fun _ => ?_)
    refine fg_bipush (fg_ft (pc := 10) tb_Mo_state 6 rfl) ib_m2 ?_
    exact fg_iret (fg_ft (pc := 12) tb_Mo_state 7 rfl) rfl rfl (fg_q (hQ _ (fg_agR_A ha1)) (by unfold an_state; rw [fg_g0_none n4]))
  · have ytc := fg_fnd_t y4
    have hok := hw.2.2.2.1 town ytc
    have hM1 := (hL.2.2.1 town ytc).ag ha1.m
    have hz : fg_zok (A.ts town) S.1 (S.2.1.1, 0, 0, 0) S.2.2 := fg_zok.news (fg_fnd_okW hw y4)
    have hv0 := hM1.1
    have hb0 := hok.1
    have hb1 := hok.2.1
    have hp := hok.p
    have hz9 := hz.1
    refine fg_if_ne (tgt := 13) (fg_ft (pc := 7) tb_Mo_state 5 rfl) (by decide) (fun _ => ?_) (fun h => absurd h (by decide))
    refine fg_iconst (fg_ft (pc := 13) tb_Mo_state 8 rfl) ic_0 ?_
    refine fg_iloadn (fg_ft (pc := 14) tb_Mo_state 9 rfl) rfl ?_
    refine fg_callS (fg_ft (pc := 15) tb_Mo_state 10 rfl) cf_Mo_166 (as := [.int (nI 0), .int (nI town)]) (st := []) rfl rfl (Nat.le_of_ble_eq_true rfl) (Nat.le_refl _) (Nat.le_refl _) (ev_Mo_placeOf0 (k := town) ?_)
    refine fg_istore (fg_ft (pc := 18) tb_Mo_state 11 rfl) (Nat.le_of_ble_eq_true rfl) ?_
    refine fg_aloadn (fg_ft (pc := 20) tb_Mo_state 12 rfl) rfl ?_
    refine fg_getR (fg_ft (pc := 21) tb_Mo_state 13 rfl) ff_Mo_7 ly_287 rfl (fg_lt ly_287 (by decide)) (rh_287_0 R) ?_
    refine fg_iload (fg_ft (pc := 24) tb_Mo_state 14 rfl) rfl ?_
    refine fg_iconst (fg_ft (pc := 26) tb_Mo_state 15 rfl) ic_2 ?_
    refine fg_iaddN (fg_ft (pc := 27) tb_Mo_state 16 rfl) ?_
    refine fg_ialdV (v := (nI ((A.ts town) 2))) (fg_ft (pc := 28) tb_Mo_state 17 rfl) ly_288 (fg_lt ly_288 (by decide)) (by omega) (fg_MTat hM1 (i := (610 + 152 * town) + 2) (k := 2) (by omega) (by omega)) ?_
    refine fg_istore (fg_ft (pc := 29) tb_Mo_state 18 rfl) (Nat.le_of_ble_eq_true rfl) ?_
    refine fg_iload (fg_ft (pc := 31) tb_Mo_state 19 rfl) rfl ?_
    refine fg_bipush (fg_ft (pc := 33) tb_Mo_state 20 rfl) ib_10 ?_
    refine fg_bipush (fg_ft (pc := 35) tb_Mo_state 21 rfl) ib_9 ?_
    refine fg_iload (fg_ft (pc := 37) tb_Mo_state 22 rfl) rfl ?_
    refine fg_iaddN (fg_ft (pc := 39) tb_Mo_state 23 rfl) ?_
    refine fg_callS (fg_ft (pc := 40) tb_Mo_state 24 rfl) cf_Mo_110 (as := [.int (nI what), .int (nI 10), .int (nI (9 + ((A.ts town) 2)))]) (st := []) rfl rfl (Nat.le_of_ble_eq_true rfl) (Nat.le_refl _) (Nat.le_refl _) (ev_Mo_isInC (k := what) (a := 10) (b := (9 + ((A.ts town) 2))) (hwhat) (by omega) (by omega) ?_)
    refine fg_ifB_eq (tgt := 57) (fg_ft (pc := 43) tb_Mo_state 25 rfl) (by decide) (fun c43 => ?_) (fun c43 => ?_)
    · refine fg_iload (fg_ft (pc := 57) tb_Mo_state 33 rfl) rfl ?_
      refine fg_bipush (fg_ft (pc := 59) tb_Mo_state 34 rfl) ib_20 ?_
      refine fg_bipush (fg_ft (pc := 61) tb_Mo_state 35 rfl) ib_19 ?_
      refine fg_iload (fg_ft (pc := 63) tb_Mo_state 36 rfl) rfl ?_
      refine fg_iaddN (fg_ft (pc := 65) tb_Mo_state 37 rfl) ?_
      refine fg_callS (fg_ft (pc := 66) tb_Mo_state 38 rfl) cf_Mo_110 (as := [.int (nI what), .int (nI 20), .int (nI (19 + ((A.ts town) 2)))]) (st := []) rfl rfl (Nat.le_of_ble_eq_true rfl) (Nat.le_refl _) (Nat.le_refl _) (ev_Mo_isInC (k := what) (a := 20) (b := (19 + ((A.ts town) 2))) (hwhat) (by omega) (by omega) ?_)
      refine fg_ifB_eq (tgt := 83) (fg_ft (pc := 69) tb_Mo_state 39 rfl) (by decide) (fun c69 => ?_) (fun c69 => ?_)
      · refine fg_iload (fg_ft (pc := 83) tb_Mo_state 47 rfl) rfl ?_
        refine fg_bipush (fg_ft (pc := 85) tb_Mo_state 48 rfl) ib_30 ?_
        refine fg_bipush (fg_ft (pc := 87) tb_Mo_state 49 rfl) ib_29 ?_
        refine fg_iload (fg_ft (pc := 89) tb_Mo_state 50 rfl) rfl ?_
        refine fg_iaddN (fg_ft (pc := 91) tb_Mo_state 51 rfl) ?_
        refine fg_callS (fg_ft (pc := 92) tb_Mo_state 52 rfl) cf_Mo_110 (as := [.int (nI what), .int (nI 30), .int (nI (29 + ((A.ts town) 2)))]) (st := []) rfl rfl (Nat.le_of_ble_eq_true rfl) (Nat.le_refl _) (Nat.le_refl _) (ev_Mo_isInC (k := what) (a := 30) (b := (29 + ((A.ts town) 2))) (hwhat) (by omega) (by omega) ?_)
        refine fg_ifB_eq (tgt := 109) (fg_ft (pc := 95) tb_Mo_state 53 rfl) (by decide) (fun c95 => ?_) (fun c95 => ?_)
        · refine fg_iload (fg_ft (pc := 109) tb_Mo_state 61 rfl) rfl ?_
          refine fg_iconst (fg_ft (pc := 111) tb_Mo_state 62 rfl) ic_3 ?_
          refine fg_iconst (fg_ft (pc := 112) tb_Mo_state 63 rfl) ic_5 ?_
          refine fg_callS (fg_ft (pc := 113) tb_Mo_state 64 rfl) cf_Mo_110 (as := [.int (nI what), .int (nI 3), .int (nI 5)]) (st := []) rfl rfl (Nat.le_of_ble_eq_true rfl) (Nat.le_refl _) (Nat.le_refl _) (ev_Mo_isInC (k := what) (a := 3) (b := 5) (hwhat) (by omega) (by omega) ?_)
          refine fg_ifB_eq (tgt := 130) (fg_ft (pc := 116) tb_Mo_state 65 rfl) (by decide) (fun c116 => ?_) (fun c116 => ?_)
          · refine fg_iconst (fg_ft (pc := 130) tb_Mo_state 73 rfl) ic_0 ?_
            refine fg_istore (fg_ft (pc := 131) tb_Mo_state 74 rfl) (Nat.le_of_ble_eq_true rfl) ?_
            refine fg_iconst (fg_ft (pc := 133) tb_Mo_state 75 rfl) ic_0 ?_
            refine fg_istore (fg_ft (pc := 134) tb_Mo_state 76 rfl) (Nat.le_of_ble_eq_true rfl) ?_
            have loop : ∀ (m k a : Nat), A.ts town 2 - k < m → k ≤ A.ts town 2 → a = fg_sumL (A.ts town 2) lv k → fg_wp E yy_Mo_state (d + 12) 304 304 Q 136 [.ref 287, .int (nI town), .int (nI day), .int (nI n), .int (nI what), .int (nI (610 + 152 * town)), .int (nI ((A.ts town) 2)), .int (nI a), .int (nI k)] [] (μ1, fg_rho R, 304) := by
              intro m
              induction m with
              | zero => intro k a h; exact absurd h (Nat.not_lt_zero _)
              | succ m ih =>
                intro k a hm hk ha
                refine fg_iload (fg_ft (pc := 136) tb_Mo_state 77 rfl) rfl ?_
                refine fg_iload (fg_ft (pc := 138) tb_Mo_state 78 rfl) rfl ?_
                refine fg_icmp_geN (tgt := 161) (fg_ft (pc := 140) tb_Mo_state 79 rfl) (by decide) (by omega) (by omega) (fun c140 => ?_) (fun c140 => ?_)
                · have ea : a = (fg_sumL (A.ts town 2) lv 5) := by
                    have e9 := fg_sumL_cut (n2 := A.ts town 2) (lv := lv) (5 - A.ts town 2)
                    rw [show A.ts town 2 + (5 - A.ts town 2) = 5 by omega] at e9
                    rw [ha, e9, show k = A.ts town 2 by omega]
                  rw [ea]
                  refine fg_iload (fg_ft (pc := 161) tb_Mo_state 89 rfl) rfl ?_
                  refine fg_bipush (fg_ft (pc := 163) tb_Mo_state 90 rfl) ib_6 ?_
                  refine fg_icmp_neW (tgt := 184) (fg_ft (pc := 165) tb_Mo_state 91 rfl) (by decide) (hwhat) (by decide) (fun c165 => ?_) (fun c165 => ?_)
                  · refine fg_iload (fg_ft (pc := 184) tb_Mo_state 101 rfl) rfl ?_
                    refine fg_if_neW (tgt := 196) (fg_ft (pc := 186) tb_Mo_state 102 rfl) (by decide) (hwhat) (fun c186 => ?_) (fun c186 => ?_)
                    · refine fg_iload (fg_ft (pc := 196) tb_Mo_state 106 rfl) rfl ?_
                      refine fg_iconst (fg_ft (pc := 198) tb_Mo_state 107 rfl) ic_1 ?_
                      refine fg_icmp_neW (tgt := 207) (fg_ft (pc := 199) tb_Mo_state 108 rfl) (by decide) (hwhat) (by decide) (fun c199 => ?_) (fun c199 => ?_)
                      · refine fg_iload (fg_ft (pc := 207) tb_Mo_state 111 rfl) rfl ?_
                        refine fg_iconst (fg_ft (pc := 209) tb_Mo_state 112 rfl) ic_2 ?_
                        refine fg_icmp_neW (tgt := 229) (fg_ft (pc := 210) tb_Mo_state 113 rfl) (by decide) (hwhat) (by decide) (fun c210 => ?_) (fun c210 => ?_)
                        · refine fg_bipush (fg_ft (pc := 229) tb_Mo_state 123 rfl) ib_m2 ?_
                          exact fg_iret (fg_ft (pc := 231) tb_Mo_state 124 rfl) rfl rfl (fg_q (hQ _ (fg_agR_A ha1)) (by unfold an_state; rw [fg_g0_some y4] <;> ((repeat (first | rw [if_pos (by assumption)] | rw [if_neg (by assumption)] | rw [if_pos (by omega)] | rw [if_neg (by omega)])); (try (unfold fg_one; (repeat (first | rw [if_pos (by assumption)] | rw [if_neg (by assumption)] | rw [if_pos (by omega)] | rw [if_neg (by omega)])))); (try (split <;> first | rfl | (rw [if_neg (by omega)]))))))
                        · refine fg_iload (fg_ft (pc := 213) tb_Mo_state 114 rfl) rfl ?_
                          refine fg_aloadn (fg_ft (pc := 215) tb_Mo_state 115 rfl) rfl ?_
                          refine fg_getR (fg_ft (pc := 216) tb_Mo_state 116 rfl) ff_Mo_7 ly_287 rfl (fg_lt ly_287 (by decide)) (rh_287_0 R) ?_
                          refine fg_iload (fg_ft (pc := 219) tb_Mo_state 117 rfl) rfl ?_
                          refine fg_bipush (fg_ft (pc := 221) tb_Mo_state 118 rfl) ib_7 ?_
                          refine fg_iaddN (fg_ft (pc := 223) tb_Mo_state 119 rfl) ?_
                          refine fg_ialdV (v := (nI ((A.ts town) 7))) (fg_ft (pc := 224) tb_Mo_state 120 rfl) ly_288 (fg_lt ly_288 (by decide)) (by omega) (fg_MTat hM1 (i := (610 + 152 * town) + 7) (k := 7) (by omega) (by omega)) ?_
                          refine fg_imulN (fg_ft (pc := 225) tb_Mo_state 121 rfl) ?_
                          refine fg_goto (tgt := 231) (fg_ft (pc := 226) tb_Mo_state 122 rfl) (by decide) ?_
                          exact fg_iret (fg_ft (pc := 231) tb_Mo_state 124 rfl) rfl rfl (fg_q (hQ _ (fg_agR_A ha1)) (by unfold an_state; rw [fg_g0_some y4] <;> ((repeat (first | rw [if_pos (by assumption)] | rw [if_neg (by assumption)] | rw [if_pos (by omega)] | rw [if_neg (by omega)])); (try (unfold fg_one; (repeat (first | rw [if_pos (by assumption)] | rw [if_neg (by assumption)] | rw [if_pos (by omega)] | rw [if_neg (by omega)])))); (try (split <;> first | rfl | (rw [if_neg (by omega)]))))))
                      · refine fg_iload (fg_ft (pc := 202) tb_Mo_state 109 rfl) rfl ?_
                        refine fg_goto (tgt := 231) (fg_ft (pc := 204) tb_Mo_state 110 rfl) (by decide) ?_
                        exact fg_iret (fg_ft (pc := 231) tb_Mo_state 124 rfl) rfl rfl (fg_q (hQ _ (fg_agR_A ha1)) (by unfold an_state; rw [fg_g0_some y4] <;> ((repeat (first | rw [if_pos (by assumption)] | rw [if_neg (by assumption)] | rw [if_pos (by omega)] | rw [if_neg (by omega)])); (try (unfold fg_one; (repeat (first | rw [if_pos (by assumption)] | rw [if_neg (by assumption)] | rw [if_pos (by omega)] | rw [if_neg (by omega)])))); (try (split <;> first | rfl | (rw [if_neg (by omega)]))))))
                    · refine fg_aloadn (fg_ft (pc := 189) tb_Mo_state 103 rfl) rfl ?_
                      refine fg_getV (v := (nI (S.1))) (fg_ft (pc := 190) tb_Mo_state 104 rfl) ff_Mo_200 ly_287 rfl (fg_lt ly_287 (by decide)) hS1.1 ?_
                      refine fg_goto (tgt := 231) (fg_ft (pc := 193) tb_Mo_state 105 rfl) (by decide) ?_
                      exact fg_iret (fg_ft (pc := 231) tb_Mo_state 124 rfl) rfl rfl (fg_q (hQ _ (fg_agR_A ha1)) (by unfold an_state; rw [fg_g0_some y4] <;> ((repeat (first | rw [if_pos (by assumption)] | rw [if_neg (by assumption)] | rw [if_pos (by omega)] | rw [if_neg (by omega)])); (try (unfold fg_one; (repeat (first | rw [if_pos (by assumption)] | rw [if_neg (by assumption)] | rw [if_pos (by omega)] | rw [if_neg (by omega)])))); (try (split <;> first | rfl | (rw [if_neg (by omega)]))))))
                  · refine fg_aloadn (fg_ft (pc := 168) tb_Mo_state 92 rfl) rfl ?_
                    refine fg_iconst (fg_ft (pc := 169) tb_Mo_state 93 rfl) ic_0 ?_
                    refine fg_putI (fg_ft (pc := 170) tb_Mo_state 94 rfl) ff_Mo_209 ly_287 rfl (fg_lt ly_287 (by decide)) (fg_nokI _) (fun _ _ h => by cases h; rfl) ?_
                    show fg_wp _ _ _ _ _ _ _ _ _ (fg_u2 μ1 287 16 (nI 0), fg_rho R, 304)
                    have hag3 : fg_agP μ1 (fg_u2 μ1 287 16 (nI 0)) := fg_agP_u (Or.inr (Or.inr (Or.inr ⟨rfl, Or.inr (Or.inl rfl)⟩)))
                    have hM3 := hM1.agP hag3
                    have hC3 := hC1.agP hag3
                    have hS3 := hS1.news0
                    refine fg_aloadn (fg_ft (pc := 173) tb_Mo_state 95 rfl) rfl ?_
                    refine fg_iload (fg_ft (pc := 174) tb_Mo_state 96 rfl) rfl ?_
                    refine fg_callV (fg_ft (pc := 176) tb_Mo_state 97 rfl) cf_Mo_255 (fg_isOf ly_287 rfl (fg_lt ly_287 (by decide))) (as := [.int (nI (610 + 152 * town))]) (st := []) rfl rfl (Nat.le_of_ble_eq_true rfl) (Nat.le_refl _) (Nat.le_refl _) (ev_Mo_toEvening hM3 hok hC3 (h := S.1) (Z := (S.2.1.1, 0, 0, 0)) (hv := S.2.2) (lv := lv) (o := ((none : Option Nat), 0, 0)) (n0 := 0) (y := y1) hS3 hz (fun q hq => by cases hq) (by decide) (by decide) ?_)
                    intro μ2 hag2 hS2
                    have hM2 := hM3.agP hag2
                    have hC2 := hC3.agP hag2
                    have hS2 : fg_MS μ2 (A.ts town) (fg_ev (A.ts town) S) lv ((none : Option Nat), 0, 0) 0 y1 := hS2
                    have hz2 := fg_ev_ok hok (S := S) hz
                    show fg_wp _ _ _ _ _ _ _ _ _ (μ2, fg_rho R, 304)
                    refine fg_aloadn (fg_ft (pc := 179) tb_Mo_state 98 rfl) rfl ?_
                    refine fg_getV (v := (0 + nI (fg_ev (A.ts town) S).2.1.2.1)) (fg_ft (pc := 180) tb_Mo_state 99 rfl) ff_Mo_209 ly_287 rfl (fg_lt ly_287 (by decide)) hS2.2.2.2.2.1 ?_
                    exact fg_iret (fg_ft (pc := 183) tb_Mo_state 100 rfl) rfl rfl (fg_q (hQ _ (fg_agR_tr (fg_agR_tr (fg_agR_A ha1) (fg_agR_P hag3)) (fg_agR_P hag2))) (by unfold an_state; rw [fg_g0_some y4] <;> ((repeat (first | rw [if_pos (by assumption)] | rw [if_neg (by assumption)] | rw [if_pos (by omega)] | rw [if_neg (by omega)])); exact (Int32.zero_add _).symm)))
                · refine fg_iload (fg_ft (pc := 143) tb_Mo_state 80 rfl) rfl ?_
                  refine fg_aloadn (fg_ft (pc := 145) tb_Mo_state 81 rfl) rfl ?_
                  refine fg_getR (fg_ft (pc := 146) tb_Mo_state 82 rfl) ff_Mo_29 ly_287 rfl (fg_lt ly_287 (by decide)) (rh_287_14 R) ?_
                  refine fg_iload (fg_ft (pc := 149) tb_Mo_state 83 rfl) rfl ?_
                  refine fg_ialdV (v := (nI (lv k))) (fg_ft (pc := 151) tb_Mo_state 84 rfl) ly_294 (fg_lt ly_294 (by decide)) (by omega) (hS1.2.2.2.1 _ (by omega)) ?_
                  refine fg_iaddN (fg_ft (pc := 152) tb_Mo_state 85 rfl) ?_
                  refine fg_istore (fg_ft (pc := 153) tb_Mo_state 86 rfl) (Nat.le_of_ble_eq_true rfl) ?_
                  refine fg_iincN (fg_ft (pc := 155) tb_Mo_state 87 rfl) rfl ic_1 rfl ?_
                  refine fg_goto (tgt := 136) (fg_ft (pc := 158) tb_Mo_state 88 rfl) (by decide) ?_
                  exact ih (k + 1) _ (by omega) (by omega) (by rw [ha]; show _ = fg_sumL (A.ts town 2) lv k + (if k < A.ts town 2 then lv k else 0); rw [if_pos (by omega)])
            exact loop (A.ts town 2 + 1) 0 0 (by omega) (by omega) rfl
          · refine fg_aloadn (fg_ft (pc := 119) tb_Mo_state 66 rfl) rfl ?_
            refine fg_iload (fg_ft (pc := 120) tb_Mo_state 67 rfl) rfl ?_
            refine fg_iload (fg_ft (pc := 122) tb_Mo_state 68 rfl) rfl ?_
            refine fg_iconst (fg_ft (pc := 124) tb_Mo_state 69 rfl) ic_3 ?_
            refine fg_isubN (fg_ft (pc := 125) tb_Mo_state 70 rfl) (by omega) ?_
            refine fg_callV (fg_ft (pc := 126) tb_Mo_state 71 rfl) cf_Mo_252 (fg_isOf ly_287 rfl (fg_lt ly_287 (by decide))) (as := [.int (nI (610 + 152 * town)), .int (nI (what - 3))]) (st := []) rfl rfl (Nat.le_of_ble_eq_true rfl) (Nat.le_refl _) (Nat.le_refl _) (ev_Mo_together hM1 hok hC1 (o := ((none : Option Nat), 0, 0)) (n0 := n1) (y := y1) hS1 hz (sort := what - 3) (by omega) ?_)
            exact fg_iret (fg_ft (pc := 129) tb_Mo_state 72 rfl) rfl rfl (fg_q (hQ _ (fg_agR_A ha1)) (by unfold an_state fg_tog; rw [fg_g0_some y4] <;> (rcases (show what = 3 ∨ what = 4 ∨ what = 5 by omega) with rfl | rfl | rfl <;> rfl)))
        · refine fg_aloadn (fg_ft (pc := 98) tb_Mo_state 54 rfl) rfl ?_
          refine fg_getR (fg_ft (pc := 99) tb_Mo_state 55 rfl) ff_Mo_29 ly_287 rfl (fg_lt ly_287 (by decide)) (rh_287_14 R) ?_
          refine fg_iload (fg_ft (pc := 102) tb_Mo_state 56 rfl) rfl ?_
          refine fg_bipush (fg_ft (pc := 104) tb_Mo_state 57 rfl) ib_30 ?_
          refine fg_isubN (fg_ft (pc := 106) tb_Mo_state 58 rfl) (by omega) ?_
          refine fg_ialdV (v := (nI (lv (what - 30)))) (fg_ft (pc := 107) tb_Mo_state 59 rfl) ly_294 (fg_lt ly_294 (by decide)) (by omega) (hS1.2.2.2.1 _ (by omega)) ?_
          exact fg_iret (fg_ft (pc := 108) tb_Mo_state 60 rfl) rfl rfl (fg_q (hQ _ (fg_agR_A ha1)) (by unfold an_state; rw [fg_g0_some y4] <;> ((repeat (first | rw [if_pos (by assumption)] | rw [if_neg (by assumption)] | rw [if_pos (by omega)] | rw [if_neg (by omega)])); unfold fg_one; rw [show what % 10 = what - 30 by omega]; (repeat (first | rw [if_pos (by assumption)] | rw [if_neg (by assumption)] | rw [if_pos (by omega)] | rw [if_neg (by omega)])))))
      · refine fg_aloadn (fg_ft (pc := 72) tb_Mo_state 40 rfl) rfl ?_
        refine fg_getR (fg_ft (pc := 73) tb_Mo_state 41 rfl) ff_Mo_26 ly_287 rfl (fg_lt ly_287 (by decide)) (rh_287_13 R) ?_
        refine fg_iload (fg_ft (pc := 76) tb_Mo_state 42 rfl) rfl ?_
        refine fg_bipush (fg_ft (pc := 78) tb_Mo_state 43 rfl) ib_20 ?_
        refine fg_isubN (fg_ft (pc := 80) tb_Mo_state 44 rfl) (by omega) ?_
        refine fg_ialdV (v := (nI (S.2.2 (what - 20)))) (fg_ft (pc := 81) tb_Mo_state 45 rfl) ly_293 (fg_lt ly_293 (by decide)) (by omega) (hS1.2.2.1 _ (by omega)) ?_
        exact fg_iret (fg_ft (pc := 82) tb_Mo_state 46 rfl) rfl rfl (fg_q (hQ _ (fg_agR_A ha1)) (by unfold an_state; rw [fg_g0_some y4] <;> ((repeat (first | rw [if_pos (by assumption)] | rw [if_neg (by assumption)] | rw [if_pos (by omega)] | rw [if_neg (by omega)])); unfold fg_one; rw [show what % 10 = what - 20 by omega]; (repeat (first | rw [if_pos (by assumption)] | rw [if_neg (by assumption)] | rw [if_pos (by omega)] | rw [if_neg (by omega)])))))
    · refine fg_aloadn (fg_ft (pc := 46) tb_Mo_state 26 rfl) rfl ?_
      refine fg_getR (fg_ft (pc := 47) tb_Mo_state 27 rfl) ff_Mo_23 ly_287 rfl (fg_lt ly_287 (by decide)) (rh_287_12 R) ?_
      refine fg_iload (fg_ft (pc := 50) tb_Mo_state 28 rfl) rfl ?_
      refine fg_bipush (fg_ft (pc := 52) tb_Mo_state 29 rfl) ib_10 ?_
      refine fg_isubN (fg_ft (pc := 54) tb_Mo_state 30 rfl) (by omega) ?_
      refine fg_ialdV (v := (nI (S.2.1.1 (what - 10)))) (fg_ft (pc := 55) tb_Mo_state 31 rfl) ly_292 (fg_lt ly_292 (by decide)) (by omega) (hS1.2.1 _ (by omega)) ?_
      exact fg_iret (fg_ft (pc := 56) tb_Mo_state 32 rfl) rfl rfl (fg_q (hQ _ (fg_agR_A ha1)) (by unfold an_state; rw [fg_g0_some y4] <;> ((repeat (first | rw [if_pos (by assumption)] | rw [if_neg (by assumption)] | rw [if_pos (by omega)] | rw [if_neg (by omega)])); unfold fg_one; rw [show what % 10 = what - 10 by omega]; (repeat (first | rw [if_pos (by assumption)] | rw [if_neg (by assumption)] | rw [if_pos (by omega)] | rw [if_neg (by omega)])))))
def fg_kc (M : Nat → Nat) (f : Nat) : Nat → Nat
  | 0 => 0
  | n + 1 => fg_kc M f n + (if (M n).testBit f = true then 1 else 0)
theorem fg_z0 {f : Nat} : ¬ (0 : Nat).testBit f = true := by
  rw [Nat.zero_testBit]; decide
theorem fg_secL_bit (M : Nat → Nat) (f : Nat) : ∀ n, ((fg_secL M n).1.testBit f = true ↔ 1 ≤ fg_kc M f n) ∧ ((fg_secL M n).2.testBit f = true ↔ 2 ≤ fg_kc M f n) := by
  intro n
  induction n with
  | zero => exact ⟨⟨fun h => absurd h fg_z0, fun h => absurd h (show ¬ 1 ≤ 0 by decide)⟩, ⟨fun h => absurd h fg_z0, fun h => absurd h (show ¬ 2 ≤ 0 by decide)⟩⟩
  | succ n ih =>
    obtain ⟨i1, i2⟩ := ih
    show ((((fg_secL M n).1 ||| M n).testBit f = true ↔ 1 ≤ fg_kc M f n + (if (M n).testBit f = true then 1 else 0)) ∧ (((fg_secL M n).2 ||| ((fg_secL M n).1 &&& M n)).testBit f = true ↔ 2 ≤ fg_kc M f n + (if (M n).testBit f = true then 1 else 0)))
    rw [Nat.testBit_or, Nat.testBit_or, Nat.testBit_and]
    cases hb : (M n).testBit f
    · rw [Bool.or_false, Bool.and_false, Bool.or_false, if_neg (by decide), Nat.add_zero]; exact ⟨i1, i2⟩
    · rw [Bool.or_true, Bool.and_true, if_pos rfl]
      refine ⟨⟨fun _ => by omega, fun _ => rfl⟩, ?_⟩
      rw [Bool.or_eq_true, i1, i2]
      omega
noncomputable def fg_scr (T : Nat → Nat) (M : Nat → Nat) : Nat → Nat
  | 0 => 0
  | n + 1 => fg_scr T M n ||| (if fg_kc M n (T 2) = 1 then 2 ^ n else 0)
theorem fg_scr_bit (T M : Nat → Nat) (f : Nat) : ∀ n, (fg_scr T M n).testBit f = true ↔ f < n ∧ fg_kc M f (T 2) = 1 := by
  intro n
  induction n with
  | zero => exact ⟨fun h => absurd h fg_z0, fun h => absurd h.1 (Nat.not_lt_zero _)⟩
  | succ n ih =>
    show (fg_scr T M n ||| (if fg_kc M n (T 2) = 1 then 2 ^ n else 0)).testBit f = true ↔ _
    rw [Nat.testBit_or, Bool.or_eq_true, ih]
    rcases Nat.decEq f n with e | e
    · have : (if fg_kc M n (T 2) = 1 then 2 ^ n else 0).testBit f = false := by
        split
        · exact Nat.testBit_two_pow_of_ne (Ne.symm e)
        · exact Nat.zero_testBit f
      rw [this]
      exact ⟨fun h => h.elim (fun h => ⟨by omega, h.2⟩) (fun h => Bool.noConfusion h), fun h => Or.inl ⟨by omega, h.2⟩⟩
    · subst e
      by_cases h : fg_kc M f (T 2) = 1
      · rw [if_pos h, Nat.testBit_two_pow_self]; exact ⟨fun _ => ⟨by omega, h⟩, fun _ => Or.inr rfl⟩
      · rw [if_neg h, Nat.zero_testBit]; exact ⟨fun hh => hh.elim (fun hh => absurd hh.1 (Nat.lt_irrefl _)) (fun hh => Bool.noConfusion hh), fun hh => absurd hh.2 h⟩
theorem fg_kc_lt {M : Nat → Nat} {f w : Nat} : ∀ n, (∀ p, p < n → M p < 2 ^ w) → 1 ≤ fg_kc M f n → f < w := by
  intro n
  induction n with
  | zero => intro _ h; exact absurd h (show ¬ 1 ≤ 0 by decide)
  | succ n ih =>
    intro hM h
    have h : 1 ≤ fg_kc M f n + (if (M n).testBit f = true then 1 else 0) := h
    by_cases b : (M n).testBit f = true
    · exact fg_bit_lt (hM n (by omega)) b
    · rw [if_neg b] at h; exact ih (fun p hp => hM p (by omega)) (by omega)
theorem fg_scr_eq {T M : Nat → Nat} (hM : ∀ p, p < T 2 → M p < 2 ^ T 0) : fg_scr T M (T 0) = fg_df (fg_secL M (T 2)).1 (fg_secL M (T 2)).2 := by
  apply fg_le_as
  · intro f h
    obtain ⟨h1, h2⟩ := (fg_scr_bit T M f _).mp h
    rw [fg_df_bit, ((fg_secL_bit M f (T 2)).1).mpr (by omega)]
    cases hb : (fg_secL M (T 2)).2.testBit f
    · rfl
    · have := ((fg_secL_bit M f (T 2)).2).mp hb; omega
  · intro f h
    rw [fg_df_bit, Bool.and_eq_true] at h
    have h1 := ((fg_secL_bit M f (T 2)).1).mp h.1
    refine (fg_scr_bit T M f _).mpr ⟨fg_kc_lt _ hM h1, ?_⟩
    have h2 : ¬ 2 ≤ fg_kc M f (T 2) := fun hh => by rw [((fg_secL_bit M f (T 2)).2).mpr hh] at h; exact absurd h.2 (by decide)
    omega
theorem fg_kc_le (M : Nat → Nat) (f : Nat) : ∀ n, fg_kc M f n ≤ n := by
  intro n
  induction n with
  | zero => exact Nat.le_refl _
  | succ n ih =>
    show fg_kc M f n + _ ≤ _
    split <;> omega
theorem ev_Mo_secrets {E : fg_E} {d : Nat} {μ : Nat → Nat → Int32} {R : fg_T4} {Q : Option Value → fg_M → Prop} {v : Nat} {T : Nat → Nat} (hM : fg_MT (μ 288) v T) (hok : fg_ok T) {n0 y : Int32} {o : Option Nat × Nat × Nat} {h : Nat} {Z : fg_Z} {hv lv : Nat → Nat} (hS : fg_MS μ T (h, Z, hv) lv o n0 y) (hz : fg_zok T h Z hv) (hQ : Q (some (.int (nI (fg_df (fg_secL Z.1 (T 2)).1 (fg_secL Z.1 (T 2)).2)))) (μ, fg_rho R, 304))  : fg_Ev E yy_Mo_secrets (d + 2) [.ref 287, .int (nI v)] (μ, fg_rho R, 304) 304 Q := by
  have hv0 := hM.1
  have hb0 := hok.1
  have hb1 := hok.2.1
  have hp := hok.p
  have hq := Nat.two_pow_pos (T 0)
  have inner : ∀ (f a : Nat), f < T 0 → (∀ v5 : Value, fg_wp E yy_Mo_secrets (d + 2) 304 304 Q 61 [.ref 287, .int (nI v), .int (nI a), .int (nI f), .int (nI (fg_kc Z.1 f (T 2))), v5] [] (μ, fg_rho R, 304)) → ∀ (m p c : Nat), T 2 - p < m → p ≤ T 2 → c = fg_kc Z.1 f p → fg_wp E yy_Mo_secrets (d + 2) 304 304 Q 22 [.ref 287, .int (nI v), .int (nI a), .int (nI f), .int (nI c), .int (nI p)] [] (μ, fg_rho R, 304) := by
    intro f a hf hk m
    induction m with
    | zero => intro p c h; exact absurd h (Nat.not_lt_zero _)
    | succ m ih =>
      intro p c hm hp2 hc
      refine fg_iload (fg_ft (pc := 22) tb_Mo_secrets 16 rfl) rfl ?_
      refine fg_aloadn (fg_ft (pc := 24) tb_Mo_secrets 17 rfl) rfl ?_
      refine fg_getR (fg_ft (pc := 25) tb_Mo_secrets 18 rfl) ff_Mo_7 ly_287 rfl (fg_lt ly_287 (by decide)) (rh_287_0 R) ?_
      refine fg_iloadn (fg_ft (pc := 28) tb_Mo_secrets 19 rfl) rfl ?_
      refine fg_iconst (fg_ft (pc := 29) tb_Mo_secrets 20 rfl) ic_2 ?_
      refine fg_iaddN (fg_ft (pc := 30) tb_Mo_secrets 21 rfl) ?_
      refine fg_ialdV (v := (nI (T 2))) (fg_ft (pc := 31) tb_Mo_secrets 22 rfl) ly_288 (fg_lt ly_288 (by decide)) (by omega) (fg_MTat hM (i := v + 2) (k := 2) (by omega) (by omega)) ?_
      refine fg_icmp_geN (tgt := 61) (fg_ft (pc := 32) tb_Mo_secrets 23 rfl) (by decide) (by omega) (by omega) (fun c32 => ?_) (fun c32 => ?_)
      · have q9 := hk (.int (nI p))
        rw [show T 2 = p by omega, ← hc] at q9
        exact q9
      · refine fg_iload (fg_ft (pc := 35) tb_Mo_secrets 24 rfl) rfl ?_
        refine fg_aloadn (fg_ft (pc := 37) tb_Mo_secrets 25 rfl) rfl ?_
        refine fg_iload (fg_ft (pc := 38) tb_Mo_secrets 26 rfl) rfl ?_
        refine fg_iloadn (fg_ft (pc := 40) tb_Mo_secrets 27 rfl) rfl ?_
        refine fg_callV (fg_ft (pc := 41) tb_Mo_secrets 28 rfl) cf_Mo_212 (fg_isOf ly_287 rfl (fg_lt ly_287 (by decide))) (as := [.int (nI p), .int (nI f)]) (st := [.int (nI c)]) rfl rfl (Nat.le_of_ble_eq_true rfl) (Nat.le_refl _) (Nat.le_refl _) (ev_Mo_knows (Mv := Z.1) (T := T) (hS.2.1) (p := p) (f := f) (by omega) (by omega) (fg_km hok hz (by omega)) ?_)
        refine fg_ifB_eq (tgt := 51) (fg_ft (pc := 44) tb_Mo_secrets 29 rfl) (by decide) (fun c44 => ?_) (fun c44 => ?_)
        · refine fg_iconst (fg_ft (pc := 51) tb_Mo_secrets 32 rfl) ic_0 ?_
          refine fg_iaddN (fg_ft (pc := 52) tb_Mo_secrets 33 rfl) ?_
          refine fg_istore (fg_ft (pc := 53) tb_Mo_secrets 34 rfl) (Nat.le_of_ble_eq_true rfl) ?_
          refine fg_iincN (fg_ft (pc := 55) tb_Mo_secrets 35 rfl) rfl ic_1 rfl ?_
          refine fg_goto (tgt := 22) (fg_ft (pc := 58) tb_Mo_secrets 36 rfl) (by decide) ?_
          exact ih (p + 1) _ (by omega) (by omega) (by rw [hc]; show _ = fg_kc Z.1 f p + (if (Z.1 p).testBit f = true then 1 else 0); rw [if_neg c44])
        · refine fg_iconst (fg_ft (pc := 47) tb_Mo_secrets 30 rfl) ic_1 ?_
          refine fg_goto (tgt := 52) (fg_ft (pc := 48) tb_Mo_secrets 31 rfl) (by decide) ?_
          refine fg_iaddN (fg_ft (pc := 52) tb_Mo_secrets 33 rfl) ?_
          refine fg_istore (fg_ft (pc := 53) tb_Mo_secrets 34 rfl) (Nat.le_of_ble_eq_true rfl) ?_
          refine fg_iincN (fg_ft (pc := 55) tb_Mo_secrets 35 rfl) rfl ic_1 rfl ?_
          refine fg_goto (tgt := 22) (fg_ft (pc := 58) tb_Mo_secrets 36 rfl) (by decide) ?_
          exact ih (p + 1) _ (by omega) (by omega) (by rw [hc]; show _ = fg_kc Z.1 f p + (if (Z.1 p).testBit f = true then 1 else 0); rw [if_pos c44])
  have outer : ∀ (m f a : Nat) (v4 v5 : Value), T 0 - f < m → f ≤ T 0 → a = fg_scr T Z.1 f → fg_wp E yy_Mo_secrets (d + 2) 304 304 Q 4 [.ref 287, .int (nI v), .int (nI a), .int (nI f), v4, v5] [] (μ, fg_rho R, 304) := by
    intro m
    induction m with
    | zero => intro f a v4 v5 h; exact absurd h (Nat.not_lt_zero _)
    | succ m ih =>
      intro f a v4 v5 hm hf ha
      refine fg_iloadn (fg_ft (pc := 4) tb_Mo_secrets 4 rfl) rfl ?_
      refine fg_aloadn (fg_ft (pc := 5) tb_Mo_secrets 5 rfl) rfl ?_
      refine fg_getR (fg_ft (pc := 6) tb_Mo_secrets 6 rfl) ff_Mo_7 ly_287 rfl (fg_lt ly_287 (by decide)) (rh_287_0 R) ?_
      refine fg_iloadn (fg_ft (pc := 9) tb_Mo_secrets 7 rfl) rfl ?_
      refine fg_iconst (fg_ft (pc := 10) tb_Mo_secrets 8 rfl) ic_0 ?_
      refine fg_iaddN (fg_ft (pc := 11) tb_Mo_secrets 9 rfl) ?_
      refine fg_ialdV (v := (nI (T 0))) (fg_ft (pc := 12) tb_Mo_secrets 10 rfl) ly_288 (fg_lt ly_288 (by decide)) (by omega) (fg_MTat hM (i := v + 0) (k := 0) (by omega) (by omega)) ?_
      refine fg_icmp_geN (tgt := 83) (fg_ft (pc := 13) tb_Mo_secrets 11 rfl) (by decide) (by omega) (by omega) (fun c13 => ?_) (fun c13 => ?_)
      · refine fg_iloadn (fg_ft (pc := 83) tb_Mo_secrets 50 rfl) rfl ?_
        exact fg_iret (fg_ft (pc := 84) tb_Mo_secrets 51 rfl) rfl rfl (fg_q hQ (by rw [ha, show f = T 0 by omega]; rw [fg_scr_eq (fun p hp => (hz.2.1 p hp).1)]))
      · refine fg_iconst (fg_ft (pc := 16) tb_Mo_secrets 12 rfl) ic_0 ?_
        refine fg_istore (fg_ft (pc := 17) tb_Mo_secrets 13 rfl) (Nat.le_of_ble_eq_true rfl) ?_
        refine fg_iconst (fg_ft (pc := 19) tb_Mo_secrets 14 rfl) ic_0 ?_
        refine fg_istore (fg_ft (pc := 20) tb_Mo_secrets 15 rfl) (Nat.le_of_ble_eq_true rfl) ?_
        refine inner f a (by omega) (fun v5 => ?_) (T 2 + 1) 0 0 (by omega) (by omega) rfl
        refine fg_iloadn (fg_ft (pc := 61) tb_Mo_secrets 37 rfl) rfl ?_
        refine fg_iload (fg_ft (pc := 62) tb_Mo_secrets 38 rfl) rfl ?_
        refine fg_iconst (fg_ft (pc := 64) tb_Mo_secrets 39 rfl) ic_1 ?_
        refine fg_icmp_neN (tgt := 74) (fg_ft (pc := 65) tb_Mo_secrets 40 rfl) (by decide) (by have := fg_kc_le Z.1 f (T 2); omega) (by decide) (fun c65 => ?_) (fun c65 => ?_)
        · refine fg_iconst (fg_ft (pc := 74) tb_Mo_secrets 45 rfl) ic_0 ?_
          refine fg_iorN (fg_ft (pc := 75) tb_Mo_secrets 46 rfl) ?_
          refine fg_istoren (fg_ft (pc := 76) tb_Mo_secrets 47 rfl) (Nat.le_of_ble_eq_true rfl) ?_
          refine fg_iincN (fg_ft (pc := 77) tb_Mo_secrets 48 rfl) rfl ic_1 rfl ?_
          refine fg_goto (tgt := 4) (fg_ft (pc := 80) tb_Mo_secrets 49 rfl) (by decide) ?_
          exact ih (f + 1) _ _ _ (by omega) (by omega) (by rw [ha]; show _ = fg_scr T Z.1 f ||| (if fg_kc Z.1 f (T 2) = 1 then 2 ^ f else 0); rw [if_neg c65])
        · refine fg_iconst (fg_ft (pc := 68) tb_Mo_secrets 41 rfl) ic_1 ?_
          refine fg_iloadn (fg_ft (pc := 69) tb_Mo_secrets 42 rfl) rfl ?_
          refine fg_ishl1 (fg_ft (pc := 70) tb_Mo_secrets 43 rfl) (by omega) ?_
          refine fg_goto (tgt := 75) (fg_ft (pc := 71) tb_Mo_secrets 44 rfl) (by decide) ?_
          refine fg_iorN (fg_ft (pc := 75) tb_Mo_secrets 46 rfl) ?_
          refine fg_istoren (fg_ft (pc := 76) tb_Mo_secrets 47 rfl) (Nat.le_of_ble_eq_true rfl) ?_
          refine fg_iincN (fg_ft (pc := 77) tb_Mo_secrets 48 rfl) rfl ic_1 rfl ?_
          refine fg_goto (tgt := 4) (fg_ft (pc := 80) tb_Mo_secrets 49 rfl) (by decide) ?_
          exact ih (f + 1) _ _ _ (by omega) (by omega) (by rw [ha]; show _ = fg_scr T Z.1 f ||| (if fg_kc Z.1 f (T 2) = 1 then 2 ^ f else 0); rw [if_pos c65])
  refine fg_intro (by decide +kernel) (Nat.le_of_ble_eq_true rfl) (fg_okAs rfl) (Nat.le_refl _) ?_
  refine fg_iconst (fg_ft (pc := 0) tb_Mo_secrets 0 rfl) ic_0 ?_
  refine fg_istoren (fg_ft (pc := 1) tb_Mo_secrets 1 rfl) (Nat.le_of_ble_eq_true rfl) ?_
  refine fg_iconst (fg_ft (pc := 2) tb_Mo_secrets 2 rfl) ic_0 ?_
  refine fg_istoren (fg_ft (pc := 3) tb_Mo_secrets 3 rfl) (Nat.le_of_ble_eq_true rfl) ?_
  exact outer (T 0 + 1) 0 0 _ _ (by omega) (by omega) rfl
