/-! what the reference's search tells -/
theorem fg_LR.agP {μ μ' : Nat → Nat → Int32} {B : fg_BQ} (h : fg_LR μ B) (e : fg_agP μ μ') : fg_LR μ' B := h.fr (fun a h1 h2 j => e.1 a (by omega) (by omega) (by omega) (by omega) j) (e.2 26 (by decide) (by decide) (by decide))
theorem fg_hbe_pn {T : Nat → Nat} (hok : fg_ok T) {S : fg_H3} {p m k : Nat} (hp : p < T 2) (H1 : fg_zs T (S.1, (fg_up1 S.2.1.1 p m, 0, 0, 0), S.2.2)) : fg_hbe T S p m k ↔ ((fg_pn T (none, 0, 0) (9 - S.1) (S.1, (fg_up1 S.2.1.1 p m, 0, 0, 0), S.2.2)).2.1.1 p).testBit k = true := fg_ch_pn hok hp _ _ H1
theorem fg_hbe_in {T : Nat → Nat} (hok : fg_ok T) {S : fg_H3} {p m k : Nat} (hp : p < T 2) (H1 : fg_zs T (S.1, (fg_up1 S.2.1.1 p m, 0, 0, 0), S.2.2)) (hm : m.testBit k = true) : fg_hbe T S p m k := by
  rw [fg_hbe_pn hok hp H1]
  refine fg_pn_gr hok (o := (none, 0, 0)) (9 - S.1) _ H1 p hp k ?_
  show (fg_up1 S.2.1.1 p m p).testBit k = true
  rw [fg_up1_eq]; exact hm
theorem fg_tell_ne {w : Nat} {B : fg_BQ} {k : Nat} (hw : w ≤ 10) (hB : fg_bok w B) (hk : k < B.1) {x : Int32} (h : x = 0 ∨ ∃ i, i < B.2.2.2.2 k ∧ x = nI (10 + i)) : ¬ fg_tell B k x = -1 := by
  have hf := fg_bok_far31 hB hw hk
  rcases h with h | ⟨i, hi, h⟩
  · subst h
    rw [fg_tell0]
    exact fun e => fg_negle (by omega) (Int32.le_of_eq e)
  · subst h
    rw [fg_tellI hi hf]
    obtain ⟨ha, haf⟩ := fg_anc_far hB hk (B.2.2.2.2 k - 1 - i) (by omega)
    have h0 : 0 < fg_anc B k (B.2.2.2.2 k - 1 - i) := by
      rcases Nat.eq_zero_or_pos (fg_anc B k (B.2.2.2.2 k - 1 - i)) with q | q
      · rw [q, hB.2.2.2.2] at haf; omega
      · exact q
    have := (hB.2.2.1 _ h0 ha).2.1
    unfold fg_rowt
    exact fun e => fg_negle (by omega) (Int32.le_of_eq e)
theorem ev_Mo_row {E : fg_E} {d : Nat} {μ : Nat → Nat → Int32} {R : fg_T4} {Q : Option Value → fg_M → Prop} {A : fg_Tl} (hL : fg_ML (μ 288) A) (hw : fg_wA A) (h17 : μ 287 17 = -1) (h19 : μ 287 19 = nI 0) {town day n person gone kept : Nat} {what : Int32} (htown : town < 2 ^ 32) (hday : day < 2 ^ 32) (hn : n < 2 ^ 32) (hperson : person < 2 ^ 32) (hgone : gone < 2 ^ 32) (hkept : kept < 2 ^ 32) (hQ : ∀ μ' : Nat → Nat → Int32, fg_agR μ μ' → Q (some (.int (an_row A town day n person gone kept what))) (μ', fg_rho R, 304)) : fg_Ev E yy_Mo_row (d + 12) [.ref 287, .int (nI town), .int (nI day), .int (nI n), .int (nI person), .int (nI gone), .int (nI kept), .int what] (μ, fg_rho R, 304) 304 Q := by
  have ht2 := hw.2.1
  have hd3 := hw.2.2.1
  refine fg_intro (by decide +kernel) (Nat.le_of_ble_eq_true rfl) (fg_okAs rfl) (Nat.le_refl _) ?_
  refine fg_aloadn (fg_ft (pc := 0) tb_Mo_row 0 rfl) rfl ?_
  refine fg_iloadn (fg_ft (pc := 1) tb_Mo_row 1 rfl) rfl ?_
  refine fg_iloadn (fg_ft (pc := 2) tb_Mo_row 2 rfl) rfl ?_
  refine fg_iloadn (fg_ft (pc := 3) tb_Mo_row 3 rfl) rfl ?_
  refine fg_iload (fg_ft (pc := 4) tb_Mo_row 4 rfl) rfl ?_
  refine fg_callV (fg_ft (pc := 6) tb_Mo_row 5 rfl) cf_Mo_258 (fg_isOf ly_287 rfl (fg_lt ly_287 (by decide))) (as := [.int (nI town), .int (nI day), .int (nI n), .int (nI person)]) (st := []) rfl rfl (Nat.le_of_ble_eq_true rfl) (Nat.le_refl _) (Nat.le_refl _) (ev_Mo_isOne hL hw h17 h19 htown hday hn hperson (fun n4 μ1 ha1 => ?_) (fun S lv y4 y5 μ1 n1 y1 ha1 hC1 hS1 => ?_))
  · refine fg_if_eq (tgt := 40) (fg_ft (pc := 9) tb_Mo_row 6 rfl) (by decide) (fun _ => ?_) (fun h => absurd h (by decide))
    refine fg_iconst (fg_ft (pc := 40) tb_Mo_row 21 rfl) ic_m1 ?_
    exact fg_iret (fg_ft (pc := 41) tb_Mo_row 22 rfl) rfl rfl (fg_q (hQ _ (fg_agR_A ha1)) (by unfold an_row; rw [fg_g1_none n4] <;> ((repeat (first | rw [if_pos (by assumption)] | rw [if_neg (by assumption)] | rw [if_pos (by omega)] | rw [if_neg (by omega)] | rw [if_pos (by constructor <;> assumption)] | rw [if_neg (by intro hh; exact absurd hh.1 (by assumption))] | rw [if_neg (by intro hh; exact absurd hh.2 (by assumption))])); (try rfl))))
  · have ytc := fg_fnd_t y4
    have hok := hw.2.2.2.1 town ytc
    have hM1 := (hL.2.2.1 town ytc).ag ha1.m
    have hz : fg_zok (A.ts town) S.1 (S.2.1.1, 0, 0, 0) S.2.2 := fg_zok.news (fg_fnd_okW hw y4)
    have hv0 := hM1.1
    have hb0 := hok.1
    have hb1 := hok.2.1
    have hp := hok.p
    have hz9 := hz.1
    have hm2 := hz.2.1 person y5
    have hm0 : S.2.1.1 person < 2 ^ A.ts town 0 := hm2.1
    have hmc : fg_clsd (A.ts town) (S.2.1.1 person) := hm2.2
    have hm10 : S.2.1.1 person < 1024 := by omega
    refine fg_if_eq (tgt := 40) (fg_ft (pc := 9) tb_Mo_row 6 rfl) (by decide) (fun h => absurd h (by decide)) (fun _ => ?_)
    refine fg_aloadn (fg_ft (pc := 12) tb_Mo_row 7 rfl) rfl ?_
    refine fg_iconst (fg_ft (pc := 13) tb_Mo_row 8 rfl) ic_0 ?_
    refine fg_iloadn (fg_ft (pc := 14) tb_Mo_row 9 rfl) rfl ?_
    refine fg_callS (fg_ft (pc := 15) tb_Mo_row 10 rfl) cf_Mo_166 (as := [.int (nI 0), .int (nI town)]) (st := [.ref 287]) rfl rfl (Nat.le_of_ble_eq_true rfl) (Nat.le_refl _) (Nat.le_refl _) (ev_Mo_placeOf0 (k := town) ?_)
    refine fg_iload (fg_ft (pc := 18) tb_Mo_row 11 rfl) rfl ?_
    refine fg_callV (fg_ft (pc := 20) tb_Mo_row 12 rfl) cf_Mo_273 (fg_isOf ly_287 rfl (fg_lt ly_287 (by decide))) (as := [.int (nI (610 + 152 * town)), .int (nI gone)]) (st := []) rfl rfl (Nat.le_of_ble_eq_true rfl) (Nat.le_refl _) (Nat.le_refl _) (ev_Mo_areFacts hM1 hok (k := gone) (hgone) ?_)
    refine fg_ifB_eq (tgt := 40) (fg_ft (pc := 23) tb_Mo_row 13 rfl) (by decide) (fun c23 => ?_) (fun c23 => ?_)
    · refine fg_iconst (fg_ft (pc := 40) tb_Mo_row 21 rfl) ic_m1 ?_
      exact fg_iret (fg_ft (pc := 41) tb_Mo_row 22 rfl) rfl rfl (fg_q (hQ _ (fg_agR_A ha1)) (by unfold an_row; rw [fg_g1_some y4 y5] <;> ((repeat (first | rw [if_pos (by assumption)] | rw [if_neg (by assumption)] | rw [if_pos (by omega)] | rw [if_neg (by omega)] | rw [if_pos (by constructor <;> assumption)] | rw [if_neg (by intro hh; exact absurd hh.1 (by assumption))] | rw [if_neg (by intro hh; exact absurd hh.2 (by assumption))])); (try rfl))))
    · refine fg_aloadn (fg_ft (pc := 26) tb_Mo_row 14 rfl) rfl ?_
      refine fg_iconst (fg_ft (pc := 27) tb_Mo_row 15 rfl) ic_0 ?_
      refine fg_iloadn (fg_ft (pc := 28) tb_Mo_row 16 rfl) rfl ?_
      refine fg_callS (fg_ft (pc := 29) tb_Mo_row 17 rfl) cf_Mo_166 (as := [.int (nI 0), .int (nI town)]) (st := [.ref 287]) rfl rfl (Nat.le_of_ble_eq_true rfl) (Nat.le_refl _) (Nat.le_refl _) (ev_Mo_placeOf0 (k := town) ?_)
      refine fg_iload (fg_ft (pc := 32) tb_Mo_row 18 rfl) rfl ?_
      refine fg_callV (fg_ft (pc := 34) tb_Mo_row 19 rfl) cf_Mo_273 (fg_isOf ly_287 rfl (fg_lt ly_287 (by decide))) (as := [.int (nI (610 + 152 * town)), .int (nI kept)]) (st := []) rfl rfl (Nat.le_of_ble_eq_true rfl) (Nat.le_refl _) (Nat.le_refl _) (ev_Mo_areFacts hM1 hok (k := kept) (hkept) ?_)
      refine fg_ifB_ne (tgt := 42) (fg_ft (pc := 37) tb_Mo_row 20 rfl) (by decide) (fun c37 => ?_) (fun c37 => ?_)
      · refine fg_aloadn (fg_ft (pc := 42) tb_Mo_row 23 rfl) rfl ?_
        refine fg_iconst (fg_ft (pc := 43) tb_Mo_row 24 rfl) ic_0 ?_
        refine fg_iloadn (fg_ft (pc := 44) tb_Mo_row 25 rfl) rfl ?_
        refine fg_callS (fg_ft (pc := 45) tb_Mo_row 26 rfl) cf_Mo_166 (as := [.int (nI 0), .int (nI town)]) (st := [.ref 287]) rfl rfl (Nat.le_of_ble_eq_true rfl) (Nat.le_refl _) (Nat.le_refl _) (ev_Mo_placeOf0 (k := town) ?_)
        refine fg_aloadn (fg_ft (pc := 48) tb_Mo_row 27 rfl) rfl ?_
        refine fg_getR (fg_ft (pc := 49) tb_Mo_row 28 rfl) ff_Mo_23 ly_287 rfl (fg_lt ly_287 (by decide)) (rh_287_12 R) ?_
        refine fg_iload (fg_ft (pc := 52) tb_Mo_row 29 rfl) rfl ?_
        refine fg_ialdV (v := (nI (S.2.1.1 person))) (fg_ft (pc := 54) tb_Mo_row 30 rfl) ly_292 (fg_lt ly_292 (by decide)) (by omega) (hS1.2.1 _ (by omega)) ?_
        refine fg_bipush (fg_ft (pc := 55) tb_Mo_row 31 rfl) ib_99 ?_
        refine fg_callV (fg_ft (pc := 57) tb_Mo_row 32 rfl) cf_Mo_282 (fg_isOf ly_287 rfl (fg_lt ly_287 (by decide))) (as := [.int (nI (610 + 152 * town)), .int (nI (S.2.1.1 person)), .int (nI 99)]) (st := []) rfl rfl (Nat.le_of_ble_eq_true rfl) (Nat.le_refl _) (Nat.le_refl _) (ev_Mo_goesOn hM1 hok hC1 (m := (S.2.1.1 person)) (mst := 99) hm0 (by decide) ?_)
        intro μg hagg hLR
        rw [fg_BF_most hok hm0 (by decide)] at hLR
        have hMg := hM1.agL hagg
        have hCg := hC1.agL hagg
        have hSg := hS1.agL hagg
        have hBo := fg_BF_ok hok hm0 (mst := 10)
        have hlen := fg_bok_len hBo hok.1.2
        show fg_wp _ _ _ _ _ _ _ _ _ (μg, fg_rho R, 304)
        refine fg_iconst (fg_ft (pc := 60) tb_Mo_row 33 rfl) ic_0 ?_
        refine fg_istore (fg_ft (pc := 61) tb_Mo_row 34 rfl) (Nat.le_of_ble_eq_true rfl) ?_
        have loop : ∀ (m j : Nat), (fg_BF (A.ts town) (S.2.1.1 person) 10).1 - j < m → j ≤ (fg_BF (A.ts town) (S.2.1.1 person) 10).1 → (∀ q, q < j → ¬ ((fg_BF (A.ts town) (S.2.1.1 person) 10).2.1 q &&& gone = 0 ∧ fg_df kept ((fg_BF (A.ts town) (S.2.1.1 person) 10).2.1 q) = 0)) → fg_wp E yy_Mo_row (d + 12) 304 304 Q 63 [.ref 287, .int (nI town), .int (nI day), .int (nI n), .int (nI person), .int (nI gone), .int (nI kept), .int what, .int (nI j)] [] (μg, fg_rho R, 304) := by
          intro m
          induction m with
          | zero => intro j h; exact absurd h (Nat.not_lt_zero _)
          | succ m ih =>
            intro j hm hj hno
            refine fg_iload (fg_ft (pc := 63) tb_Mo_row 35 rfl) rfl ?_
            refine fg_aloadn (fg_ft (pc := 65) tb_Mo_row 36 rfl) rfl ?_
            refine fg_getV (v := (nI ((fg_BF (A.ts town) (S.2.1.1 person) 10).1))) (fg_ft (pc := 66) tb_Mo_row 37 rfl) ff_Mo_276 ly_287 rfl (fg_lt ly_287 (by decide)) hLR.1 ?_
            refine fg_icmp_geN (tgt := 115) (fg_ft (pc := 69) tb_Mo_row 38 rfl) (by decide) (by omega) (by omega) (fun c69 => ?_) (fun c69 => ?_)
            · refine fg_iconst (fg_ft (pc := 115) tb_Mo_row 62 rfl) ic_m1 ?_
              exact fg_iret (fg_ft (pc := 116) tb_Mo_row 63 rfl) rfl rfl (fg_q (hQ _ (fg_agR_tr (fg_agR_A ha1) (fg_agR_L hagg))) (by unfold an_row; rw [fg_g1_some y4 y5] <;> (rw [if_pos c23, if_pos c37]; exact fg_srch_none (fun q hq => hno q (by omega)))))
            · refine fg_aloadn (fg_ft (pc := 72) tb_Mo_row 39 rfl) rfl ?_
              refine fg_getR (fg_ft (pc := 73) tb_Mo_row 40 rfl) ff_Mo_36 ly_287 rfl (fg_lt ly_287 (by decide)) (rh_287_21 R) ?_
              refine fg_iload (fg_ft (pc := 76) tb_Mo_row 41 rfl) rfl ?_
              refine fg_ialdV (v := (nI ((fg_BF (A.ts town) (S.2.1.1 person) 10).2.1 j))) (fg_ft (pc := 78) tb_Mo_row 42 rfl) ly_295 (fg_lt ly_295 (by decide)) (by omega) (hLR.2.1 _ (by omega)).1 ?_
              refine fg_iload (fg_ft (pc := 79) tb_Mo_row 43 rfl) rfl ?_
              refine fg_iandN (fg_ft (pc := 81) tb_Mo_row 44 rfl) ?_
              refine fg_if_neN (tgt := 109) (fg_ft (pc := 82) tb_Mo_row 45 rfl) (by decide) (Nat.lt_of_le_of_lt Nat.and_le_left (by have := fg_BF_lt hok hm0 (mst := 10) (i := j) (by omega); omega)) (fun c82 => ?_) (fun c82 => ?_)
              · refine fg_iincN (fg_ft (pc := 109) tb_Mo_row 60 rfl) rfl ic_1 rfl ?_
                refine fg_goto (tgt := 63) (fg_ft (pc := 112) tb_Mo_row 61 rfl) (by decide) ?_
                exact ih (j + 1) (by omega) (by omega) (fun q hq => by
                  rcases Nat.lt_or_ge q j with g | g
                  · exact hno q g
                  · obtain rfl : q = j := by omega
                    exact fun hh => by first | exact c82 hh.1 | exact c97 hh.2)
              · refine fg_iload (fg_ft (pc := 85) tb_Mo_row 46 rfl) rfl ?_
                refine fg_aloadn (fg_ft (pc := 87) tb_Mo_row 47 rfl) rfl ?_
                refine fg_getR (fg_ft (pc := 88) tb_Mo_row 48 rfl) ff_Mo_36 ly_287 rfl (fg_lt ly_287 (by decide)) (rh_287_21 R) ?_
                refine fg_iload (fg_ft (pc := 91) tb_Mo_row 49 rfl) rfl ?_
                refine fg_ialdV (v := (nI ((fg_BF (A.ts town) (S.2.1.1 person) 10).2.1 j))) (fg_ft (pc := 93) tb_Mo_row 50 rfl) ly_295 (fg_lt ly_295 (by decide)) (by omega) (hLR.2.1 _ (by omega)).1 ?_
                refine fg_iconst (fg_ft (pc := 94) tb_Mo_row 51 rfl) ic_m1 ?_
                refine fg_ixor (fg_ft (pc := 95) tb_Mo_row 52 rfl) ?_
                refine fg_iandD (fg_ft (pc := 96) tb_Mo_row 53 rfl) ?_
                refine fg_if_neN (tgt := 109) (fg_ft (pc := 97) tb_Mo_row 54 rfl) (by decide) (fg_df_le31 (by omega)) (fun c97 => ?_) (fun c97 => ?_)
                · refine fg_iincN (fg_ft (pc := 109) tb_Mo_row 60 rfl) rfl ic_1 rfl ?_
                  refine fg_goto (tgt := 63) (fg_ft (pc := 112) tb_Mo_row 61 rfl) (by decide) ?_
                  exact ih (j + 1) (by omega) (by omega) (fun q hq => by
                    rcases Nat.lt_or_ge q j with g | g
                    · exact hno q g
                    · obtain rfl : q = j := by omega
                      exact fun hh => by first | exact c82 hh.1 | exact c97 hh.2)
                · refine fg_aloadn (fg_ft (pc := 100) tb_Mo_row 55 rfl) rfl ?_
                  refine fg_iload (fg_ft (pc := 101) tb_Mo_row 56 rfl) rfl ?_
                  refine fg_iload (fg_ft (pc := 103) tb_Mo_row 57 rfl) rfl ?_
                  refine fg_callV (fg_ft (pc := 105) tb_Mo_row 58 rfl) cf_Mo_285 (fg_isOf ly_287 rfl (fg_lt ly_287 (by decide))) (as := [.int (nI j), .int what]) (st := []) rfl rfl (Nat.le_of_ble_eq_true rfl) (Nat.le_refl _) (Nat.le_refl _) (ev_Mo_toldOf hok.1.2 hBo (k := j) (by omega) hLR (x := what) ?_)
                  exact fg_iret (fg_ft (pc := 108) tb_Mo_row 59 rfl) rfl rfl (fg_q (hQ _ (fg_agR_tr (fg_agR_A ha1) (fg_agR_L hagg))) (by unfold an_row; rw [fg_g1_some y4 y5] <;> (rw [if_pos c23, if_pos c37]; exact fg_srch_some (P := fun m => m &&& gone = 0 ∧ fg_df kept m = 0) (by omega) ⟨c82, c97⟩ hno)))
        exact loop ((fg_BF (A.ts town) (S.2.1.1 person) 10).1 + 1) 0 (by omega) (by omega) (fun q hq => absurd hq (Nat.not_lt_zero _))
      · refine fg_iconst (fg_ft (pc := 40) tb_Mo_row 21 rfl) ic_m1 ?_
        exact fg_iret (fg_ft (pc := 41) tb_Mo_row 22 rfl) rfl rfl (fg_q (hQ _ (fg_agR_A ha1)) (by unfold an_row; rw [fg_g1_some y4 y5] <;> ((repeat (first | rw [if_pos (by assumption)] | rw [if_neg (by assumption)] | rw [if_pos (by omega)] | rw [if_neg (by omega)] | rw [if_pos (by constructor <;> assumption)] | rw [if_neg (by intro hh; exact absurd hh.1 (by assumption))] | rw [if_neg (by intro hh; exact absurd hh.2 (by assumption))])); (try rfl))))
theorem ev_Mo_safe {E : fg_E} {d : Nat} {μ : Nat → Nat → Int32} {R : fg_T4} {Q : Option Value → fg_M → Prop} {A : fg_Tl} (hL : fg_ML (μ 288) A) (hw : fg_wA A) (h17 : μ 287 17 = -1) (h19 : μ 287 19 = nI 0) {town day n person fact : Nat} {what : Int32} (htown : town < 2 ^ 32) (hday : day < 2 ^ 32) (hn : n < 2 ^ 32) (hperson : person < 2 ^ 32) (hfact : fact < 2 ^ 32) (hQ : ∀ μ' : Nat → Nat → Int32, fg_agR μ μ' → Q (some (.int (an_safe A town day n person fact what))) (μ', fg_rho R, 304)) : fg_Ev E yy_Mo_safe (d + 12) [.ref 287, .int (nI town), .int (nI day), .int (nI n), .int (nI person), .int (nI fact), .int what] (μ, fg_rho R, 304) 304 Q := by
  have ht2 := hw.2.1
  have hd3 := hw.2.2.1
  refine fg_intro (by decide +kernel) (Nat.le_of_ble_eq_true rfl) (fg_okAs rfl) (Nat.le_refl _) ?_
  refine fg_aloadn (fg_ft (pc := 0) tb_Mo_safe 0 rfl) rfl ?_
  refine fg_iloadn (fg_ft (pc := 1) tb_Mo_safe 1 rfl) rfl ?_
  refine fg_iloadn (fg_ft (pc := 2) tb_Mo_safe 2 rfl) rfl ?_
  refine fg_iloadn (fg_ft (pc := 3) tb_Mo_safe 3 rfl) rfl ?_
  refine fg_iload (fg_ft (pc := 4) tb_Mo_safe 4 rfl) rfl ?_
  refine fg_callV (fg_ft (pc := 6) tb_Mo_safe 5 rfl) cf_Mo_258 (fg_isOf ly_287 rfl (fg_lt ly_287 (by decide))) (as := [.int (nI town), .int (nI day), .int (nI n), .int (nI person)]) (st := []) rfl rfl (Nat.le_of_ble_eq_true rfl) (Nat.le_refl _) (Nat.le_refl _) (ev_Mo_isOne hL hw h17 h19 htown hday hn hperson (fun n4 μ1 ha1 => ?_) (fun S lv y4 y5 μ1 n1 y1 ha1 hC1 hS1 => ?_))
  · refine fg_if_eq (tgt := 26) (fg_ft (pc := 9) tb_Mo_safe 6 rfl) (by decide) (fun _ => ?_) (fun h => absurd h (by decide))
    refine fg_iconst (fg_ft (pc := 26) tb_Mo_safe 14 rfl) ic_m1 ?_
    exact fg_iret (fg_ft (pc := 27) tb_Mo_safe 15 rfl) rfl rfl (fg_q (hQ _ (fg_agR_A ha1)) (by unfold an_safe; rw [fg_g1_none n4] <;> ((repeat (first | rw [if_pos (by assumption)] | rw [if_neg (by assumption)] | rw [if_pos (by omega)] | rw [if_neg (by omega)] | rw [if_pos (by constructor <;> assumption)] | rw [if_neg (by intro hh; exact absurd hh.1 (by assumption))] | rw [if_neg (by intro hh; exact absurd hh.2 (by assumption))])); (try rfl))))
  · have ytc := fg_fnd_t y4
    have hok := hw.2.2.2.1 town ytc
    have hM1 := (hL.2.2.1 town ytc).ag ha1.m
    have hz : fg_zok (A.ts town) S.1 (S.2.1.1, 0, 0, 0) S.2.2 := fg_zok.news (fg_fnd_okW hw y4)
    have hv0 := hM1.1
    have hb0 := hok.1
    have hb1 := hok.2.1
    have hp := hok.p
    have hz9 := hz.1
    have hm2 := hz.2.1 person y5
    have hm0 : S.2.1.1 person < 2 ^ A.ts town 0 := hm2.1
    have hmc : fg_clsd (A.ts town) (S.2.1.1 person) := hm2.2
    have hm10 : S.2.1.1 person < 1024 := by omega
    refine fg_if_eq (tgt := 26) (fg_ft (pc := 9) tb_Mo_safe 6 rfl) (by decide) (fun h => absurd h (by decide)) (fun _ => ?_)
    refine fg_aloadn (fg_ft (pc := 12) tb_Mo_safe 7 rfl) rfl ?_
    refine fg_iconst (fg_ft (pc := 13) tb_Mo_safe 8 rfl) ic_0 ?_
    refine fg_iloadn (fg_ft (pc := 14) tb_Mo_safe 9 rfl) rfl ?_
    refine fg_callS (fg_ft (pc := 15) tb_Mo_safe 10 rfl) cf_Mo_166 (as := [.int (nI 0), .int (nI town)]) (st := [.ref 287]) rfl rfl (Nat.le_of_ble_eq_true rfl) (Nat.le_refl _) (Nat.le_refl _) (ev_Mo_placeOf0 (k := town) ?_)
    refine fg_iload (fg_ft (pc := 18) tb_Mo_safe 11 rfl) rfl ?_
    refine fg_callV (fg_ft (pc := 20) tb_Mo_safe 12 rfl) cf_Mo_233 (fg_isOf ly_287 rfl (fg_lt ly_287 (by decide))) (as := [.int (nI (610 + 152 * town)), .int (nI fact)]) (st := []) rfl rfl (Nat.le_of_ble_eq_true rfl) (Nat.le_refl _) (Nat.le_refl _) (ev_Mo_isFact hM1 hok (k := fact) (hfact) ?_)
    refine fg_ifB_ne (tgt := 28) (fg_ft (pc := 23) tb_Mo_safe 13 rfl) (by decide) (fun c23 => ?_) (fun c23 => ?_)
    · refine fg_iconst (fg_ft (pc := 28) tb_Mo_safe 16 rfl) ic_0 ?_
      refine fg_iloadn (fg_ft (pc := 29) tb_Mo_safe 17 rfl) rfl ?_
      refine fg_callS (fg_ft (pc := 30) tb_Mo_safe 18 rfl) cf_Mo_166 (as := [.int (nI 0), .int (nI town)]) (st := []) rfl rfl (Nat.le_of_ble_eq_true rfl) (Nat.le_refl _) (Nat.le_refl _) (ev_Mo_placeOf0 (k := town) ?_)
      refine fg_istore (fg_ft (pc := 33) tb_Mo_safe 19 rfl) (Nat.le_of_ble_eq_true rfl) ?_
      have hz9 := hz.1
      refine fg_aloadn (fg_ft (pc := 35) tb_Mo_safe 20 rfl) rfl ?_
      refine fg_getV (v := (nI (S.1))) (fg_ft (pc := 36) tb_Mo_safe 21 rfl) ff_Mo_200 ly_287 rfl (fg_lt ly_287 (by decide)) hS1.1 ?_
      refine fg_istore (fg_ft (pc := 39) tb_Mo_safe 22 rfl) (Nat.le_of_ble_eq_true rfl) ?_
      refine fg_aloadn (fg_ft (pc := 41) tb_Mo_safe 23 rfl) rfl ?_
      refine fg_iload (fg_ft (pc := 42) tb_Mo_safe 24 rfl) rfl ?_
      refine fg_callV (fg_ft (pc := 44) tb_Mo_safe 25 rfl) cf_Mo_288 (fg_isOf ly_287 rfl (fg_lt ly_287 (by decide))) (as := [.int (nI (610 + 152 * town))]) (st := []) rfl rfl (Nat.le_of_ble_eq_true rfl) (Nat.le_refl _) (Nat.le_refl _) (ev_Mo_keepsState hM1 hok (h := S.1) (Z := (S.2.1.1, 0, 0, 0)) (hv := S.2.2) hS1 hz ?_)
      intro μk hk1 h300 h301
      have hMk := hM1.ag (hk1 288 (by decide) (by decide))
      have hCk := hC1.ag (hk1 291 (by decide) (by decide))
      have hSk := hS1.agK hk1
      show fg_wp _ _ _ _ _ _ _ _ _ (μk, fg_rho R, 304)
      refine fg_aloadn (fg_ft (pc := 47) tb_Mo_safe 26 rfl) rfl ?_
      refine fg_iload (fg_ft (pc := 48) tb_Mo_safe 27 rfl) rfl ?_
      refine fg_aloadn (fg_ft (pc := 50) tb_Mo_safe 28 rfl) rfl ?_
      refine fg_getR (fg_ft (pc := 51) tb_Mo_safe 29 rfl) ff_Mo_23 ly_287 rfl (fg_lt ly_287 (by decide)) (rh_287_12 R) ?_
      refine fg_iload (fg_ft (pc := 54) tb_Mo_safe 30 rfl) rfl ?_
      refine fg_ialdV (v := (nI (S.2.1.1 person))) (fg_ft (pc := 56) tb_Mo_safe 31 rfl) ly_292 (fg_lt ly_292 (by decide)) (by omega) (hSk.2.1 _ (by omega)) ?_
      refine fg_bipush (fg_ft (pc := 57) tb_Mo_safe 32 rfl) ib_99 ?_
      refine fg_callV (fg_ft (pc := 59) tb_Mo_safe 33 rfl) cf_Mo_282 (fg_isOf ly_287 rfl (fg_lt ly_287 (by decide))) (as := [.int (nI (610 + 152 * town)), .int (nI (S.2.1.1 person)), .int (nI 99)]) (st := []) rfl rfl (Nat.le_of_ble_eq_true rfl) (Nat.le_refl _) (Nat.le_refl _) (ev_Mo_goesOn hMk hok hCk (m := (S.2.1.1 person)) (mst := 99) hm0 (by decide) ?_)
      intro μg hagg hLR
      rw [fg_BF_most hok hm0 (by decide)] at hLR
      have hMg := hMk.agL hagg
      have hCg := hCk.agL hagg
      have hSg := hSk.agL hagg
      have hBo := fg_BF_ok hok hm0 (mst := 10)
      have hlen := fg_bok_len hBo hok.1.2
      show fg_wp _ _ _ _ _ _ _ _ _ (μg, fg_rho R, 304)
      refine fg_iconst (fg_ft (pc := 62) tb_Mo_safe 34 rfl) ic_0 ?_
      refine fg_istore (fg_ft (pc := 63) tb_Mo_safe 35 rfl) (Nat.le_of_ble_eq_true rfl) ?_
      have loop : ∀ (m j : Nat) (ν : Nat → Nat → Int32), (fg_BF (A.ts town) (S.2.1.1 person) 10).1 - j < m → j ≤ (fg_BF (A.ts town) (S.2.1.1 person) 10).1 → fg_agP μg ν → (∀ q, q < A.ts town 2 → ν 294 q = nI (lv q)) → (∀ q, q < j → ¬ ¬ fg_hbe (A.ts town) S person ((fg_BF (A.ts town) (S.2.1.1 person) 10).2.1 q) fact) → fg_wp E yy_Mo_safe (d + 12) 304 304 Q 65 [.ref 287, .int (nI town), .int (nI day), .int (nI n), .int (nI person), .int (nI fact), .int what, .int (nI (610 + 152 * town)), .int (nI (S.1)), .int (nI j)] [] (ν, fg_rho R, 304) := by
        intro m
        induction m with
        | zero => intro j ν h; exact absurd h (Nat.not_lt_zero _)
        | succ m ih =>
          intro j ν hm hj hag h294 hno
          have hMn := hMg.agP hag
          have hCn := hCg.agP hag
          have hLn := hLR.agP hag
          refine fg_iload (fg_ft (pc := 65) tb_Mo_safe 36 rfl) rfl ?_
          refine fg_aloadn (fg_ft (pc := 67) tb_Mo_safe 37 rfl) rfl ?_
          refine fg_getV (v := (nI ((fg_BF (A.ts town) (S.2.1.1 person) 10).1))) (fg_ft (pc := 68) tb_Mo_safe 38 rfl) ff_Mo_276 ly_287 rfl (fg_lt ly_287 (by decide)) hLn.1 ?_
          refine fg_icmp_geN (tgt := 147) (fg_ft (pc := 71) tb_Mo_safe 39 rfl) (by decide) (by omega) (by omega) (fun c71 => ?_) (fun c71 => ?_)
          · refine fg_iconst (fg_ft (pc := 147) tb_Mo_safe 78 rfl) ic_m1 ?_
            exact fg_iret (fg_ft (pc := 148) tb_Mo_safe 79 rfl) rfl rfl (fg_q (hQ _ (fg_agR_tr (fg_agR_tr (fg_agR_tr (fg_agR_A ha1) (fg_agR_K hk1)) (fg_agR_L hagg)) (fg_agR_P hag))) (by unfold an_safe; rw [fg_g1_some y4 y5] <;> (rw [if_pos c23]; exact fg_srch_none (fun q hq => hno q (by omega)))))
          · have hmj : (fg_BF (A.ts town) (S.2.1.1 person) 10).2.1 j < 2 ^ A.ts town 0 := fg_BF_lt hok hm0 (by omega)
            have hcj : fg_clsd (A.ts town) ((fg_BF (A.ts town) (S.2.1.1 person) 10).2.1 j) := fg_BF_cl hok hmc (by omega)
            have hzm : fg_zs (A.ts town) (S.1, (fg_up1 S.2.1.1 person ((fg_BF (A.ts town) (S.2.1.1 person) 10).2.1 j), 0, 0, 0), S.2.2) := fg_zok.set hz hmj hcj
            refine fg_aloadn (fg_ft (pc := 74) tb_Mo_safe 40 rfl) rfl ?_
            refine fg_getR (fg_ft (pc := 75) tb_Mo_safe 41 rfl) ff_Mo_36 ly_287 rfl (fg_lt ly_287 (by decide)) (rh_287_21 R) ?_
            refine fg_iload (fg_ft (pc := 78) tb_Mo_safe 42 rfl) rfl ?_
            refine fg_ialdV (v := (nI ((fg_BF (A.ts town) (S.2.1.1 person) 10).2.1 j))) (fg_ft (pc := 80) tb_Mo_safe 43 rfl) ly_295 (fg_lt ly_295 (by decide)) (by omega) (hLn.2.1 _ (by omega)).1 ?_
            refine fg_iload (fg_ft (pc := 81) tb_Mo_safe 44 rfl) rfl ?_
            refine fg_ishrN (fg_ft (pc := 83) tb_Mo_safe 45 rfl) (by omega) (by omega) ?_
            refine fg_iconst (fg_ft (pc := 84) tb_Mo_safe 46 rfl) ic_1 ?_
            refine fg_iandN (fg_ft (pc := 85) tb_Mo_safe 47 rfl) ?_
            refine fg_iconst (fg_ft (pc := 86) tb_Mo_safe 48 rfl) ic_1 ?_
            refine fg_icmpbit_ne (tgt := 93) (fg_ft (pc := 87) tb_Mo_safe 49 rfl) (by decide) (fun c87 => ?_) (fun c87 => ?_)
            · refine fg_aloadn (fg_ft (pc := 93) tb_Mo_safe 51 rfl) rfl ?_
              refine fg_iload (fg_ft (pc := 94) tb_Mo_safe 52 rfl) rfl ?_
              refine fg_iload (fg_ft (pc := 96) tb_Mo_safe 53 rfl) rfl ?_
              refine fg_callV (fg_ft (pc := 98) tb_Mo_safe 54 rfl) cf_Mo_291 (fg_isOf ly_287 rfl (fg_lt ly_287 (by decide))) (as := [.int (nI (610 + 152 * town)), .int (nI (S.1))]) (st := []) rfl rfl (Nat.le_of_ble_eq_true rfl) (Nat.le_refl _) (Nat.le_refl _) (ev_Mo_asItWas (lv := lv) hMn hok (h := S.1) (M := S.2.1.1) (hv := S.2.2) (fun q9 hq9 => (hag.1 300 (by decide) (by decide) (by decide) (by decide) _).trans ((hagg.1 300 (by decide) _).trans (h300 q9 hq9))) (fun q9 hq9 => (hag.1 301 (by decide) (by decide) (by decide) (by decide) _).trans ((hagg.1 301 (by decide) _).trans (h301 q9 hq9))) h294 ?_)
              intro μa hga a1 a2 a3 a4
              have b1 : μa 287 17 = -1 := (hga.2 17 (by decide) (by decide) (by decide)).trans ((hag.2 17 (by decide) (by decide) (by decide)).trans hSg.2.2.2.2.2.2.1)
              have b2 : μa 287 19 = nI 0 := (hga.2 19 (by decide) (by decide) (by decide)).trans ((hag.2 19 (by decide) (by decide) (by decide)).trans hSg.2.2.2.2.2.2.2.2)
              have hMa := hMn.agP hga
              have hSa : fg_MS (fg_u2 μa 292 person (nI ((fg_BF (A.ts town) (S.2.1.1 person) 10).2.1 j))) (A.ts town) (S.1, (fg_up1 S.2.1.1 person ((fg_BF (A.ts town) (S.2.1.1 person) 10).2.1 j), 0, 0, 0), S.2.2) lv ((none : Option Nat), 0, 0) (μa 287 16) (μa 287 20) := (fg_MS.mk0 a1 a2 a3 a4 ⟨b1, Or.inl rfl, b2⟩ : fg_MS μa (A.ts town) (S.1, (S.2.1.1, 0, 0, 0), S.2.2) lv ((none : Option Nat), 0, 0) (μa 287 16) (μa 287 20)).minds
              have hgu : fg_agP μa (fg_u2 μa 292 person (nI ((fg_BF (A.ts town) (S.2.1.1 person) 10).2.1 j))) := fg_agP_u (Or.inl rfl)
              show fg_wp _ _ _ _ _ _ _ _ _ (μa, fg_rho R, 304)
              refine fg_aloadn (fg_ft (pc := 101) tb_Mo_safe 55 rfl) rfl ?_
              refine fg_getR (fg_ft (pc := 102) tb_Mo_safe 56 rfl) ff_Mo_23 ly_287 rfl (fg_lt ly_287 (by decide)) (rh_287_12 R) ?_
              refine fg_iload (fg_ft (pc := 105) tb_Mo_safe 57 rfl) rfl ?_
              refine fg_aloadn (fg_ft (pc := 107) tb_Mo_safe 58 rfl) rfl ?_
              refine fg_getR (fg_ft (pc := 108) tb_Mo_safe 59 rfl) ff_Mo_36 ly_287 rfl (fg_lt ly_287 (by decide)) (rh_287_21 R) ?_
              refine fg_iload (fg_ft (pc := 111) tb_Mo_safe 60 rfl) rfl ?_
              refine fg_ialdV (v := (nI ((fg_BF (A.ts town) (S.2.1.1 person) 10).2.1 j))) (fg_ft (pc := 113) tb_Mo_safe 61 rfl) ly_295 (fg_lt ly_295 (by decide)) (by omega) ((hLn.agP hga).2.1 _ (by omega)).1 ?_
              refine fg_iastN (fg_ft (pc := 114) tb_Mo_safe 62 rfl) ly_292 (fg_lt ly_292 (by decide)) (by omega) ?_
              show fg_wp _ _ _ _ _ _ _ _ _ (fg_u2 μa 292 person (nI ((fg_BF (A.ts town) (S.2.1.1 person) 10).2.1 j)), fg_rho R, 304)
              refine fg_aloadn (fg_ft (pc := 115) tb_Mo_safe 63 rfl) rfl ?_
              refine fg_iload (fg_ft (pc := 116) tb_Mo_safe 64 rfl) rfl ?_
              refine fg_callV (fg_ft (pc := 118) tb_Mo_safe 65 rfl) cf_Mo_255 (fg_isOf ly_287 rfl (fg_lt ly_287 (by decide))) (as := [.int (nI (610 + 152 * town))]) (st := []) rfl rfl (Nat.le_of_ble_eq_true rfl) (Nat.le_refl _) (Nat.le_refl _) (ev_Mo_toEvening (hMa.agP hgu) hok ((hCn.agP hga).agP hgu) (h := S.1) (Z := (fg_up1 S.2.1.1 person ((fg_BF (A.ts town) (S.2.1.1 person) 10).2.1 j), 0, 0, 0)) (hv := S.2.2) (lv := lv) (o := ((none : Option Nat), 0, 0)) (n0 := μa 287 16) (y := μa 287 20) hSa hzm (fun q9 hq9 => by cases hq9) (by decide) (by decide) ?_)
              intro μe hge hSe
              have hSe : fg_MS μe (A.ts town) (fg_pn (A.ts town) (none, 0, 0) (9 - S.1) (S.1, (fg_up1 S.2.1.1 person ((fg_BF (A.ts town) (S.2.1.1 person) 10).2.1 j), 0, 0, 0), S.2.2)) lv ((none : Option Nat), 0, 0) (μa 287 16) (μa 287 20) := hSe
              have hze : fg_zok (A.ts town) (fg_pn (A.ts town) (none, 0, 0) (9 - S.1) (S.1, (fg_up1 S.2.1.1 person ((fg_BF (A.ts town) (S.2.1.1 person) 10).2.1 j), 0, 0, 0), S.2.2)).1 (fg_pn (A.ts town) (none, 0, 0) (9 - S.1) (S.1, (fg_up1 S.2.1.1 person ((fg_BF (A.ts town) (S.2.1.1 person) 10).2.1 j), 0, 0, 0), S.2.2)).2.1 (fg_pn (A.ts town) (none, 0, 0) (9 - S.1) (S.1, (fg_up1 S.2.1.1 person ((fg_BF (A.ts town) (S.2.1.1 person) 10).2.1 j), 0, 0, 0), S.2.2)).2.2 := fg_pn_ok hok (o := ((none : Option Nat), 0, 0)) (9 - S.1) (S.1, (fg_up1 S.2.1.1 person ((fg_BF (A.ts town) (S.2.1.1 person) 10).2.1 j), 0, 0, 0), S.2.2) hzm
              have hgT : fg_agP μg μe := fg_agP_tr hag (fg_agP_tr hga (fg_agP_tr hgu hge))
              show fg_wp _ _ _ _ _ _ _ _ _ (μe, fg_rho R, 304)
              refine fg_aloadn (fg_ft (pc := 121) tb_Mo_safe 66 rfl) rfl ?_
              refine fg_iload (fg_ft (pc := 122) tb_Mo_safe 67 rfl) rfl ?_
              refine fg_iload (fg_ft (pc := 124) tb_Mo_safe 68 rfl) rfl ?_
              refine fg_callV (fg_ft (pc := 126) tb_Mo_safe 69 rfl) cf_Mo_212 (fg_isOf ly_287 rfl (fg_lt ly_287 (by decide))) (as := [.int (nI person), .int (nI fact)]) (st := []) rfl rfl (Nat.le_of_ble_eq_true rfl) (Nat.le_refl _) (Nat.le_refl _) (ev_Mo_knows (Mv := (fg_pn (A.ts town) (none, 0, 0) (9 - S.1) (S.1, (fg_up1 S.2.1.1 person ((fg_BF (A.ts town) (S.2.1.1 person) 10).2.1 j), 0, 0, 0), S.2.2)).2.1.1) (T := (A.ts town)) (hSe.2.1) (p := person) (f := fact) (by omega) (by omega) (fg_km hok hze (by omega)) ?_)
              refine fg_ifB_ne (tgt := 141) (fg_ft (pc := 129) tb_Mo_safe 70 rfl) (by decide) (fun c129 => ?_) (fun c129 => ?_)
              · refine fg_iincN (fg_ft (pc := 141) tb_Mo_safe 76 rfl) rfl ic_1 rfl ?_
                refine fg_goto (tgt := 65) (fg_ft (pc := 144) tb_Mo_safe 77 rfl) (by decide) ?_
                exact ih (j + 1) μe (by omega) (by omega) hgT hSe.2.2.2.1 (fun q hq => by
                  rcases Nat.lt_or_ge q j with g | g
                  · exact hno q g
                  · obtain rfl : q = j := by omega
                    exact fun hh => hh (by first | exact fg_hbe_in hok y5 hzm c87 | exact (fg_hbe_pn hok y5 hzm).mpr c129))
              · refine fg_aloadn (fg_ft (pc := 132) tb_Mo_safe 71 rfl) rfl ?_
                refine fg_iload (fg_ft (pc := 133) tb_Mo_safe 72 rfl) rfl ?_
                refine fg_iload (fg_ft (pc := 135) tb_Mo_safe 73 rfl) rfl ?_
                refine fg_callV (fg_ft (pc := 137) tb_Mo_safe 74 rfl) cf_Mo_285 (fg_isOf ly_287 rfl (fg_lt ly_287 (by decide))) (as := [.int (nI j), .int what]) (st := []) rfl rfl (Nat.le_of_ble_eq_true rfl) (Nat.le_refl _) (Nat.le_refl _) (ev_Mo_toldOf hok.1.2 hBo (k := j) (by omega) (hLR.agP hgT) (x := what) ?_)
                exact fg_iret (fg_ft (pc := 140) tb_Mo_safe 75 rfl) rfl rfl (fg_q (hQ _ (fg_agR_tr (fg_agR_tr (fg_agR_tr (fg_agR_A ha1) (fg_agR_K hk1)) (fg_agR_L hagg)) (fg_agR_P hgT))) (by unfold an_safe; rw [fg_g1_some y4 y5] <;> (rw [if_pos c23]; exact fg_srch_some (P := fun m => ¬ fg_hbe (A.ts town) S person m fact) (by omega) (fun hh => c129 ((fg_hbe_pn hok y5 hzm).mp hh)) hno)))
            · refine fg_goto (tgt := 141) (fg_ft (pc := 90) tb_Mo_safe 50 rfl) (by decide) ?_
              refine fg_iincN (fg_ft (pc := 141) tb_Mo_safe 76 rfl) rfl ic_1 rfl ?_
              refine fg_goto (tgt := 65) (fg_ft (pc := 144) tb_Mo_safe 77 rfl) (by decide) ?_
              exact ih (j + 1) ν (by omega) (by omega) hag h294 (fun q hq => by
                rcases Nat.lt_or_ge q j with g | g
                · exact hno q g
                · obtain rfl : q = j := by omega
                  exact fun hh => hh (by first | exact fg_hbe_in hok y5 hzm c87 | exact (fg_hbe_pn hok y5 hzm).mpr c129))
      exact loop ((fg_BF (A.ts town) (S.2.1.1 person) 10).1 + 1) 0 μg (by omega) (by omega) ⟨fun _ _ _ _ _ _ => rfl, fun _ _ _ _ => rfl⟩ hSg.2.2.2.1 (fun q hq => absurd hq (Nat.not_lt_zero _))
    · refine fg_iconst (fg_ft (pc := 26) tb_Mo_safe 14 rfl) ic_m1 ?_
      exact fg_iret (fg_ft (pc := 27) tb_Mo_safe 15 rfl) rfl rfl (fg_q (hQ _ (fg_agR_A ha1)) (by unfold an_safe; rw [fg_g1_some y4 y5] <;> ((repeat (first | rw [if_pos (by assumption)] | rw [if_neg (by assumption)] | rw [if_pos (by omega)] | rw [if_neg (by omega)] | rw [if_pos (by constructor <;> assumption)] | rw [if_neg (by intro hh; exact absurd hh.1 (by assumption))] | rw [if_neg (by intro hh; exact absurd hh.2 (by assumption))])); (try rfl))))
