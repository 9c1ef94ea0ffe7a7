/-- how it stands with the hours counted: not yet, or since the first such hour -/
def fg_knI (T : Nat → Nat) (p k : Nat) (C S : fg_H3) (s : Nat) : Prop := fg_ch T (none, 0, 0) p k (9 - S.1) S = C ∧ ¬ (S.2.1.1 p).testBit k = true ∧ s = 0 ∨ (C.2.1.1 p).testBit k = true ∧ (S.2.1.1 p).testBit k = true ∧ C.1 ≤ S.1 ∧ s = S.1 - C.1 + 1
theorem fg_knI_step {T : Nat → Nat} (hok : fg_ok T) {p k : Nat} (hp : p < T 2) {C S : fg_H3} {s : Nat} (hz : fg_zs T S) (h9 : S.1 < 9) (h : fg_knI T p k C S s) : ((fg_ph T (none, 0, 0) S).2.1.1 p).testBit k = true ∧ fg_knI T p k C (fg_ph T (none, 0, 0) S) (s + 1) ∨ ¬ ((fg_ph T (none, 0, 0) S).2.1.1 p).testBit k = true ∧ fg_knI T p k C (fg_ph T (none, 0, 0) S) s := by
  rcases h with ⟨h1, h2, h3⟩ | ⟨h1, h2, h3, h4⟩
  · rw [← fg_ch_step h2 h9] at h1
    rcases Classical.em (((fg_ph T (none, 0, 0) S).2.1.1 p).testBit k = true) with g | g
    · left
      rw [fg_ch_stop hp (Or.inl g)] at h1
      exact ⟨g, Or.inr ⟨by rw [← h1]; exact g, g, by rw [h1]; exact Nat.le_refl _, by rw [h1, h3]; omega⟩⟩
    · right
      exact ⟨g, Or.inl ⟨h1, g, h3⟩⟩
  · left
    have g := fg_ph_gr hok (o := (none, 0, 0)) hz p hp k h2
    exact ⟨g, Or.inr ⟨h1, g, by rw [fg_ph_h h9]; omega, by rw [fg_ph_h h9, h4]; omega⟩⟩
theorem ev_Mo_known {E : fg_E} {d : Nat} {μ : Nat → Nat → Int32} {R : fg_T4} {Q : Option Value → fg_M → Prop} {A : fg_Tl} (hL : fg_ML (μ 288) A) (hw : fg_wA A) (h17 : μ 287 17 = -1) (h19 : μ 287 19 = nI 0) {town day n person fact : Nat} (htown : town < 2 ^ 32) (hday : day < 2 ^ 32) (hn : n < 2 ^ 32) (hperson : person < 2 ^ 32) (hfact : fact < 2 ^ 32) (hQ : ∀ μ' : Nat → Nat → Int32, fg_agR μ μ' → Q (some (.int (an_known A town day n person fact))) (μ', fg_rho R, 304)) : fg_Ev E yy_Mo_known (d + 12) [.ref 287, .int (nI town), .int (nI day), .int (nI n), .int (nI person), .int (nI fact)] (μ, fg_rho R, 304) 304 Q := by
  have ht2 := hw.2.1
  have hd3 := hw.2.2.1
  refine fg_intro (by decide +kernel) (Nat.le_of_ble_eq_true rfl) (fg_okAs rfl) (Nat.le_refl _) ?_
  refine fg_aloadn (fg_ft (pc := 0) tb_Mo_known 0 rfl) rfl ?_
  refine fg_iloadn (fg_ft (pc := 1) tb_Mo_known 1 rfl) rfl ?_
  refine fg_iloadn (fg_ft (pc := 2) tb_Mo_known 2 rfl) rfl ?_
  refine fg_iloadn (fg_ft (pc := 3) tb_Mo_known 3 rfl) rfl ?_
  refine fg_iload (fg_ft (pc := 4) tb_Mo_known 4 rfl) rfl ?_
  refine fg_callV (fg_ft (pc := 6) tb_Mo_known 5 rfl) cf_Mo_258 (fg_isOf ly_287 rfl (fg_lt ly_287 (by decide))) (as := [.int (nI town), .int (nI day), .int (nI n), .int (nI person)]) (st := []) rfl rfl (Nat.le_of_ble_eq_true rfl) (Nat.le_refl _) (Nat.le_refl _) (ev_Mo_isOne hL hw h17 h19 htown hday hn hperson (fun n4 μ1 ha1 => ?_) (fun S lv y4 y5 μ1 n1 y1 ha1 hC1 hS1 => ?_))
  · refine fg_if_eq (tgt := 26) (fg_ft (pc := 9) tb_Mo_known 6 rfl) (by decide) (fun _ => ?_) (fun h => absurd h (by decide))
    refine fg_iconst (fg_ft (pc := 26) tb_Mo_known 14 rfl) ic_m1 ?_
    exact fg_iret (fg_ft (pc := 27) tb_Mo_known 15 rfl) rfl rfl (fg_q (hQ _ (fg_agR_A ha1)) (by unfold an_known; rw [fg_g1_none n4] <;> ((repeat (first | rw [if_pos (by assumption)] | rw [if_neg (by assumption)] | rw [if_pos (by omega)] | rw [if_neg (by omega)] | rw [if_pos (by constructor <;> assumption)] | rw [if_neg (by intro hh; exact absurd hh.1 (by assumption))] | rw [if_neg (by intro hh; exact absurd hh.2 (by assumption))])); (try rfl))))
  · have ytc := fg_fnd_t y4
    have hok := hw.2.2.2.1 town ytc
    have hM1 := (hL.2.2.1 town ytc).ag ha1.m
    have hz : fg_zok (A.ts town) S.1 (S.2.1.1, 0, 0, 0) S.2.2 := fg_zok.news (fg_fnd_okW hw y4)
    have hv0 := hM1.1
    have hb0 := hok.1
    have hb1 := hok.2.1
    have hp := hok.p
    have hz9 := hz.1
    have hm2 := hz.2.1 person y5
    have hm0 : S.2.1.1 person < 2 ^ A.ts town 0 := hm2.1
    have hmc : fg_clsd (A.ts town) (S.2.1.1 person) := hm2.2
    have hm10 : S.2.1.1 person < 1024 := by omega
    refine fg_if_eq (tgt := 26) (fg_ft (pc := 9) tb_Mo_known 6 rfl) (by decide) (fun h => absurd h (by decide)) (fun _ => ?_)
    refine fg_aloadn (fg_ft (pc := 12) tb_Mo_known 7 rfl) rfl ?_
    refine fg_iconst (fg_ft (pc := 13) tb_Mo_known 8 rfl) ic_0 ?_
    refine fg_iloadn (fg_ft (pc := 14) tb_Mo_known 9 rfl) rfl ?_
    refine fg_callS (fg_ft (pc := 15) tb_Mo_known 10 rfl) cf_Mo_166 (as := [.int (nI 0), .int (nI town)]) (st := [.ref 287]) rfl rfl (Nat.le_of_ble_eq_true rfl) (Nat.le_refl _) (Nat.le_refl _) (ev_Mo_placeOf0 (k := town) ?_)
    refine fg_iload (fg_ft (pc := 18) tb_Mo_known 11 rfl) rfl ?_
    refine fg_callV (fg_ft (pc := 20) tb_Mo_known 12 rfl) cf_Mo_233 (fg_isOf ly_287 rfl (fg_lt ly_287 (by decide))) (as := [.int (nI (610 + 152 * town)), .int (nI fact)]) (st := []) rfl rfl (Nat.le_of_ble_eq_true rfl) (Nat.le_refl _) (Nat.le_refl _) (ev_Mo_isFact hM1 hok (k := fact) (hfact) ?_)
    refine fg_ifB_ne (tgt := 28) (fg_ft (pc := 23) tb_Mo_known 13 rfl) (by decide) (fun c23 => ?_) (fun c23 => ?_)
    · refine fg_aloadn (fg_ft (pc := 28) tb_Mo_known 16 rfl) rfl ?_
      refine fg_iload (fg_ft (pc := 29) tb_Mo_known 17 rfl) rfl ?_
      refine fg_iload (fg_ft (pc := 31) tb_Mo_known 18 rfl) rfl ?_
      refine fg_callV (fg_ft (pc := 33) tb_Mo_known 19 rfl) cf_Mo_212 (fg_isOf ly_287 rfl (fg_lt ly_287 (by decide))) (as := [.int (nI person), .int (nI fact)]) (st := []) rfl rfl (Nat.le_of_ble_eq_true rfl) (Nat.le_refl _) (Nat.le_refl _) (ev_Mo_knows (Mv := S.2.1.1) (T := (A.ts town)) (hS1.2.1) (p := person) (f := fact) (by omega) (by omega) (fg_km hok hz (by omega)) ?_)
      refine fg_ifB_eq (tgt := 43) (fg_ft (pc := 36) tb_Mo_known 20 rfl) (by decide) (fun c36 => ?_) (fun c36 => ?_)
      · refine fg_iconst (fg_ft (pc := 43) tb_Mo_known 23 rfl) ic_0 ?_
        refine fg_istore (fg_ft (pc := 44) tb_Mo_known 24 rfl) (Nat.le_of_ble_eq_true rfl) ?_
        have loop : ∀ (m c : Nat) (S' : fg_H3) (ν : Nat → Nat → Int32), 9 - S'.1 < m → fg_zs (A.ts town) S' → fg_agP μ1 ν → fg_MS ν (A.ts town) S' lv ((none : Option Nat), 0, 0) n1 y1 → fg_knI (A.ts town) person fact (fg_cm (A.ts town) S person fact) S' c → fg_wp E yy_Mo_known (d + 12) 304 304 Q 46 [.ref 287, .int (nI town), .int (nI day), .int (nI n), .int (nI person), .int (nI fact), .int (nI c)] [] (ν, fg_rho R, 304) := by
          intro m
          induction m with
          | zero => intro c S' ν h; exact absurd h (Nat.not_lt_zero _)
          | succ m ih =>
            intro c S' ν hm hzn hag hSn hkn
            have hMn := hM1.agP hag
            have hCn := hC1.agP hag
            have hz9n := hzn.1
            refine fg_aloadn (fg_ft (pc := 46) tb_Mo_known 25 rfl) rfl ?_
            refine fg_getV (v := (nI (S'.1))) (fg_ft (pc := 47) tb_Mo_known 26 rfl) ff_Mo_200 ly_287 rfl (fg_lt ly_287 (by decide)) hSn.1 ?_
            refine fg_bipush (fg_ft (pc := 50) tb_Mo_known 27 rfl) ib_9 ?_
            refine fg_icmp_geN (tgt := 88) (fg_ft (pc := 52) tb_Mo_known 28 rfl) (by decide) (by omega) (by decide) (fun c52 => ?_) (fun c52 => ?_)
            · refine fg_iload (fg_ft (pc := 88) tb_Mo_known 46 rfl) rfl ?_
              exact fg_iret (fg_ft (pc := 90) tb_Mo_known 47 rfl) rfl rfl (fg_q (hQ _ (fg_agR_tr (fg_agR_A ha1) (fg_agR_P hag))) (by unfold an_known; rw [fg_g1_some y4 y5] <;> (rw [if_pos c23]; rcases hkn with ⟨g1, g2, g3⟩ | ⟨g1, g2, g3, g4⟩; (rw [fg_ch_stop y5 (Or.inr (by omega))] at g1; rw [← g1, if_neg g2, g3]); (rw [if_pos g1, g4, show 9 - (fg_cm (A.ts town) S person fact).1 = S'.1 - (fg_cm (A.ts town) S person fact).1 by omega]))))
            · refine fg_aloadn (fg_ft (pc := 55) tb_Mo_known 29 rfl) rfl ?_
              refine fg_iconst (fg_ft (pc := 56) tb_Mo_known 30 rfl) ic_0 ?_
              refine fg_iloadn (fg_ft (pc := 57) tb_Mo_known 31 rfl) rfl ?_
              refine fg_callS (fg_ft (pc := 58) tb_Mo_known 32 rfl) cf_Mo_166 (as := [.int (nI 0), .int (nI town)]) (st := [.ref 287]) rfl rfl (Nat.le_of_ble_eq_true rfl) (Nat.le_refl _) (Nat.le_refl _) (ev_Mo_placeOf0 (k := town) ?_)
              refine fg_callV (fg_ft (pc := 61) tb_Mo_known 33 rfl) cf_Mo_227 (fg_isOf ly_287 rfl (fg_lt ly_287 (by decide))) (as := [.int (nI (610 + 152 * town))]) (st := []) rfl rfl (Nat.le_of_ble_eq_true rfl) (Nat.le_refl _) (Nat.le_refl _) (ev_Mo_passHour (R := R) hMn hok hCn (h := S'.1) (Z := S'.2.1) (hv := S'.2.2) (lv := lv) (o := ((none : Option Nat), 0, 0)) (n0 := n1) (y := y1) hSn hzn (fun q hq => by cases hq) (by decide) (by decide) (by omega) ?_)
              intro μ2 hag2 hS2
              have hM2 := hMn.agP hag2
              have hC2 := hCn.agP hag2
              have hz2 := fg_zok.ph hok (o := (none, 0, 0)) (S := S') hzn
              show fg_wp _ _ _ _ _ _ _ _ _ (μ2, fg_rho R, 304)
              refine fg_iload (fg_ft (pc := 64) tb_Mo_known 34 rfl) rfl ?_
              refine fg_aloadn (fg_ft (pc := 66) tb_Mo_known 35 rfl) rfl ?_
              refine fg_iload (fg_ft (pc := 67) tb_Mo_known 36 rfl) rfl ?_
              refine fg_iload (fg_ft (pc := 69) tb_Mo_known 37 rfl) rfl ?_
              refine fg_callV (fg_ft (pc := 71) tb_Mo_known 38 rfl) cf_Mo_212 (fg_isOf ly_287 rfl (fg_lt ly_287 (by decide))) (as := [.int (nI person), .int (nI fact)]) (st := [.int (nI c)]) rfl rfl (Nat.le_of_ble_eq_true rfl) (Nat.le_refl _) (Nat.le_refl _) (ev_Mo_knows (Mv := (fg_ph (A.ts town) (none, 0, 0) S').2.1.1) (T := (A.ts town)) (hS2.2.1) (p := person) (f := fact) (by omega) (by omega) (fg_km hok hz2 (by omega)) ?_)
              refine fg_ifB_eq (tgt := 81) (fg_ft (pc := 74) tb_Mo_known 39 rfl) (by decide) (fun c74 => ?_) (fun c74 => ?_)
              · refine fg_iconst (fg_ft (pc := 81) tb_Mo_known 42 rfl) ic_0 ?_
                refine fg_iaddN (fg_ft (pc := 82) tb_Mo_known 43 rfl) ?_
                refine fg_istore (fg_ft (pc := 83) tb_Mo_known 44 rfl) (Nat.le_of_ble_eq_true rfl) ?_
                refine fg_goto (tgt := 46) (fg_ft (pc := 85) tb_Mo_known 45 rfl) (by decide) ?_
                rcases fg_knI_step hok y5 hzn (by omega) hkn with ⟨g1, g2⟩ | ⟨g1, g2⟩
                · exact absurd g1 c74
                · exact ih _ (fg_ph (A.ts town) (none, 0, 0) S') μ2 (by rw [fg_ph_h (by omega)]; omega) hz2 (fg_agP_tr hag hag2) hS2 g2
              · refine fg_iconst (fg_ft (pc := 77) tb_Mo_known 40 rfl) ic_1 ?_
                refine fg_goto (tgt := 82) (fg_ft (pc := 78) tb_Mo_known 41 rfl) (by decide) ?_
                refine fg_iaddN (fg_ft (pc := 82) tb_Mo_known 43 rfl) ?_
                refine fg_istore (fg_ft (pc := 83) tb_Mo_known 44 rfl) (Nat.le_of_ble_eq_true rfl) ?_
                refine fg_goto (tgt := 46) (fg_ft (pc := 85) tb_Mo_known 45 rfl) (by decide) ?_
                rcases fg_knI_step hok y5 hzn (by omega) hkn with ⟨g1, g2⟩ | ⟨g1, g2⟩
                · exact ih _ (fg_ph (A.ts town) (none, 0, 0) S') μ2 (by rw [fg_ph_h (by omega)]; omega) hz2 (fg_agP_tr hag hag2) hS2 g2
                · exact absurd c74 g1
        exact loop 10 0 (S.1, (S.2.1.1, 0, 0, 0), S.2.2) μ1 (by show 9 - S.1 < 10; omega) hz (fg_agP_rf μ1) hS1 (by first | exact Or.inl ⟨rfl, c36, rfl⟩ | (have e9 : (fg_cm (A.ts town) S person fact) = (S.1, (S.2.1.1, 0, 0, 0), S.2.2) := fg_ch_stop (S := (S.1, (S.2.1.1, 0, 0, 0), S.2.2)) y5 (Or.inl c36); exact Or.inr ⟨by rw [e9]; exact c36, c36, by rw [e9]; exact Nat.le_refl _, by rw [e9]; show 1 = S.1 - S.1 + 1; omega⟩))
      · refine fg_iconst (fg_ft (pc := 39) tb_Mo_known 21 rfl) ic_1 ?_
        refine fg_goto (tgt := 44) (fg_ft (pc := 40) tb_Mo_known 22 rfl) (by decide) ?_
        refine fg_istore (fg_ft (pc := 44) tb_Mo_known 24 rfl) (Nat.le_of_ble_eq_true rfl) ?_
        have loop : ∀ (m c : Nat) (S' : fg_H3) (ν : Nat → Nat → Int32), 9 - S'.1 < m → fg_zs (A.ts town) S' → fg_agP μ1 ν → fg_MS ν (A.ts town) S' lv ((none : Option Nat), 0, 0) n1 y1 → fg_knI (A.ts town) person fact (fg_cm (A.ts town) S person fact) S' c → fg_wp E yy_Mo_known (d + 12) 304 304 Q 46 [.ref 287, .int (nI town), .int (nI day), .int (nI n), .int (nI person), .int (nI fact), .int (nI c)] [] (ν, fg_rho R, 304) := by
          intro m
          induction m with
          | zero => intro c S' ν h; exact absurd h (Nat.not_lt_zero _)
          | succ m ih =>
            intro c S' ν hm hzn hag hSn hkn
            have hMn := hM1.agP hag
            have hCn := hC1.agP hag
            have hz9n := hzn.1
            refine fg_aloadn (fg_ft (pc := 46) tb_Mo_known 25 rfl) rfl ?_
            refine fg_getV (v := (nI (S'.1))) (fg_ft (pc := 47) tb_Mo_known 26 rfl) ff_Mo_200 ly_287 rfl (fg_lt ly_287 (by decide)) hSn.1 ?_
            refine fg_bipush (fg_ft (pc := 50) tb_Mo_known 27 rfl) ib_9 ?_
            refine fg_icmp_geN (tgt := 88) (fg_ft (pc := 52) tb_Mo_known 28 rfl) (by decide) (by omega) (by decide) (fun c52 => ?_) (fun c52 => ?_)
            · refine fg_iload (fg_ft (pc := 88) tb_Mo_known 46 rfl) rfl ?_
              exact fg_iret (fg_ft (pc := 90) tb_Mo_known 47 rfl) rfl rfl (fg_q (hQ _ (fg_agR_tr (fg_agR_A ha1) (fg_agR_P hag))) (by unfold an_known; rw [fg_g1_some y4 y5] <;> (rw [if_pos c23]; rcases hkn with ⟨g1, g2, g3⟩ | ⟨g1, g2, g3, g4⟩; (rw [fg_ch_stop y5 (Or.inr (by omega))] at g1; rw [← g1, if_neg g2, g3]); (rw [if_pos g1, g4, show 9 - (fg_cm (A.ts town) S person fact).1 = S'.1 - (fg_cm (A.ts town) S person fact).1 by omega]))))
            · refine fg_aloadn (fg_ft (pc := 55) tb_Mo_known 29 rfl) rfl ?_
              refine fg_iconst (fg_ft (pc := 56) tb_Mo_known 30 rfl) ic_0 ?_
              refine fg_iloadn (fg_ft (pc := 57) tb_Mo_known 31 rfl) rfl ?_
              refine fg_callS (fg_ft (pc := 58) tb_Mo_known 32 rfl) cf_Mo_166 (as := [.int (nI 0), .int (nI town)]) (st := [.ref 287]) rfl rfl (Nat.le_of_ble_eq_true rfl) (Nat.le_refl _) (Nat.le_refl _) (ev_Mo_placeOf0 (k := town) ?_)
              refine fg_callV (fg_ft (pc := 61) tb_Mo_known 33 rfl) cf_Mo_227 (fg_isOf ly_287 rfl (fg_lt ly_287 (by decide))) (as := [.int (nI (610 + 152 * town))]) (st := []) rfl rfl (Nat.le_of_ble_eq_true rfl) (Nat.le_refl _) (Nat.le_refl _) (ev_Mo_passHour (R := R) hMn hok hCn (h := S'.1) (Z := S'.2.1) (hv := S'.2.2) (lv := lv) (o := ((none : Option Nat), 0, 0)) (n0 := n1) (y := y1) hSn hzn (fun q hq => by cases hq) (by decide) (by decide) (by omega) ?_)
              intro μ2 hag2 hS2
              have hM2 := hMn.agP hag2
              have hC2 := hCn.agP hag2
              have hz2 := fg_zok.ph hok (o := (none, 0, 0)) (S := S') hzn
              show fg_wp _ _ _ _ _ _ _ _ _ (μ2, fg_rho R, 304)
              refine fg_iload (fg_ft (pc := 64) tb_Mo_known 34 rfl) rfl ?_
              refine fg_aloadn (fg_ft (pc := 66) tb_Mo_known 35 rfl) rfl ?_
              refine fg_iload (fg_ft (pc := 67) tb_Mo_known 36 rfl) rfl ?_
              refine fg_iload (fg_ft (pc := 69) tb_Mo_known 37 rfl) rfl ?_
              refine fg_callV (fg_ft (pc := 71) tb_Mo_known 38 rfl) cf_Mo_212 (fg_isOf ly_287 rfl (fg_lt ly_287 (by decide))) (as := [.int (nI person), .int (nI fact)]) (st := [.int (nI c)]) rfl rfl (Nat.le_of_ble_eq_true rfl) (Nat.le_refl _) (Nat.le_refl _) (ev_Mo_knows (Mv := (fg_ph (A.ts town) (none, 0, 0) S').2.1.1) (T := (A.ts town)) (hS2.2.1) (p := person) (f := fact) (by omega) (by omega) (fg_km hok hz2 (by omega)) ?_)
              refine fg_ifB_eq (tgt := 81) (fg_ft (pc := 74) tb_Mo_known 39 rfl) (by decide) (fun c74 => ?_) (fun c74 => ?_)
              · refine fg_iconst (fg_ft (pc := 81) tb_Mo_known 42 rfl) ic_0 ?_
                refine fg_iaddN (fg_ft (pc := 82) tb_Mo_known 43 rfl) ?_
                refine fg_istore (fg_ft (pc := 83) tb_Mo_known 44 rfl) (Nat.le_of_ble_eq_true rfl) ?_
                refine fg_goto (tgt := 46) (fg_ft (pc := 85) tb_Mo_known 45 rfl) (by decide) ?_
                rcases fg_knI_step hok y5 hzn (by omega) hkn with ⟨g1, g2⟩ | ⟨g1, g2⟩
                · exact absurd g1 c74
                · exact ih _ (fg_ph (A.ts town) (none, 0, 0) S') μ2 (by rw [fg_ph_h (by omega)]; omega) hz2 (fg_agP_tr hag hag2) hS2 g2
              · refine fg_iconst (fg_ft (pc := 77) tb_Mo_known 40 rfl) ic_1 ?_
                refine fg_goto (tgt := 82) (fg_ft (pc := 78) tb_Mo_known 41 rfl) (by decide) ?_
                refine fg_iaddN (fg_ft (pc := 82) tb_Mo_known 43 rfl) ?_
                refine fg_istore (fg_ft (pc := 83) tb_Mo_known 44 rfl) (Nat.le_of_ble_eq_true rfl) ?_
                refine fg_goto (tgt := 46) (fg_ft (pc := 85) tb_Mo_known 45 rfl) (by decide) ?_
                rcases fg_knI_step hok y5 hzn (by omega) hkn with ⟨g1, g2⟩ | ⟨g1, g2⟩
                · exact ih _ (fg_ph (A.ts town) (none, 0, 0) S') μ2 (by rw [fg_ph_h (by omega)]; omega) hz2 (fg_agP_tr hag hag2) hS2 g2
                · exact absurd c74 g1
        exact loop 10 1 (S.1, (S.2.1.1, 0, 0, 0), S.2.2) μ1 (by show 9 - S.1 < 10; omega) hz (fg_agP_rf μ1) hS1 (by first | exact Or.inl ⟨rfl, c36, rfl⟩ | (have e9 : (fg_cm (A.ts town) S person fact) = (S.1, (S.2.1.1, 0, 0, 0), S.2.2) := fg_ch_stop (S := (S.1, (S.2.1.1, 0, 0, 0), S.2.2)) y5 (Or.inl c36); exact Or.inr ⟨by rw [e9]; exact c36, c36, by rw [e9]; exact Nat.le_refl _, by rw [e9]; show 1 = S.1 - S.1 + 1; omega⟩))
    · refine fg_iconst (fg_ft (pc := 26) tb_Mo_known 14 rfl) ic_m1 ?_
      exact fg_iret (fg_ft (pc := 27) tb_Mo_known 15 rfl) rfl rfl (fg_q (hQ _ (fg_agR_A ha1)) (by unfold an_known; rw [fg_g1_some y4 y5] <;> ((repeat (first | rw [if_pos (by assumption)] | rw [if_neg (by assumption)] | rw [if_pos (by omega)] | rw [if_neg (by omega)] | rw [if_pos (by constructor <;> assumption)] | rw [if_neg (by intro hh; exact absurd hh.1 (by assumption))] | rw [if_neg (by intro hh; exact absurd hh.2 (by assumption))])); (try rfl))))
theorem ev_Mo_follows {E : fg_E} {d : Nat} {μ : Nat → Nat → Int32} {R : fg_T4} {Q : Option Value → fg_M → Prop} {v : Nat} {T : Nat → Nat} (hM : fg_MT (μ 288) v T) (hok : fg_ok T) (hC : fg_MC μ T) {s f : Nat} (hs : s < 2 ^ T 0) (hf : f < 32) (hQ : Q (some (.int (fg_bI ((fg_clo T s).testBit f = true)))) (μ, fg_rho R, 304))  : fg_Ev E yy_Mo_follows (d + 3) [.ref 287, .int (nI v), .int (nI s), .int (nI f)] (μ, fg_rho R, 304) 304 Q := by
  have hv0 := hM.1
  have hb0 := hok.1
  have hb1 := hok.2.1
  have hp := hok.p
  have hq := Nat.two_pow_pos (T 0)
  refine fg_intro (by decide +kernel) (Nat.le_of_ble_eq_true rfl) (fg_okAs rfl) (Nat.le_refl _) ?_
  refine fg_aloadn (fg_ft (pc := 0) tb_Mo_follows 0 rfl) rfl ?_
  refine fg_iloadn (fg_ft (pc := 1) tb_Mo_follows 1 rfl) rfl ?_
  refine fg_iloadn (fg_ft (pc := 2) tb_Mo_follows 2 rfl) rfl ?_
  refine fg_callV (fg_ft (pc := 3) tb_Mo_follows 3 rfl) cf_Mo_206 (fg_isOf ly_287 rfl (fg_lt ly_287 (by decide))) (as := [.int (nI v), .int (nI s)]) (st := []) rfl rfl (Nat.le_of_ble_eq_true rfl) (Nat.le_refl _) (Nat.le_refl _) (ev_Mo_follow hM hok hC (s := s) (hs) ?_)
  refine fg_iloadn (fg_ft (pc := 6) tb_Mo_follows 4 rfl) rfl ?_
  refine fg_ishrN (fg_ft (pc := 7) tb_Mo_follows 5 rfl) (by have := fg_clo_lt hok hs; omega) (by omega) ?_
  refine fg_iconst (fg_ft (pc := 8) tb_Mo_follows 6 rfl) ic_1 ?_
  refine fg_iandN (fg_ft (pc := 9) tb_Mo_follows 7 rfl) ?_
  refine fg_iconst (fg_ft (pc := 10) tb_Mo_follows 8 rfl) ic_1 ?_
  refine fg_icmpbit_ne (tgt := 18) (fg_ft (pc := 11) tb_Mo_follows 9 rfl) (by decide) (fun c11 => ?_) (fun c11 => ?_)
  · refine fg_iconst (fg_ft (pc := 18) tb_Mo_follows 12 rfl) ic_0 ?_
    exact fg_zret (fg_ft (pc := 19) tb_Mo_follows 13 rfl) rfl (by decide) rfl (fg_q hQ (by first | exact fg_bT c11 | exact fg_bF (by rw [c11]; decide)))
  · refine fg_iconst (fg_ft (pc := 14) tb_Mo_follows 10 rfl) ic_1 ?_
    refine fg_goto (tgt := 19) (fg_ft (pc := 15) tb_Mo_follows 11 rfl) (by decide) ?_
    exact fg_zret (fg_ft (pc := 19) tb_Mo_follows 13 rfl) rfl (by decide) rfl (fg_q hQ (by first | exact fg_bT c11 | exact fg_bF (by rw [c11]; decide)))
theorem ev_Mo_twins {E : fg_E} {d : Nat} {μ : Nat → Nat → Int32} {R : fg_T4} {Q : Option Value → fg_M → Prop} {A : fg_Tl} (hL : fg_ML (μ 288) A) (hw : fg_wA A) (h17 : μ 287 17 = -1) (h19 : μ 287 19 = nI 0) {town fact : Nat} (htown : town < 2 ^ 32) (hfact : fact < 2 ^ 32) (hQ : ∀ μ' : Nat → Nat → Int32, fg_agR μ μ' → Q (some (.int (an_twins A town fact))) (μ', fg_rho R, 304)) : fg_Ev E yy_Mo_twins (d + 12) [.ref 287, .int (nI town), .int (nI fact)] (μ, fg_rho R, 304) 304 Q := by
  have ht2 := hw.2.1
  have hd3 := hw.2.2.1
  refine fg_intro (by decide +kernel) (Nat.le_of_ble_eq_true rfl) (fg_okAs rfl) (Nat.le_refl _) ?_
  refine fg_aloadn (fg_ft (pc := 0) tb_Mo_twins 0 rfl) rfl ?_
  refine fg_iconst (fg_ft (pc := 1) tb_Mo_twins 1 rfl) ic_0 ?_
  refine fg_iloadn (fg_ft (pc := 2) tb_Mo_twins 2 rfl) rfl ?_
  refine fg_callV (fg_ft (pc := 3) tb_Mo_twins 3 rfl) cf_Mo_156 (fg_isOf ly_287 rfl (fg_lt ly_287 (by decide))) (as := [.int (nI 0), .int (nI town)]) (st := []) rfl rfl (Nat.le_of_ble_eq_true rfl) (Nat.le_refl _) (Nat.le_refl _) (ev_Mo_isOf0 hL hw (k := town) (htown) ?_)
  refine fg_ifB_eq (tgt := 22) (fg_ft (pc := 6) tb_Mo_twins 4 rfl) (by decide) (fun c6 => ?_) (fun c6 => ?_)
  · refine fg_iconst (fg_ft (pc := 22) tb_Mo_twins 12 rfl) ic_m1 ?_
    exact fg_iret (fg_ft (pc := 23) tb_Mo_twins 13 rfl) rfl rfl (fg_q (hQ _ (fg_agR_rf μ)) (by unfold an_twins; ((repeat (first | rw [if_pos (by assumption)] | rw [if_neg (by assumption)] | rw [if_pos (by omega)] | rw [if_neg (by omega)] | rw [if_pos (by constructor <;> assumption)] | rw [if_neg (by intro hh; exact absurd hh.1 (by assumption))] | rw [if_neg (by intro hh; exact absurd hh.2 (by assumption))])); (try rfl))))
  · have hok := hw.2.2.2.1 town c6
    have hM0 := hL.2.2.1 town c6
    have hv0 := hM0.1
    have hb0 := hok.1
    have hp := hok.p
    refine fg_aloadn (fg_ft (pc := 9) tb_Mo_twins 5 rfl) rfl ?_
    refine fg_iconst (fg_ft (pc := 10) tb_Mo_twins 6 rfl) ic_0 ?_
    refine fg_iloadn (fg_ft (pc := 11) tb_Mo_twins 7 rfl) rfl ?_
    refine fg_callS (fg_ft (pc := 12) tb_Mo_twins 8 rfl) cf_Mo_166 (as := [.int (nI 0), .int (nI town)]) (st := [.ref 287]) rfl rfl (Nat.le_of_ble_eq_true rfl) (Nat.le_refl _) (Nat.le_refl _) (ev_Mo_placeOf0 (k := town) ?_)
    refine fg_iloadn (fg_ft (pc := 15) tb_Mo_twins 9 rfl) rfl ?_
    refine fg_callV (fg_ft (pc := 16) tb_Mo_twins 10 rfl) cf_Mo_233 (fg_isOf ly_287 rfl (fg_lt ly_287 (by decide))) (as := [.int (nI (610 + 152 * town)), .int (nI fact)]) (st := []) rfl rfl (Nat.le_of_ble_eq_true rfl) (Nat.le_refl _) (Nat.le_refl _) (ev_Mo_isFact hM0 hok (k := fact) (hfact) ?_)
    refine fg_ifB_ne (tgt := 24) (fg_ft (pc := 19) tb_Mo_twins 11 rfl) (by decide) (fun c19 => ?_) (fun c19 => ?_)
    · refine fg_iconst (fg_ft (pc := 24) tb_Mo_twins 14 rfl) ic_0 ?_
      refine fg_iloadn (fg_ft (pc := 25) tb_Mo_twins 15 rfl) rfl ?_
      refine fg_callS (fg_ft (pc := 26) tb_Mo_twins 16 rfl) cf_Mo_166 (as := [.int (nI 0), .int (nI town)]) (st := []) rfl rfl (Nat.le_of_ble_eq_true rfl) (Nat.le_refl _) (Nat.le_refl _) (ev_Mo_placeOf0 (k := town) ?_)
      refine fg_istoren (fg_ft (pc := 29) tb_Mo_twins 17 rfl) (Nat.le_of_ble_eq_true rfl) ?_
      refine fg_aloadn (fg_ft (pc := 30) tb_Mo_twins 18 rfl) rfl ?_
      refine fg_iloadn (fg_ft (pc := 31) tb_Mo_twins 19 rfl) rfl ?_
      refine fg_callV (fg_ft (pc := 32) tb_Mo_twins 20 rfl) cf_Mo_197 (fg_isOf ly_287 rfl (fg_lt ly_287 (by decide))) (as := [.int (nI (610 + 152 * town))]) (st := []) rfl rfl (Nat.le_of_ble_eq_true rfl) (Nat.le_refl _) (Nat.le_refl _) (ev_Mo_closes hM0 hok ?_)
      intro μ1 hc1 hC1
      have hM1 := hM0.ag (hc1 288 (by decide))
      have hfp : 2 ^ fact < 2 ^ A.ts town 0 := Nat.pow_lt_pow_right (by decide) c19
      show fg_wp _ _ _ _ _ _ _ _ _ (μ1, fg_rho R, 304)
      refine fg_iconst (fg_ft (pc := 35) tb_Mo_twins 21 rfl) ic_0 ?_
      refine fg_istore (fg_ft (pc := 36) tb_Mo_twins 22 rfl) (Nat.le_of_ble_eq_true rfl) ?_
      refine fg_iconst (fg_ft (pc := 38) tb_Mo_twins 23 rfl) ic_0 ?_
      refine fg_istore (fg_ft (pc := 39) tb_Mo_twins 24 rfl) (Nat.le_of_ble_eq_true rfl) ?_
      have loop : ∀ (m k a : Nat), A.ts town 0 - k < m → k ≤ A.ts town 0 → a = fg_tw (A.ts town) fact k → fg_wp E yy_Mo_twins (d + 12) 304 304 Q 41 [.ref 287, .int (nI town), .int (nI fact), .int (nI (610 + 152 * town)), .int (nI a), .int (nI k)] [] (μ1, fg_rho R, 304) := by
        intro m
        induction m with
        | zero => intro k a h; exact absurd h (Nat.not_lt_zero _)
        | succ m ih =>
          intro k a hm hk ha
          refine fg_iload (fg_ft (pc := 41) tb_Mo_twins 25 rfl) rfl ?_
          refine fg_aloadn (fg_ft (pc := 43) tb_Mo_twins 26 rfl) rfl ?_
          refine fg_getR (fg_ft (pc := 44) tb_Mo_twins 27 rfl) ff_Mo_7 ly_287 rfl (fg_lt ly_287 (by decide)) (rh_287_0 R) ?_
          refine fg_iloadn (fg_ft (pc := 47) tb_Mo_twins 28 rfl) rfl ?_
          refine fg_iconst (fg_ft (pc := 48) tb_Mo_twins 29 rfl) ic_0 ?_
          refine fg_iaddN (fg_ft (pc := 49) tb_Mo_twins 30 rfl) ?_
          refine fg_ialdV (v := (nI ((A.ts town) 0))) (fg_ft (pc := 50) tb_Mo_twins 31 rfl) ly_288 (fg_lt ly_288 (by decide)) (by omega) (fg_MTat hM1 (i := (610 + 152 * town) + 0) (k := 0) (by omega) (by omega)) ?_
          refine fg_icmp_geN (tgt := 105) (fg_ft (pc := 51) tb_Mo_twins 32 rfl) (by decide) (by omega) (by omega) (fun c51 => ?_) (fun c51 => ?_)
          · refine fg_iload (fg_ft (pc := 105) tb_Mo_twins 62 rfl) rfl ?_
            exact fg_iret (fg_ft (pc := 107) tb_Mo_twins 63 rfl) rfl rfl (fg_q (hQ _ (fg_agR_A (fg_agA_C hc1))) (by unfold an_twins; rw [if_pos c6, if_pos c19, ha, show k = A.ts town 0 by omega]))
          · have hkp : 2 ^ k < 2 ^ A.ts town 0 := Nat.pow_lt_pow_right (by decide) (by omega)
            refine fg_iload (fg_ft (pc := 54) tb_Mo_twins 33 rfl) rfl ?_
            refine fg_iload (fg_ft (pc := 56) tb_Mo_twins 34 rfl) rfl ?_
            refine fg_iloadn (fg_ft (pc := 58) tb_Mo_twins 35 rfl) rfl ?_
            refine fg_icmp_eqN (tgt := 95) (fg_ft (pc := 59) tb_Mo_twins 36 rfl) (by decide) (by omega) (by omega) (fun c59 => ?_) (fun c59 => ?_)
            · refine fg_iconst (fg_ft (pc := 95) tb_Mo_twins 57 rfl) ic_0 ?_
              refine fg_iorN (fg_ft (pc := 96) tb_Mo_twins 58 rfl) ?_
              refine fg_istore (fg_ft (pc := 97) tb_Mo_twins 59 rfl) (Nat.le_of_ble_eq_true rfl) ?_
              refine fg_iincN (fg_ft (pc := 99) tb_Mo_twins 60 rfl) rfl ic_1 rfl ?_
              refine fg_goto (tgt := 41) (fg_ft (pc := 102) tb_Mo_twins 61 rfl) (by decide) ?_
              exact ih (k + 1) _ (by omega) (by omega) (by rw [ha]; show _ = fg_tw (A.ts town) fact k ||| _; rw [if_neg (fun hh => by first | exact hh.1 c59 | exact c72 hh.2.1 | exact c85 hh.2.2)])
            · refine fg_aloadn (fg_ft (pc := 62) tb_Mo_twins 37 rfl) rfl ?_
              refine fg_iloadn (fg_ft (pc := 63) tb_Mo_twins 38 rfl) rfl ?_
              refine fg_iconst (fg_ft (pc := 64) tb_Mo_twins 39 rfl) ic_1 ?_
              refine fg_iloadn (fg_ft (pc := 65) tb_Mo_twins 40 rfl) rfl ?_
              refine fg_ishl1 (fg_ft (pc := 66) tb_Mo_twins 41 rfl) (by omega) ?_
              refine fg_iload (fg_ft (pc := 67) tb_Mo_twins 42 rfl) rfl ?_
              refine fg_callV (fg_ft (pc := 69) tb_Mo_twins 43 rfl) cf_Mo_315 (fg_isOf ly_287 rfl (fg_lt ly_287 (by decide))) (as := [.int (nI (610 + 152 * town)), .int (nI (2 ^ fact)), .int (nI k)]) (st := [.int (nI a)]) rfl rfl (Nat.le_of_ble_eq_true rfl) (Nat.le_refl _) (Nat.le_refl _) (ev_Mo_follows hM1 hok hC1 (s := (2 ^ fact)) (f := k) (hfp) (by omega) ?_)
              refine fg_ifB_eq (tgt := 95) (fg_ft (pc := 72) tb_Mo_twins 44 rfl) (by decide) (fun c72 => ?_) (fun c72 => ?_)
              · refine fg_iconst (fg_ft (pc := 95) tb_Mo_twins 57 rfl) ic_0 ?_
                refine fg_iorN (fg_ft (pc := 96) tb_Mo_twins 58 rfl) ?_
                refine fg_istore (fg_ft (pc := 97) tb_Mo_twins 59 rfl) (Nat.le_of_ble_eq_true rfl) ?_
                refine fg_iincN (fg_ft (pc := 99) tb_Mo_twins 60 rfl) rfl ic_1 rfl ?_
                refine fg_goto (tgt := 41) (fg_ft (pc := 102) tb_Mo_twins 61 rfl) (by decide) ?_
                exact ih (k + 1) _ (by omega) (by omega) (by rw [ha]; show _ = fg_tw (A.ts town) fact k ||| _; rw [if_neg (fun hh => by first | exact hh.1 c59 | exact c72 hh.2.1 | exact c85 hh.2.2)])
              · refine fg_aloadn (fg_ft (pc := 75) tb_Mo_twins 45 rfl) rfl ?_
                refine fg_iloadn (fg_ft (pc := 76) tb_Mo_twins 46 rfl) rfl ?_
                refine fg_iconst (fg_ft (pc := 77) tb_Mo_twins 47 rfl) ic_1 ?_
                refine fg_iload (fg_ft (pc := 78) tb_Mo_twins 48 rfl) rfl ?_
                refine fg_ishl1 (fg_ft (pc := 80) tb_Mo_twins 49 rfl) (by omega) ?_
                refine fg_iloadn (fg_ft (pc := 81) tb_Mo_twins 50 rfl) rfl ?_
                refine fg_callV (fg_ft (pc := 82) tb_Mo_twins 51 rfl) cf_Mo_315 (fg_isOf ly_287 rfl (fg_lt ly_287 (by decide))) (as := [.int (nI (610 + 152 * town)), .int (nI (2 ^ k)), .int (nI fact)]) (st := [.int (nI a)]) rfl rfl (Nat.le_of_ble_eq_true rfl) (Nat.le_refl _) (Nat.le_refl _) (ev_Mo_follows hM1 hok hC1 (s := (2 ^ k)) (f := fact) (hkp) (by omega) ?_)
                refine fg_ifB_eq (tgt := 95) (fg_ft (pc := 85) tb_Mo_twins 52 rfl) (by decide) (fun c85 => ?_) (fun c85 => ?_)
                · refine fg_iconst (fg_ft (pc := 95) tb_Mo_twins 57 rfl) ic_0 ?_
                  refine fg_iorN (fg_ft (pc := 96) tb_Mo_twins 58 rfl) ?_
                  refine fg_istore (fg_ft (pc := 97) tb_Mo_twins 59 rfl) (Nat.le_of_ble_eq_true rfl) ?_
                  refine fg_iincN (fg_ft (pc := 99) tb_Mo_twins 60 rfl) rfl ic_1 rfl ?_
                  refine fg_goto (tgt := 41) (fg_ft (pc := 102) tb_Mo_twins 61 rfl) (by decide) ?_
                  exact ih (k + 1) _ (by omega) (by omega) (by rw [ha]; show _ = fg_tw (A.ts town) fact k ||| _; rw [if_neg (fun hh => by first | exact hh.1 c59 | exact c72 hh.2.1 | exact c85 hh.2.2)])
                · refine fg_iconst (fg_ft (pc := 88) tb_Mo_twins 53 rfl) ic_1 ?_
                  refine fg_iload (fg_ft (pc := 89) tb_Mo_twins 54 rfl) rfl ?_
                  refine fg_ishl1 (fg_ft (pc := 91) tb_Mo_twins 55 rfl) (by omega) ?_
                  refine fg_goto (tgt := 96) (fg_ft (pc := 92) tb_Mo_twins 56 rfl) (by decide) ?_
                  refine fg_iorN (fg_ft (pc := 96) tb_Mo_twins 58 rfl) ?_
                  refine fg_istore (fg_ft (pc := 97) tb_Mo_twins 59 rfl) (Nat.le_of_ble_eq_true rfl) ?_
                  refine fg_iincN (fg_ft (pc := 99) tb_Mo_twins 60 rfl) rfl ic_1 rfl ?_
                  refine fg_goto (tgt := 41) (fg_ft (pc := 102) tb_Mo_twins 61 rfl) (by decide) ?_
                  exact ih (k + 1) _ (by omega) (by omega) (by rw [ha]; show _ = fg_tw (A.ts town) fact k ||| _; rw [if_pos ⟨c59, c72, c85⟩])
      exact loop (A.ts town 0 + 1) 0 0 (by omega) (by omega) rfl
    · refine fg_iconst (fg_ft (pc := 22) tb_Mo_twins 12 rfl) ic_m1 ?_
      exact fg_iret (fg_ft (pc := 23) tb_Mo_twins 13 rfl) rfl rfl (fg_q (hQ _ (fg_agR_rf μ)) (by unfold an_twins; ((repeat (first | rw [if_pos (by assumption)] | rw [if_neg (by assumption)] | rw [if_pos (by omega)] | rw [if_neg (by omega)] | rw [if_pos (by constructor <;> assumption)] | rw [if_neg (by intro hh; exact absurd hh.1 (by assumption))] | rw [if_neg (by intro hh; exact absurd hh.2 (by assumption))])); (try rfl))))
theorem ev_Mo_trial {E : fg_E} {d : Nat} {μ : Nat → Nat → Int32} {R : fg_T4} {Q : Option Value → fg_M → Prop} {A : fg_Tl} (hL : fg_ML (μ 288) A) (hw : fg_wA A) (h17 : μ 287 17 = -1) (h19 : μ 287 19 = nI 0) {town day n person facts fact : Nat} (htown : town < 2 ^ 32) (hday : day < 2 ^ 32) (hn : n < 2 ^ 32) (hperson : person < 2 ^ 32) (hfacts : facts < 2 ^ 32) (hfact : fact < 2 ^ 32) (hQ : ∀ μ' : Nat → Nat → Int32, fg_agR μ μ' → Q (some (.int (an_trial A town day n person facts fact))) (μ', fg_rho R, 304)) : fg_Ev E yy_Mo_trial (d + 12) [.ref 287, .int (nI town), .int (nI day), .int (nI n), .int (nI person), .int (nI facts), .int (nI fact)] (μ, fg_rho R, 304) 304 Q := by
  have ht2 := hw.2.1
  have hd3 := hw.2.2.1
  refine fg_intro (by decide +kernel) (Nat.le_of_ble_eq_true rfl) (fg_okAs rfl) (Nat.le_refl _) ?_
  refine fg_aloadn (fg_ft (pc := 0) tb_Mo_trial 0 rfl) rfl ?_
  refine fg_iloadn (fg_ft (pc := 1) tb_Mo_trial 1 rfl) rfl ?_
  refine fg_iloadn (fg_ft (pc := 2) tb_Mo_trial 2 rfl) rfl ?_
  refine fg_iloadn (fg_ft (pc := 3) tb_Mo_trial 3 rfl) rfl ?_
  refine fg_iload (fg_ft (pc := 4) tb_Mo_trial 4 rfl) rfl ?_
  refine fg_callV (fg_ft (pc := 6) tb_Mo_trial 5 rfl) cf_Mo_258 (fg_isOf ly_287 rfl (fg_lt ly_287 (by decide))) (as := [.int (nI town), .int (nI day), .int (nI n), .int (nI person)]) (st := []) rfl rfl (Nat.le_of_ble_eq_true rfl) (Nat.le_refl _) (Nat.le_refl _) (ev_Mo_isOne hL hw h17 h19 htown hday hn hperson (fun n4 μ1 ha1 => ?_) (fun S lv y4 y5 μ1 n1 y1 ha1 hC1 hS1 => ?_))
  · refine fg_if_eq (tgt := 40) (fg_ft (pc := 9) tb_Mo_trial 6 rfl) (by decide) (fun _ => ?_) (fun h => absurd h (by decide))
    refine fg_iconst (fg_ft (pc := 40) tb_Mo_trial 21 rfl) ic_m1 ?_
    exact fg_iret (fg_ft (pc := 41) tb_Mo_trial 22 rfl) rfl rfl (fg_q (hQ _ (fg_agR_A ha1)) (by unfold an_trial; rw [fg_g1_none n4] <;> ((repeat (first | rw [if_pos (by assumption)] | rw [if_neg (by assumption)] | rw [if_pos (by omega)] | rw [if_neg (by omega)] | rw [if_pos (by constructor <;> assumption)] | rw [if_neg (by intro hh; exact absurd hh.1 (by assumption))] | rw [if_neg (by intro hh; exact absurd hh.2 (by assumption))])); (try rfl))))
  · have ytc := fg_fnd_t y4
    have hok := hw.2.2.2.1 town ytc
    have hM1 := (hL.2.2.1 town ytc).ag ha1.m
    have hz : fg_zok (A.ts town) S.1 (S.2.1.1, 0, 0, 0) S.2.2 := fg_zok.news (fg_fnd_okW hw y4)
    have hv0 := hM1.1
    have hb0 := hok.1
    have hb1 := hok.2.1
    have hp := hok.p
    have hz9 := hz.1
    have hm2 := hz.2.1 person y5
    have hm0 : S.2.1.1 person < 2 ^ A.ts town 0 := hm2.1
    have hmc : fg_clsd (A.ts town) (S.2.1.1 person) := hm2.2
    have hm10 : S.2.1.1 person < 1024 := by omega
    refine fg_if_eq (tgt := 40) (fg_ft (pc := 9) tb_Mo_trial 6 rfl) (by decide) (fun h => absurd h (by decide)) (fun _ => ?_)
    refine fg_aloadn (fg_ft (pc := 12) tb_Mo_trial 7 rfl) rfl ?_
    refine fg_iconst (fg_ft (pc := 13) tb_Mo_trial 8 rfl) ic_0 ?_
    refine fg_iloadn (fg_ft (pc := 14) tb_Mo_trial 9 rfl) rfl ?_
    refine fg_callS (fg_ft (pc := 15) tb_Mo_trial 10 rfl) cf_Mo_166 (as := [.int (nI 0), .int (nI town)]) (st := [.ref 287]) rfl rfl (Nat.le_of_ble_eq_true rfl) (Nat.le_refl _) (Nat.le_refl _) (ev_Mo_placeOf0 (k := town) ?_)
    refine fg_iload (fg_ft (pc := 18) tb_Mo_trial 11 rfl) rfl ?_
    refine fg_callV (fg_ft (pc := 20) tb_Mo_trial 12 rfl) cf_Mo_273 (fg_isOf ly_287 rfl (fg_lt ly_287 (by decide))) (as := [.int (nI (610 + 152 * town)), .int (nI facts)]) (st := []) rfl rfl (Nat.le_of_ble_eq_true rfl) (Nat.le_refl _) (Nat.le_refl _) (ev_Mo_areFacts hM1 hok (k := facts) (hfacts) ?_)
    refine fg_ifB_eq (tgt := 40) (fg_ft (pc := 23) tb_Mo_trial 13 rfl) (by decide) (fun c23 => ?_) (fun c23 => ?_)
    · refine fg_iconst (fg_ft (pc := 40) tb_Mo_trial 21 rfl) ic_m1 ?_
      exact fg_iret (fg_ft (pc := 41) tb_Mo_trial 22 rfl) rfl rfl (fg_q (hQ _ (fg_agR_A ha1)) (by unfold an_trial; rw [fg_g1_some y4 y5] <;> ((repeat (first | rw [if_pos (by assumption)] | rw [if_neg (by assumption)] | rw [if_pos (by omega)] | rw [if_neg (by omega)] | rw [if_pos (by constructor <;> assumption)] | rw [if_neg (by intro hh; exact absurd hh.1 (by assumption))] | rw [if_neg (by intro hh; exact absurd hh.2 (by assumption))])); (try rfl))))
    · refine fg_aloadn (fg_ft (pc := 26) tb_Mo_trial 14 rfl) rfl ?_
      refine fg_iconst (fg_ft (pc := 27) tb_Mo_trial 15 rfl) ic_0 ?_
      refine fg_iloadn (fg_ft (pc := 28) tb_Mo_trial 16 rfl) rfl ?_
      refine fg_callS (fg_ft (pc := 29) tb_Mo_trial 17 rfl) cf_Mo_166 (as := [.int (nI 0), .int (nI town)]) (st := [.ref 287]) rfl rfl (Nat.le_of_ble_eq_true rfl) (Nat.le_refl _) (Nat.le_refl _) (ev_Mo_placeOf0 (k := town) ?_)
      refine fg_iload (fg_ft (pc := 32) tb_Mo_trial 18 rfl) rfl ?_
      refine fg_callV (fg_ft (pc := 34) tb_Mo_trial 19 rfl) cf_Mo_233 (fg_isOf ly_287 rfl (fg_lt ly_287 (by decide))) (as := [.int (nI (610 + 152 * town)), .int (nI fact)]) (st := []) rfl rfl (Nat.le_of_ble_eq_true rfl) (Nat.le_refl _) (Nat.le_refl _) (ev_Mo_isFact hM1 hok (k := fact) (hfact) ?_)
      refine fg_ifB_ne (tgt := 42) (fg_ft (pc := 37) tb_Mo_trial 20 rfl) (by decide) (fun c37 => ?_) (fun c37 => ?_)
      · refine fg_iconst (fg_ft (pc := 42) tb_Mo_trial 23 rfl) ic_0 ?_
        refine fg_iloadn (fg_ft (pc := 43) tb_Mo_trial 24 rfl) rfl ?_
        refine fg_callS (fg_ft (pc := 44) tb_Mo_trial 25 rfl) cf_Mo_166 (as := [.int (nI 0), .int (nI town)]) (st := []) rfl rfl (Nat.le_of_ble_eq_true rfl) (Nat.le_refl _) (Nat.le_refl _) (ev_Mo_placeOf0 (k := town) ?_)
        refine fg_istore (fg_ft (pc := 47) tb_Mo_trial 26 rfl) (Nat.le_of_ble_eq_true rfl) ?_
        refine fg_aloadn (fg_ft (pc := 49) tb_Mo_trial 27 rfl) rfl ?_
        refine fg_getR (fg_ft (pc := 50) tb_Mo_trial 28 rfl) ff_Mo_23 ly_287 rfl (fg_lt ly_287 (by decide)) (rh_287_12 R) ?_
        refine fg_iload (fg_ft (pc := 53) tb_Mo_trial 29 rfl) rfl ?_
        refine fg_ialdV (v := (nI (S.2.1.1 person))) (fg_ft (pc := 55) tb_Mo_trial 30 rfl) ly_292 (fg_lt ly_292 (by decide)) (by omega) (hS1.2.1 _ (by omega)) ?_
        refine fg_istore (fg_ft (pc := 56) tb_Mo_trial 31 rfl) (Nat.le_of_ble_eq_true rfl) ?_
        refine fg_iconst (fg_ft (pc := 58) tb_Mo_trial 32 rfl) ic_0 ?_
        refine fg_istore (fg_ft (pc := 59) tb_Mo_trial 33 rfl) (Nat.le_of_ble_eq_true rfl) ?_
        refine fg_iconst (fg_ft (pc := 61) tb_Mo_trial 34 rfl) ic_0 ?_
        refine fg_istore (fg_ft (pc := 62) tb_Mo_trial 35 rfl) (Nat.le_of_ble_eq_true rfl) ?_
        have loop : ∀ (m k a c : Nat), A.ts town 0 - k < m → k ≤ A.ts town 0 → fg_tr (A.ts town) facts fact (S.2.1.1 person) k = (a, c) → fg_wp E yy_Mo_trial (d + 12) 304 304 Q 64 [.ref 287, .int (nI town), .int (nI day), .int (nI n), .int (nI person), .int (nI facts), .int (nI fact), .int (nI (610 + 152 * town)), .int (nI a), .int (nI c), .int (nI k)] [] (μ1, fg_rho R, 304) := by
          intro m
          induction m with
          | zero => intro k a c h; exact absurd h (Nat.not_lt_zero _)
          | succ m ih =>
            intro k a c hm hk hab
            have ha0 : a < 2 ^ A.ts town 0 := by have := fg_tr_lt hok hm0 (facts := facts) (fact := fact) k hk; rw [hab] at this; exact this
            refine fg_iload (fg_ft (pc := 64) tb_Mo_trial 36 rfl) rfl ?_
            refine fg_aloadn (fg_ft (pc := 66) tb_Mo_trial 37 rfl) rfl ?_
            refine fg_getR (fg_ft (pc := 67) tb_Mo_trial 38 rfl) ff_Mo_7 ly_287 rfl (fg_lt ly_287 (by decide)) (rh_287_0 R) ?_
            refine fg_iload (fg_ft (pc := 70) tb_Mo_trial 39 rfl) rfl ?_
            refine fg_iconst (fg_ft (pc := 72) tb_Mo_trial 40 rfl) ic_0 ?_
            refine fg_iaddN (fg_ft (pc := 73) tb_Mo_trial 41 rfl) ?_
            refine fg_ialdV (v := (nI ((A.ts town) 0))) (fg_ft (pc := 74) tb_Mo_trial 42 rfl) ly_288 (fg_lt ly_288 (by decide)) (by omega) (fg_MTat hM1 (i := (610 + 152 * town) + 0) (k := 0) (by omega) (by omega)) ?_
            refine fg_icmp_geN (tgt := 125) (fg_ft (pc := 75) tb_Mo_trial 43 rfl) (by decide) (by omega) (by omega) (fun c75 => ?_) (fun c75 => ?_)
            · have hend : fg_tr (A.ts town) facts fact (S.2.1.1 person) (A.ts town 0) = (a, c) := by
                first
                  | (rw [show A.ts town 0 = k by omega]; exact hab)
                  | (have e := fg_tr_keep (T := A.ts town) (facts := facts) (fact := fact) (m := S.2.1.1 person) (n := k) (by rw [hab]; exact c85) (A.ts town 0 - k); rw [show k + (A.ts town 0 - k) = A.ts town 0 by omega] at e; rw [e]; exact hab)
              refine fg_iload (fg_ft (pc := 125) tb_Mo_trial 69 rfl) rfl ?_
              refine fg_iload (fg_ft (pc := 127) tb_Mo_trial 70 rfl) rfl ?_
              refine fg_ishrN (fg_ft (pc := 129) tb_Mo_trial 71 rfl) (by omega) (by omega) ?_
              refine fg_iconst (fg_ft (pc := 130) tb_Mo_trial 72 rfl) ic_1 ?_
              refine fg_iandN (fg_ft (pc := 131) tb_Mo_trial 73 rfl) ?_
              refine fg_iconst (fg_ft (pc := 132) tb_Mo_trial 74 rfl) ic_1 ?_
              refine fg_icmpbit_ne (tgt := 141) (fg_ft (pc := 133) tb_Mo_trial 75 rfl) (by decide) (fun c133 => ?_) (fun c133 => ?_)
              · refine fg_iconst (fg_ft (pc := 141) tb_Mo_trial 78 rfl) ic_m1 ?_
                exact fg_iret (fg_ft (pc := 142) tb_Mo_trial 79 rfl) rfl rfl (fg_q (hQ _ (fg_agR_A ha1)) (by unfold an_trial; rw [fg_g1_some y4 y5] <;> (rw [if_pos c23, if_pos c37, hend]; dsimp only; rw [if_neg (by rw [c133]; decide)])))
              · refine fg_iload (fg_ft (pc := 136) tb_Mo_trial 76 rfl) rfl ?_
                refine fg_goto (tgt := 142) (fg_ft (pc := 138) tb_Mo_trial 77 rfl) (by decide) ?_
                exact fg_iret (fg_ft (pc := 142) tb_Mo_trial 79 rfl) rfl rfl (fg_q (hQ _ (fg_agR_A ha1)) (by unfold an_trial; rw [fg_g1_some y4 y5] <;> (rw [if_pos c23, if_pos c37, hend]; dsimp only; rw [if_pos c133])))
            · refine fg_iload (fg_ft (pc := 78) tb_Mo_trial 44 rfl) rfl ?_
              refine fg_iload (fg_ft (pc := 80) tb_Mo_trial 45 rfl) rfl ?_
              refine fg_ishrN (fg_ft (pc := 82) tb_Mo_trial 46 rfl) (by omega) (by omega) ?_
              refine fg_iconst (fg_ft (pc := 83) tb_Mo_trial 47 rfl) ic_1 ?_
              refine fg_iandN (fg_ft (pc := 84) tb_Mo_trial 48 rfl) ?_
              refine fg_ifbit_ne (tgt := 125) (fg_ft (pc := 85) tb_Mo_trial 49 rfl) (by decide) (fun c85 => ?_) (fun c85 => ?_)
              · have hend : fg_tr (A.ts town) facts fact (S.2.1.1 person) (A.ts town 0) = (a, c) := by
                  first
                    | (rw [show A.ts town 0 = k by omega]; exact hab)
                    | (have e := fg_tr_keep (T := A.ts town) (facts := facts) (fact := fact) (m := S.2.1.1 person) (n := k) (by rw [hab]; exact c85) (A.ts town 0 - k); rw [show k + (A.ts town 0 - k) = A.ts town 0 by omega] at e; rw [e]; exact hab)
                refine fg_iload (fg_ft (pc := 125) tb_Mo_trial 69 rfl) rfl ?_
                refine fg_iload (fg_ft (pc := 127) tb_Mo_trial 70 rfl) rfl ?_
                refine fg_ishrN (fg_ft (pc := 129) tb_Mo_trial 71 rfl) (by omega) (by omega) ?_
                refine fg_iconst (fg_ft (pc := 130) tb_Mo_trial 72 rfl) ic_1 ?_
                refine fg_iandN (fg_ft (pc := 131) tb_Mo_trial 73 rfl) ?_
                refine fg_iconst (fg_ft (pc := 132) tb_Mo_trial 74 rfl) ic_1 ?_
                refine fg_icmpbit_ne (tgt := 141) (fg_ft (pc := 133) tb_Mo_trial 75 rfl) (by decide) (fun c133 => ?_) (fun c133 => ?_)
                · refine fg_iconst (fg_ft (pc := 141) tb_Mo_trial 78 rfl) ic_m1 ?_
                  exact fg_iret (fg_ft (pc := 142) tb_Mo_trial 79 rfl) rfl rfl (fg_q (hQ _ (fg_agR_A ha1)) (by unfold an_trial; rw [fg_g1_some y4 y5] <;> (rw [if_pos c23, if_pos c37, hend]; dsimp only; rw [if_neg (by rw [c133]; decide)])))
                · refine fg_iload (fg_ft (pc := 136) tb_Mo_trial 76 rfl) rfl ?_
                  refine fg_goto (tgt := 142) (fg_ft (pc := 138) tb_Mo_trial 77 rfl) (by decide) ?_
                  exact fg_iret (fg_ft (pc := 142) tb_Mo_trial 79 rfl) rfl rfl (fg_q (hQ _ (fg_agR_A ha1)) (by unfold an_trial; rw [fg_g1_some y4 y5] <;> (rw [if_pos c23, if_pos c37, hend]; dsimp only; rw [if_pos c133])))
              · refine fg_iload (fg_ft (pc := 88) tb_Mo_trial 50 rfl) rfl ?_
                refine fg_iload (fg_ft (pc := 90) tb_Mo_trial 51 rfl) rfl ?_
                refine fg_ishrN (fg_ft (pc := 92) tb_Mo_trial 52 rfl) (by omega) (by omega) ?_
                refine fg_iconst (fg_ft (pc := 93) tb_Mo_trial 53 rfl) ic_1 ?_
                refine fg_iandN (fg_ft (pc := 94) tb_Mo_trial 54 rfl) ?_
                refine fg_ifbit_ne (tgt := 101) (fg_ft (pc := 95) tb_Mo_trial 55 rfl) (by decide) (fun c95 => ?_) (fun c95 => ?_)
                · have hak : a ||| 2 ^ k < 2 ^ A.ts town 0 := fg_or_lt ha0 (Nat.pow_lt_pow_right (by decide) (by omega))
                  refine fg_aloadn (fg_ft (pc := 101) tb_Mo_trial 57 rfl) rfl ?_
                  refine fg_iload (fg_ft (pc := 102) tb_Mo_trial 58 rfl) rfl ?_
                  refine fg_iload (fg_ft (pc := 104) tb_Mo_trial 59 rfl) rfl ?_
                  refine fg_iconst (fg_ft (pc := 106) tb_Mo_trial 60 rfl) ic_1 ?_
                  refine fg_iload (fg_ft (pc := 107) tb_Mo_trial 61 rfl) rfl ?_
                  refine fg_ishl1 (fg_ft (pc := 109) tb_Mo_trial 62 rfl) (by omega) ?_
                  refine fg_iorN (fg_ft (pc := 110) tb_Mo_trial 63 rfl) ?_
                  refine fg_callV (fg_ft (pc := 111) tb_Mo_trial 64 rfl) cf_Mo_206 (fg_isOf ly_287 rfl (fg_lt ly_287 (by decide))) (as := [.int (nI (610 + 152 * town)), .int (nI (a ||| (2 ^ k)))]) (st := []) rfl rfl (Nat.le_of_ble_eq_true rfl) (Nat.le_refl _) (Nat.le_refl _) (ev_Mo_follow hM1 hok hC1 (s := (a ||| (2 ^ k))) (hak) ?_)
                  refine fg_istore (fg_ft (pc := 114) tb_Mo_trial 65 rfl) (Nat.le_of_ble_eq_true rfl) ?_
                  refine fg_iincN (fg_ft (pc := 116) tb_Mo_trial 66 rfl) rfl ic_1 rfl ?_
                  refine fg_iincN (fg_ft (pc := 119) tb_Mo_trial 67 rfl) rfl ic_1 rfl ?_
                  refine fg_goto (tgt := 64) (fg_ft (pc := 122) tb_Mo_trial 68 rfl) (by decide) ?_
                  exact ih (k + 1) _ _ (by omega) (by omega) (by unfold fg_tr; rw [hab]; dsimp only; rw [if_neg (by rw [c85]; decide), if_pos c95])
                · refine fg_goto (tgt := 119) (fg_ft (pc := 98) tb_Mo_trial 56 rfl) (by decide) ?_
                  refine fg_iincN (fg_ft (pc := 119) tb_Mo_trial 67 rfl) rfl ic_1 rfl ?_
                  refine fg_goto (tgt := 64) (fg_ft (pc := 122) tb_Mo_trial 68 rfl) (by decide) ?_
                  exact ih (k + 1) _ _ (by omega) (by omega) (by unfold fg_tr; rw [hab]; dsimp only; rw [if_neg (by rw [c85]; decide), if_neg (by rw [c95]; decide)])
        exact loop (A.ts town 0 + 1) 0 _ _ (by omega) (by omega) rfl
      · refine fg_iconst (fg_ft (pc := 40) tb_Mo_trial 21 rfl) ic_m1 ?_
        exact fg_iret (fg_ft (pc := 41) tb_Mo_trial 22 rfl) rfl rfl (fg_q (hQ _ (fg_agR_A ha1)) (by unfold an_trial; rw [fg_g1_some y4 y5] <;> ((repeat (first | rw [if_pos (by assumption)] | rw [if_neg (by assumption)] | rw [if_pos (by omega)] | rw [if_neg (by omega)] | rw [if_pos (by constructor <;> assumption)] | rw [if_neg (by intro hh; exact absurd hh.1 (by assumption))] | rw [if_neg (by intro hh; exact absurd hh.2 (by assumption))])); (try rfl))))
theorem ev_Mo_relief0 {E : fg_E} {d : Nat} {μ : Nat → Nat → Int32} {R : fg_T4} {Q : Option Value → fg_M → Prop} {A : fg_Tl} (hL : fg_ML (μ 288) A) (hw : fg_wA A) (h17 : μ 287 17 = -1) (h19 : μ 287 19 = nI 0) {town day n person : Nat} (htown : town < 2 ^ 32) (hday : day < 2 ^ 32) (hn : n < 2 ^ 32) (hperson : person < 2 ^ 32) (hQ : ∀ μ' : Nat → Nat → Int32, fg_agR μ μ' → Q (some (.int (an_relief A town day n person 0))) (μ', fg_rho R, 304)) : fg_Ev E yy_Mo_relief (d + 12) [.ref 287, .int (nI town), .int (nI day), .int (nI n), .int (nI person), .int (nI 0)] (μ, fg_rho R, 304) 304 Q := by
  have ht2 := hw.2.1
  have hd3 := hw.2.2.1
  refine fg_intro (by decide +kernel) (Nat.le_of_ble_eq_true rfl) (fg_okAs rfl) (Nat.le_refl _) ?_
  refine fg_aloadn (fg_ft (pc := 0) tb_Mo_relief 0 rfl) rfl ?_
  refine fg_iloadn (fg_ft (pc := 1) tb_Mo_relief 1 rfl) rfl ?_
  refine fg_iloadn (fg_ft (pc := 2) tb_Mo_relief 2 rfl) rfl ?_
  refine fg_iloadn (fg_ft (pc := 3) tb_Mo_relief 3 rfl) rfl ?_
  refine fg_iload (fg_ft (pc := 4) tb_Mo_relief 4 rfl) rfl ?_
  refine fg_callV (fg_ft (pc := 6) tb_Mo_relief 5 rfl) cf_Mo_258 (fg_isOf ly_287 rfl (fg_lt ly_287 (by decide))) (as := [.int (nI town), .int (nI day), .int (nI n), .int (nI person)]) (st := []) rfl rfl (Nat.le_of_ble_eq_true rfl) (Nat.le_refl _) (Nat.le_refl _) (ev_Mo_isOne hL hw h17 h19 htown hday hn hperson (fun n4 μ1 ha1 => ?_) (fun S lv y4 y5 μ1 n1 y1 ha1 hC1 hS1 => ?_))
  · refine fg_if_ne (tgt := 14) (fg_ft (pc := 9) tb_Mo_relief 6 rfl) (by decide) (fun h => absurd h (by decide)) (fun _ => ?_)
    refine fg_iconst (fg_ft (pc := 12) tb_Mo_relief 7 rfl) ic_m1 ?_
    exact fg_iret (fg_ft (pc := 13) tb_Mo_relief 8 rfl) rfl rfl (fg_q (hQ _ (fg_agR_A ha1)) (by unfold an_relief; rw [fg_g1_none n4]))
  · have ytc := fg_fnd_t y4
    have hok := hw.2.2.2.1 town ytc
    have hM1 := (hL.2.2.1 town ytc).ag ha1.m
    have hz : fg_zok (A.ts town) S.1 (S.2.1.1, 0, 0, 0) S.2.2 := fg_zok.news (fg_fnd_okW hw y4)
    have hv0 := hM1.1
    have hb0 := hok.1
    have hb1 := hok.2.1
    have hp := hok.p
    have hz9 := hz.1
    have hm2 := hz.2.1 person y5
    have hm0 : S.2.1.1 person < 2 ^ A.ts town 0 := hm2.1
    have hmc : fg_clsd (A.ts town) (S.2.1.1 person) := hm2.2
    have hm10 : S.2.1.1 person < 1024 := by omega
    refine fg_if_ne (tgt := 14) (fg_ft (pc := 9) tb_Mo_relief 6 rfl) (by decide) (fun _ => ?_) (fun h => absurd h (by decide))
    refine fg_iconst (fg_ft (pc := 14) tb_Mo_relief 9 rfl) ic_0 ?_
    refine fg_iloadn (fg_ft (pc := 15) tb_Mo_relief 10 rfl) rfl ?_
    refine fg_callS (fg_ft (pc := 16) tb_Mo_relief 11 rfl) cf_Mo_166 (as := [.int (nI 0), .int (nI town)]) (st := []) rfl rfl (Nat.le_of_ble_eq_true rfl) (Nat.le_refl _) (Nat.le_refl _) (ev_Mo_placeOf0 (k := town) ?_)
    refine fg_istore (fg_ft (pc := 19) tb_Mo_relief 12 rfl) (Nat.le_of_ble_eq_true rfl) ?_
    refine fg_iconst (fg_ft (pc := 21) tb_Mo_relief 13 rfl) ic_m1 ?_
    refine fg_istore (fg_ft (pc := 22) tb_Mo_relief 14 rfl) (Nat.le_of_ble_eq_true rfl) ?_
    refine fg_iconst (fg_ft (pc := 24) tb_Mo_relief 15 rfl) ic_m1 ?_
    refine fg_istore (fg_ft (pc := 25) tb_Mo_relief 16 rfl) (Nat.le_of_ble_eq_true rfl) ?_
    refine fg_iconst (fg_ft (pc := 27) tb_Mo_relief 17 rfl) ic_0 ?_
    refine fg_istore (fg_ft (pc := 28) tb_Mo_relief 18 rfl) (Nat.le_of_ble_eq_true rfl) ?_
    refine fg_iconst (fg_ft (pc := 30) tb_Mo_relief 19 rfl) ic_0 ?_
    refine fg_istore (fg_ft (pc := 31) tb_Mo_relief 20 rfl) (Nat.le_of_ble_eq_true rfl) ?_
    have loop : ∀ (m k : Nat) (o : Option (Nat × Nat)) (x : Int32) (v11 : Value), 3 * A.ts town 0 - k < m → k ≤ 3 * A.ts town 0 → fg_rl (A.ts town) (S.2.1.1 person) k = (x, o) → fg_wp E yy_Mo_relief (d + 12) 304 304 Q 33 [.ref 287, .int (nI town), .int (nI day), .int (nI n), .int (nI person), .int (nI 0), .int (nI (610 + 152 * town)), .int (fg_rlA 0 o), .int (fg_rlA 1 o), .int x, .int (nI k), v11] [] (μ1, fg_rho R, 304) := by
      intro m
      induction m with
      | zero => intro k o x v11 h; exact absurd h (Nat.not_lt_zero _)
      | succ m ih =>
        intro k o x v11 hm hk hx
        refine fg_iload (fg_ft (pc := 33) tb_Mo_relief 21 rfl) rfl ?_
        refine fg_iconst (fg_ft (pc := 35) tb_Mo_relief 22 rfl) ic_3 ?_
        refine fg_aloadn (fg_ft (pc := 36) tb_Mo_relief 23 rfl) rfl ?_
        refine fg_getR (fg_ft (pc := 37) tb_Mo_relief 24 rfl) ff_Mo_7 ly_287 rfl (fg_lt ly_287 (by decide)) (rh_287_0 R) ?_
        refine fg_iload (fg_ft (pc := 40) tb_Mo_relief 25 rfl) rfl ?_
        refine fg_iconst (fg_ft (pc := 42) tb_Mo_relief 26 rfl) ic_0 ?_
        refine fg_iaddN (fg_ft (pc := 43) tb_Mo_relief 27 rfl) ?_
        refine fg_ialdV (v := (nI ((A.ts town) 0))) (fg_ft (pc := 44) tb_Mo_relief 28 rfl) ly_288 (fg_lt ly_288 (by decide)) (by omega) (fg_MTat hM1 (i := (610 + 152 * town) + 0) (k := 0) (by omega) (by omega)) ?_
        refine fg_imulN (fg_ft (pc := 45) tb_Mo_relief 29 rfl) ?_
        refine fg_icmp_geN (tgt := 120) (fg_ft (pc := 46) tb_Mo_relief 30 rfl) (by decide) (by omega) (by omega) (fun c46 => ?_) (fun c46 => ?_)
        · refine fg_iload (fg_ft (pc := 120) tb_Mo_relief 69 rfl) rfl ?_
          refine fg_if_eq (tgt := 130) (fg_ft (pc := 122) tb_Mo_relief 70 rfl) (by decide) (fun _ => ?_) (fun h => absurd h (by decide))
          refine fg_iload (fg_ft (pc := 130) tb_Mo_relief 73 rfl) rfl ?_
          exact fg_iret (fg_ft (pc := 132) tb_Mo_relief 74 rfl) rfl rfl (fg_q (hQ _ (fg_agR_A ha1)) (by unfold an_relief; rw [fg_g1_some y4 y5] <;> (rw [show 3 * A.ts town 0 = k by omega, hx])))
        · refine fg_aloadn (fg_ft (pc := 49) tb_Mo_relief 31 rfl) rfl ?_
          refine fg_iload (fg_ft (pc := 50) tb_Mo_relief 32 rfl) rfl ?_
          refine fg_iload (fg_ft (pc := 52) tb_Mo_relief 33 rfl) rfl ?_
          refine fg_iconst (fg_ft (pc := 54) tb_Mo_relief 34 rfl) ic_3 ?_
          refine fg_idivN (fg_ft (pc := 55) tb_Mo_relief 35 rfl) (by omega) (by decide) (by decide) ?_
          refine fg_callV (fg_ft (pc := 56) tb_Mo_relief 36 rfl) cf_Mo_212 (fg_isOf ly_287 rfl (fg_lt ly_287 (by decide))) (as := [.int (nI person), .int (nI (k / 3))]) (st := []) rfl rfl (Nat.le_of_ble_eq_true rfl) (Nat.le_refl _) (Nat.le_refl _) (ev_Mo_knows (Mv := S.2.1.1) (T := (A.ts town)) (hS1.2.1) (p := person) (f := (k / 3)) (by omega) (by omega) (fg_km hok hz (by omega)) ?_)
          refine fg_ifB_ne (tgt := 65) (fg_ft (pc := 59) tb_Mo_relief 37 rfl) (by decide) (fun c59 => ?_) (fun c59 => ?_)
          · refine fg_aloadn (fg_ft (pc := 65) tb_Mo_relief 39 rfl) rfl ?_
            refine fg_iload (fg_ft (pc := 66) tb_Mo_relief 40 rfl) rfl ?_
            refine fg_aloadn (fg_ft (pc := 68) tb_Mo_relief 41 rfl) rfl ?_
            refine fg_getR (fg_ft (pc := 69) tb_Mo_relief 42 rfl) ff_Mo_23 ly_287 rfl (fg_lt ly_287 (by decide)) (rh_287_12 R) ?_
            refine fg_iload (fg_ft (pc := 72) tb_Mo_relief 43 rfl) rfl ?_
            refine fg_ialdV (v := (nI (S.2.1.1 person))) (fg_ft (pc := 74) tb_Mo_relief 44 rfl) ly_292 (fg_lt ly_292 (by decide)) (by omega) (hS1.2.1 _ (by omega)) ?_
            refine fg_iload (fg_ft (pc := 75) tb_Mo_relief 45 rfl) rfl ?_
            refine fg_iconst (fg_ft (pc := 77) tb_Mo_relief 46 rfl) ic_3 ?_
            refine fg_idivN (fg_ft (pc := 78) tb_Mo_relief 47 rfl) (by omega) (by decide) (by decide) ?_
            refine fg_iload (fg_ft (pc := 79) tb_Mo_relief 48 rfl) rfl ?_
            refine fg_iconst (fg_ft (pc := 81) tb_Mo_relief 49 rfl) ic_3 ?_
            refine fg_iremN (fg_ft (pc := 82) tb_Mo_relief 50 rfl) (by omega) (by decide) (by decide) ?_
            refine fg_callV (fg_ft (pc := 83) tb_Mo_relief 51 rfl) cf_Mo_321 (fg_isOf ly_287 rfl (fg_lt ly_287 (by decide))) (as := [.int (nI (610 + 152 * town)), .int (nI (S.2.1.1 person)), .int (nI (k / 3)), .int (nI (k % 3))]) (st := []) rfl rfl (Nat.le_of_ble_eq_true rfl) (Nat.le_refl _) (Nat.le_refl _) (ev_Mo_gainOf hM1 hok hC1 (m := (S.2.1.1 person)) (f := (k / 3)) (kd := (k % 3)) (hm0) (c59) (by omega) ?_)
            refine fg_istore (fg_ft (pc := 86) tb_Mo_relief 52 rfl) (Nat.le_of_ble_eq_true rfl) ?_
            refine fg_iload (fg_ft (pc := 88) tb_Mo_relief 53 rfl) rfl ?_
            refine fg_iload (fg_ft (pc := 90) tb_Mo_relief 54 rfl) rfl ?_
            refine fg_icmp_gt (tgt := 98) (fg_ft (pc := 92) tb_Mo_relief 55 rfl) (by decide) (fun c92 => ?_) (fun c92 => ?_)
            · refine fg_iload (fg_ft (pc := 98) tb_Mo_relief 57 rfl) rfl ?_
              refine fg_istore (fg_ft (pc := 100) tb_Mo_relief 58 rfl) (Nat.le_of_ble_eq_true rfl) ?_
              refine fg_iload (fg_ft (pc := 102) tb_Mo_relief 59 rfl) rfl ?_
              refine fg_iconst (fg_ft (pc := 104) tb_Mo_relief 60 rfl) ic_3 ?_
              refine fg_idivN (fg_ft (pc := 105) tb_Mo_relief 61 rfl) (by omega) (by decide) (by decide) ?_
              refine fg_istore (fg_ft (pc := 106) tb_Mo_relief 62 rfl) (Nat.le_of_ble_eq_true rfl) ?_
              refine fg_iload (fg_ft (pc := 108) tb_Mo_relief 63 rfl) rfl ?_
              refine fg_iconst (fg_ft (pc := 110) tb_Mo_relief 64 rfl) ic_3 ?_
              refine fg_iremN (fg_ft (pc := 111) tb_Mo_relief 65 rfl) (by omega) (by decide) (by decide) ?_
              refine fg_istore (fg_ft (pc := 112) tb_Mo_relief 66 rfl) (Nat.le_of_ble_eq_true rfl) ?_
              refine fg_iincN (fg_ft (pc := 114) tb_Mo_relief 67 rfl) rfl ic_1 rfl ?_
              refine fg_goto (tgt := 33) (fg_ft (pc := 117) tb_Mo_relief 68 rfl) (by decide) ?_
              exact ih (k + 1) (some (k / 3, k % 3)) _ _ (by omega) (by omega) (by unfold fg_rl; rw [hx]; rw [if_pos ⟨c59, c92⟩])
            · refine fg_goto (tgt := 114) (fg_ft (pc := 95) tb_Mo_relief 56 rfl) (by decide) ?_
              refine fg_iincN (fg_ft (pc := 114) tb_Mo_relief 67 rfl) rfl ic_1 rfl ?_
              refine fg_goto (tgt := 33) (fg_ft (pc := 117) tb_Mo_relief 68 rfl) (by decide) ?_
              exact ih (k + 1) o _ _ (by omega) (by omega) (by unfold fg_rl; rw [hx]; rw [if_neg (fun hh => by first | exact c59 hh.1 | exact c92 hh.2)])
          · refine fg_goto (tgt := 114) (fg_ft (pc := 62) tb_Mo_relief 38 rfl) (by decide) ?_
            refine fg_iincN (fg_ft (pc := 114) tb_Mo_relief 67 rfl) rfl ic_1 rfl ?_
            refine fg_goto (tgt := 33) (fg_ft (pc := 117) tb_Mo_relief 68 rfl) (by decide) ?_
            exact ih (k + 1) o _ _ (by omega) (by omega) (by unfold fg_rl; rw [hx]; rw [if_neg (fun hh => by first | exact c59 hh.1 | exact c92 hh.2)])
    exact loop (3 * A.ts town 0 + 1) 0 none _ _ (by omega) (by omega) rfl
theorem ev_Mo_relief1 {E : fg_E} {d : Nat} {μ : Nat → Nat → Int32} {R : fg_T4} {Q : Option Value → fg_M → Prop} {A : fg_Tl} (hL : fg_ML (μ 288) A) (hw : fg_wA A) (h17 : μ 287 17 = -1) (h19 : μ 287 19 = nI 0) {town day n person : Nat} (htown : town < 2 ^ 32) (hday : day < 2 ^ 32) (hn : n < 2 ^ 32) (hperson : person < 2 ^ 32) (hQ : ∀ μ' : Nat → Nat → Int32, fg_agR μ μ' → Q (some (.int (an_relief A town day n person 1))) (μ', fg_rho R, 304)) : fg_Ev E yy_Mo_relief (d + 12) [.ref 287, .int (nI town), .int (nI day), .int (nI n), .int (nI person), .int (nI 1)] (μ, fg_rho R, 304) 304 Q := by
  have ht2 := hw.2.1
  have hd3 := hw.2.2.1
  refine fg_intro (by decide +kernel) (Nat.le_of_ble_eq_true rfl) (fg_okAs rfl) (Nat.le_refl _) ?_
  refine fg_aloadn (fg_ft (pc := 0) tb_Mo_relief 0 rfl) rfl ?_
  refine fg_iloadn (fg_ft (pc := 1) tb_Mo_relief 1 rfl) rfl ?_
  refine fg_iloadn (fg_ft (pc := 2) tb_Mo_relief 2 rfl) rfl ?_
  refine fg_iloadn (fg_ft (pc := 3) tb_Mo_relief 3 rfl) rfl ?_
  refine fg_iload (fg_ft (pc := 4) tb_Mo_relief 4 rfl) rfl ?_
  refine fg_callV (fg_ft (pc := 6) tb_Mo_relief 5 rfl) cf_Mo_258 (fg_isOf ly_287 rfl (fg_lt ly_287 (by decide))) (as := [.int (nI town), .int (nI day), .int (nI n), .int (nI person)]) (st := []) rfl rfl (Nat.le_of_ble_eq_true rfl) (Nat.le_refl _) (Nat.le_refl _) (ev_Mo_isOne hL hw h17 h19 htown hday hn hperson (fun n4 μ1 ha1 => ?_) (fun S lv y4 y5 μ1 n1 y1 ha1 hC1 hS1 => ?_))
  · refine fg_if_ne (tgt := 14) (fg_ft (pc := 9) tb_Mo_relief 6 rfl) (by decide) (fun h => absurd h (by decide)) (fun _ => ?_)
    refine fg_iconst (fg_ft (pc := 12) tb_Mo_relief 7 rfl) ic_m1 ?_
    exact fg_iret (fg_ft (pc := 13) tb_Mo_relief 8 rfl) rfl rfl (fg_q (hQ _ (fg_agR_A ha1)) (by unfold an_relief; rw [fg_g1_none n4]))
  · have ytc := fg_fnd_t y4
    have hok := hw.2.2.2.1 town ytc
    have hM1 := (hL.2.2.1 town ytc).ag ha1.m
    have hz : fg_zok (A.ts town) S.1 (S.2.1.1, 0, 0, 0) S.2.2 := fg_zok.news (fg_fnd_okW hw y4)
    have hv0 := hM1.1
    have hb0 := hok.1
    have hb1 := hok.2.1
    have hp := hok.p
    have hz9 := hz.1
    have hm2 := hz.2.1 person y5
    have hm0 : S.2.1.1 person < 2 ^ A.ts town 0 := hm2.1
    have hmc : fg_clsd (A.ts town) (S.2.1.1 person) := hm2.2
    have hm10 : S.2.1.1 person < 1024 := by omega
    refine fg_if_ne (tgt := 14) (fg_ft (pc := 9) tb_Mo_relief 6 rfl) (by decide) (fun _ => ?_) (fun h => absurd h (by decide))
    refine fg_iconst (fg_ft (pc := 14) tb_Mo_relief 9 rfl) ic_0 ?_
    refine fg_iloadn (fg_ft (pc := 15) tb_Mo_relief 10 rfl) rfl ?_
    refine fg_callS (fg_ft (pc := 16) tb_Mo_relief 11 rfl) cf_Mo_166 (as := [.int (nI 0), .int (nI town)]) (st := []) rfl rfl (Nat.le_of_ble_eq_true rfl) (Nat.le_refl _) (Nat.le_refl _) (ev_Mo_placeOf0 (k := town) ?_)
    refine fg_istore (fg_ft (pc := 19) tb_Mo_relief 12 rfl) (Nat.le_of_ble_eq_true rfl) ?_
    refine fg_iconst (fg_ft (pc := 21) tb_Mo_relief 13 rfl) ic_m1 ?_
    refine fg_istore (fg_ft (pc := 22) tb_Mo_relief 14 rfl) (Nat.le_of_ble_eq_true rfl) ?_
    refine fg_iconst (fg_ft (pc := 24) tb_Mo_relief 15 rfl) ic_m1 ?_
    refine fg_istore (fg_ft (pc := 25) tb_Mo_relief 16 rfl) (Nat.le_of_ble_eq_true rfl) ?_
    refine fg_iconst (fg_ft (pc := 27) tb_Mo_relief 17 rfl) ic_0 ?_
    refine fg_istore (fg_ft (pc := 28) tb_Mo_relief 18 rfl) (Nat.le_of_ble_eq_true rfl) ?_
    refine fg_iconst (fg_ft (pc := 30) tb_Mo_relief 19 rfl) ic_0 ?_
    refine fg_istore (fg_ft (pc := 31) tb_Mo_relief 20 rfl) (Nat.le_of_ble_eq_true rfl) ?_
    have loop : ∀ (m k : Nat) (o : Option (Nat × Nat)) (x : Int32) (v11 : Value), 3 * A.ts town 0 - k < m → k ≤ 3 * A.ts town 0 → fg_rl (A.ts town) (S.2.1.1 person) k = (x, o) → fg_wp E yy_Mo_relief (d + 12) 304 304 Q 33 [.ref 287, .int (nI town), .int (nI day), .int (nI n), .int (nI person), .int (nI 1), .int (nI (610 + 152 * town)), .int (fg_rlA 0 o), .int (fg_rlA 1 o), .int x, .int (nI k), v11] [] (μ1, fg_rho R, 304) := by
      intro m
      induction m with
      | zero => intro k o x v11 h; exact absurd h (Nat.not_lt_zero _)
      | succ m ih =>
        intro k o x v11 hm hk hx
        refine fg_iload (fg_ft (pc := 33) tb_Mo_relief 21 rfl) rfl ?_
        refine fg_iconst (fg_ft (pc := 35) tb_Mo_relief 22 rfl) ic_3 ?_
        refine fg_aloadn (fg_ft (pc := 36) tb_Mo_relief 23 rfl) rfl ?_
        refine fg_getR (fg_ft (pc := 37) tb_Mo_relief 24 rfl) ff_Mo_7 ly_287 rfl (fg_lt ly_287 (by decide)) (rh_287_0 R) ?_
        refine fg_iload (fg_ft (pc := 40) tb_Mo_relief 25 rfl) rfl ?_
        refine fg_iconst (fg_ft (pc := 42) tb_Mo_relief 26 rfl) ic_0 ?_
        refine fg_iaddN (fg_ft (pc := 43) tb_Mo_relief 27 rfl) ?_
        refine fg_ialdV (v := (nI ((A.ts town) 0))) (fg_ft (pc := 44) tb_Mo_relief 28 rfl) ly_288 (fg_lt ly_288 (by decide)) (by omega) (fg_MTat hM1 (i := (610 + 152 * town) + 0) (k := 0) (by omega) (by omega)) ?_
        refine fg_imulN (fg_ft (pc := 45) tb_Mo_relief 29 rfl) ?_
        refine fg_icmp_geN (tgt := 120) (fg_ft (pc := 46) tb_Mo_relief 30 rfl) (by decide) (by omega) (by omega) (fun c46 => ?_) (fun c46 => ?_)
        · refine fg_iload (fg_ft (pc := 120) tb_Mo_relief 69 rfl) rfl ?_
          refine fg_if_eq (tgt := 130) (fg_ft (pc := 122) tb_Mo_relief 70 rfl) (by decide) (fun h => absurd h (by decide)) (fun _ => ?_)
          refine fg_iload (fg_ft (pc := 125) tb_Mo_relief 71 rfl) rfl ?_
          refine fg_goto (tgt := 132) (fg_ft (pc := 127) tb_Mo_relief 72 rfl) (by decide) ?_
          exact fg_iret (fg_ft (pc := 132) tb_Mo_relief 74 rfl) rfl rfl (fg_q (hQ _ (fg_agR_A ha1)) (by unfold an_relief; rw [fg_g1_some y4 y5] <;> (rw [show 3 * A.ts town 0 = k by omega, hx])))
        · refine fg_aloadn (fg_ft (pc := 49) tb_Mo_relief 31 rfl) rfl ?_
          refine fg_iload (fg_ft (pc := 50) tb_Mo_relief 32 rfl) rfl ?_
          refine fg_iload (fg_ft (pc := 52) tb_Mo_relief 33 rfl) rfl ?_
          refine fg_iconst (fg_ft (pc := 54) tb_Mo_relief 34 rfl) ic_3 ?_
          refine fg_idivN (fg_ft (pc := 55) tb_Mo_relief 35 rfl) (by omega) (by decide) (by decide) ?_
          refine fg_callV (fg_ft (pc := 56) tb_Mo_relief 36 rfl) cf_Mo_212 (fg_isOf ly_287 rfl (fg_lt ly_287 (by decide))) (as := [.int (nI person), .int (nI (k / 3))]) (st := []) rfl rfl (Nat.le_of_ble_eq_true rfl) (Nat.le_refl _) (Nat.le_refl _) (ev_Mo_knows (Mv := S.2.1.1) (T := (A.ts town)) (hS1.2.1) (p := person) (f := (k / 3)) (by omega) (by omega) (fg_km hok hz (by omega)) ?_)
          refine fg_ifB_ne (tgt := 65) (fg_ft (pc := 59) tb_Mo_relief 37 rfl) (by decide) (fun c59 => ?_) (fun c59 => ?_)
          · refine fg_aloadn (fg_ft (pc := 65) tb_Mo_relief 39 rfl) rfl ?_
            refine fg_iload (fg_ft (pc := 66) tb_Mo_relief 40 rfl) rfl ?_
            refine fg_aloadn (fg_ft (pc := 68) tb_Mo_relief 41 rfl) rfl ?_
            refine fg_getR (fg_ft (pc := 69) tb_Mo_relief 42 rfl) ff_Mo_23 ly_287 rfl (fg_lt ly_287 (by decide)) (rh_287_12 R) ?_
            refine fg_iload (fg_ft (pc := 72) tb_Mo_relief 43 rfl) rfl ?_
            refine fg_ialdV (v := (nI (S.2.1.1 person))) (fg_ft (pc := 74) tb_Mo_relief 44 rfl) ly_292 (fg_lt ly_292 (by decide)) (by omega) (hS1.2.1 _ (by omega)) ?_
            refine fg_iload (fg_ft (pc := 75) tb_Mo_relief 45 rfl) rfl ?_
            refine fg_iconst (fg_ft (pc := 77) tb_Mo_relief 46 rfl) ic_3 ?_
            refine fg_idivN (fg_ft (pc := 78) tb_Mo_relief 47 rfl) (by omega) (by decide) (by decide) ?_
            refine fg_iload (fg_ft (pc := 79) tb_Mo_relief 48 rfl) rfl ?_
            refine fg_iconst (fg_ft (pc := 81) tb_Mo_relief 49 rfl) ic_3 ?_
            refine fg_iremN (fg_ft (pc := 82) tb_Mo_relief 50 rfl) (by omega) (by decide) (by decide) ?_
            refine fg_callV (fg_ft (pc := 83) tb_Mo_relief 51 rfl) cf_Mo_321 (fg_isOf ly_287 rfl (fg_lt ly_287 (by decide))) (as := [.int (nI (610 + 152 * town)), .int (nI (S.2.1.1 person)), .int (nI (k / 3)), .int (nI (k % 3))]) (st := []) rfl rfl (Nat.le_of_ble_eq_true rfl) (Nat.le_refl _) (Nat.le_refl _) (ev_Mo_gainOf hM1 hok hC1 (m := (S.2.1.1 person)) (f := (k / 3)) (kd := (k % 3)) (hm0) (c59) (by omega) ?_)
            refine fg_istore (fg_ft (pc := 86) tb_Mo_relief 52 rfl) (Nat.le_of_ble_eq_true rfl) ?_
            refine fg_iload (fg_ft (pc := 88) tb_Mo_relief 53 rfl) rfl ?_
            refine fg_iload (fg_ft (pc := 90) tb_Mo_relief 54 rfl) rfl ?_
            refine fg_icmp_gt (tgt := 98) (fg_ft (pc := 92) tb_Mo_relief 55 rfl) (by decide) (fun c92 => ?_) (fun c92 => ?_)
            · refine fg_iload (fg_ft (pc := 98) tb_Mo_relief 57 rfl) rfl ?_
              refine fg_istore (fg_ft (pc := 100) tb_Mo_relief 58 rfl) (Nat.le_of_ble_eq_true rfl) ?_
              refine fg_iload (fg_ft (pc := 102) tb_Mo_relief 59 rfl) rfl ?_
              refine fg_iconst (fg_ft (pc := 104) tb_Mo_relief 60 rfl) ic_3 ?_
              refine fg_idivN (fg_ft (pc := 105) tb_Mo_relief 61 rfl) (by omega) (by decide) (by decide) ?_
              refine fg_istore (fg_ft (pc := 106) tb_Mo_relief 62 rfl) (Nat.le_of_ble_eq_true rfl) ?_
              refine fg_iload (fg_ft (pc := 108) tb_Mo_relief 63 rfl) rfl ?_
              refine fg_iconst (fg_ft (pc := 110) tb_Mo_relief 64 rfl) ic_3 ?_
              refine fg_iremN (fg_ft (pc := 111) tb_Mo_relief 65 rfl) (by omega) (by decide) (by decide) ?_
              refine fg_istore (fg_ft (pc := 112) tb_Mo_relief 66 rfl) (Nat.le_of_ble_eq_true rfl) ?_
              refine fg_iincN (fg_ft (pc := 114) tb_Mo_relief 67 rfl) rfl ic_1 rfl ?_
              refine fg_goto (tgt := 33) (fg_ft (pc := 117) tb_Mo_relief 68 rfl) (by decide) ?_
              exact ih (k + 1) (some (k / 3, k % 3)) _ _ (by omega) (by omega) (by unfold fg_rl; rw [hx]; rw [if_pos ⟨c59, c92⟩])
            · refine fg_goto (tgt := 114) (fg_ft (pc := 95) tb_Mo_relief 56 rfl) (by decide) ?_
              refine fg_iincN (fg_ft (pc := 114) tb_Mo_relief 67 rfl) rfl ic_1 rfl ?_
              refine fg_goto (tgt := 33) (fg_ft (pc := 117) tb_Mo_relief 68 rfl) (by decide) ?_
              exact ih (k + 1) o _ _ (by omega) (by omega) (by unfold fg_rl; rw [hx]; rw [if_neg (fun hh => by first | exact c59 hh.1 | exact c92 hh.2)])
          · refine fg_goto (tgt := 114) (fg_ft (pc := 62) tb_Mo_relief 38 rfl) (by decide) ?_
            refine fg_iincN (fg_ft (pc := 114) tb_Mo_relief 67 rfl) rfl ic_1 rfl ?_
            refine fg_goto (tgt := 33) (fg_ft (pc := 117) tb_Mo_relief 68 rfl) (by decide) ?_
            exact ih (k + 1) o _ _ (by omega) (by omega) (by unfold fg_rl; rw [hx]; rw [if_neg (fun hh => by first | exact c59 hh.1 | exact c92 hh.2)])
    exact loop (3 * A.ts town 0 + 1) 0 none _ _ (by omega) (by omega) rfl
