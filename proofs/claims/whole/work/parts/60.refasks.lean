theorem fg_fnd_okW {A : fg_Tl} (hw : fg_wA A) {town day n : Nat} {S : fg_H3} {lv : Nat → Nat} (h : fg_fnd A town day n = some (S, lv)) : fg_zok (A.ts town) S.1 S.2.1 S.2.2 := by
  have g := fg_fnd_t h
  have hok := hw.2.2.2.1 town g
  unfold fg_fnd at h
  rw [if_pos g] at h
  by_cases h1 : day < A.dc
  · rw [if_pos h1] at h
    by_cases h2 : n ≤ A.nd day
    · rw [if_pos h2] at h; exact fg_runs_ok hok n S lv h
    · rw [if_neg h2] at h; cases h
  · rw [if_neg h1] at h
    by_cases h2 : day = 4294967295 ∧ n = 0
    · rw [if_pos h2] at h; cases h; exact fg_zok0 hok
    · rw [if_neg h2] at h; cases h
theorem fg_fnd_some {A : fg_Tl} {town day n : Nat} {S : fg_H3} {lv : Nat → Nat} (h1 : town < A.tc) (h2 : day < A.dc) (h3 : n ≤ A.nd day) (h4 : fg_runs (A.ts town) (A.ds day) n = some (S, lv)) : fg_fnd A town day n = some (S, lv) := by
  unfold fg_fnd; rw [if_pos h1, if_pos h2, if_pos h3]; exact h4
theorem fg_fnd_no {A : fg_Tl} {town day n : Nat} (h2 : day < A.dc) (h : fg_stp (A.ts town) (A.ds day) (min n (A.nd day)) ≠ n) : fg_fnd A town day n = none := by
  unfold fg_fnd
  by_cases h1 : town < A.tc
  · rw [if_pos h1, if_pos h2]
    by_cases h3 : n ≤ A.nd day
    · rw [if_pos h3]
      cases hr : fg_runs (A.ts town) (A.ds day) n with
      | none => rfl
      | some q => rw [show min n (A.nd day) = n by omega] at h; exact absurd (fg_stp_some hr) h
    · rw [if_neg h3]
  · rw [if_neg h1]
theorem ev_Mo_isState {E : fg_E} {d : Nat} {μ : Nat → Nat → Int32} {R : fg_T4} {Q : Option Value → fg_M → Prop} {A : fg_Tl} (hL : fg_ML (μ 288) A) (hw : fg_wA A) (h17 : μ 287 17 = -1) (h19 : μ 287 19 = nI 0) {town day n : Nat} (htown : town < 2 ^ 32) (hday : day < 2 ^ 32) (hn : n < 2 ^ 32) (hN : fg_fnd A town day n = none → ∀ μ' : Nat → Nat → Int32, fg_agA μ μ' → Q (some (.int (nI 0))) (μ', fg_rho R, 304)) (hY : ∀ (S : fg_H3) (lv : Nat → Nat), fg_fnd A town day n = some (S, lv) → ∀ (μ' : Nat → Nat → Int32) (n0 y : Int32), fg_agA μ μ' → fg_MC μ' (A.ts town) → fg_MS μ' (A.ts town) (S.1, (S.2.1.1, 0, 0, 0), S.2.2) lv ((none : Option Nat), 0, 0) n0 y → Q (some (.int (nI 1))) (μ', fg_rho R, 304)) : fg_Ev E yy_Mo_isState (d + 7) [.ref 287, .int (nI town), .int (nI day), .int (nI n)] (μ, fg_rho R, 304) 304 Q := by
  have ht2 := hw.2.1
  have hd3 := hw.2.2.1
  refine fg_intro (by decide +kernel) (Nat.le_of_ble_eq_true rfl) (fg_okAs rfl) (Nat.le_refl _) ?_
  refine fg_aloadn (fg_ft (pc := 0) tb_Mo_isState 0 rfl) rfl ?_
  refine fg_iconst (fg_ft (pc := 1) tb_Mo_isState 1 rfl) ic_0 ?_
  refine fg_iloadn (fg_ft (pc := 2) tb_Mo_isState 2 rfl) rfl ?_
  refine fg_callV (fg_ft (pc := 3) tb_Mo_isState 3 rfl) cf_Mo_156 (fg_isOf ly_287 rfl (fg_lt ly_287 (by decide))) (as := [.int (nI 0), .int (nI town)]) (st := []) rfl rfl (Nat.le_of_ble_eq_true rfl) (Nat.le_refl _) (Nat.le_refl _) (ev_Mo_isOf0 hL hw (k := town) (htown) ?_)
  refine fg_ifB_eq (tgt := 27) (fg_ft (pc := 6) tb_Mo_isState 4 rfl) (by decide) (fun c6 => ?_) (fun c6 => ?_)
  · refine fg_iconst (fg_ft (pc := 27) tb_Mo_isState 15 rfl) ic_0 ?_
    exact fg_zret (fg_ft (pc := 28) tb_Mo_isState 16 rfl) rfl (by decide) rfl (by
  first
    | (exfalso; omega)
    | exact (hN (by unfold fg_fnd; first | rw [if_neg c6] | (rw [if_pos c6, if_neg c24, if_neg (by omega)]; done) | (rw [if_pos c6]; first | (split; (split; (exfalso; have := hw.2.2.2.2 day (by assumption); omega); rfl); (rw [if_neg (by omega)])) | (split; rw [if_neg (by have := (hw.2.2.2.2 day (by assumption)).1; omega)]; rw [if_neg (by omega)]))) μ (fg_agA_rf μ)))
  · refine fg_iloadn (fg_ft (pc := 9) tb_Mo_isState 5 rfl) rfl ?_
    refine fg_if_ltW (tgt := 27) (fg_ft (pc := 10) tb_Mo_isState 6 rfl) (by decide) (hn) (fun c10 => ?_) (fun c10 => ?_)
    · refine fg_iconst (fg_ft (pc := 27) tb_Mo_isState 15 rfl) ic_0 ?_
      exact fg_zret (fg_ft (pc := 28) tb_Mo_isState 16 rfl) rfl (by decide) rfl (by
  first
    | (exfalso; omega)
    | exact (hN (by unfold fg_fnd; first | rw [if_neg c6] | (rw [if_pos c6, if_neg c24, if_neg (by omega)]; done) | (rw [if_pos c6]; first | (split; (split; (exfalso; have := hw.2.2.2.2 day (by assumption); omega); rfl); (rw [if_neg (by omega)])) | (split; rw [if_neg (by have := (hw.2.2.2.2 day (by assumption)).1; omega)]; rw [if_neg (by omega)]))) μ (fg_agA_rf μ)))
    · refine fg_iloadn (fg_ft (pc := 13) tb_Mo_isState 7 rfl) rfl ?_
      refine fg_iconst (fg_ft (pc := 14) tb_Mo_isState 8 rfl) ic_m1 ?_
      refine fg_icmp_eqM (tgt := 29) (fg_ft (pc := 15) tb_Mo_isState 9 rfl) (by decide) (hday) (fun c15 => ?_) (fun c15 => ?_)
      · refine fg_iconst (fg_ft (pc := 29) tb_Mo_isState 17 rfl) ic_0 ?_
        refine fg_iloadn (fg_ft (pc := 30) tb_Mo_isState 18 rfl) rfl ?_
        refine fg_callS (fg_ft (pc := 31) tb_Mo_isState 19 rfl) cf_Mo_166 (as := [.int (nI 0), .int (nI town)]) (st := []) rfl rfl (Nat.le_of_ble_eq_true rfl) (Nat.le_refl _) (Nat.le_refl _) (ev_Mo_placeOf0 (k := town) ?_)
        refine fg_istore (fg_ft (pc := 34) tb_Mo_isState 20 rfl) (Nat.le_of_ble_eq_true rfl) ?_
        refine fg_iloadn (fg_ft (pc := 36) tb_Mo_isState 21 rfl) rfl ?_
        refine fg_iconst (fg_ft (pc := 37) tb_Mo_isState 22 rfl) ic_m1 ?_
        refine fg_icmp_eqM (tgt := 59) (fg_ft (pc := 38) tb_Mo_isState 23 rfl) (by decide) (hday) (fun c38 => ?_) (fun c38 => ?_)
        · refine fg_aloadn (fg_ft (pc := 59) tb_Mo_isState 35 rfl) rfl ?_
          refine fg_iload (fg_ft (pc := 60) tb_Mo_isState 36 rfl) rfl ?_
          refine fg_callV (fg_ft (pc := 62) tb_Mo_isState 37 rfl) cf_Mo_240 (fg_isOf ly_287 rfl (fg_lt ly_287 (by decide))) (as := [.int (nI (610 + 152 * town))]) (st := []) rfl rfl (Nat.le_of_ble_eq_true rfl) (Nat.le_refl _) (Nat.le_refl _) (ev_Mo_anew (v := (610 + 152 * town)) (T := (A.ts town)) (hL.2.2.1 town c6) (hw.2.2.2.1 town c6) h17 h19 ?_)
          intro μ1 n1 y1 ha1 hC1 hS1
          show fg_wp _ _ _ _ _ _ _ _ _ (μ1, fg_rho R, 304)
          refine fg_iloadn (fg_ft (pc := 65) tb_Mo_isState 38 rfl) rfl ?_
          refine fg_if_neW (tgt := 73) (fg_ft (pc := 66) tb_Mo_isState 39 rfl) (by decide) (hn) (fun c66 => ?_) (fun c66 => ?_)
          · refine fg_iconst (fg_ft (pc := 73) tb_Mo_isState 42 rfl) ic_0 ?_
            exact fg_zret (fg_ft (pc := 74) tb_Mo_isState 43 rfl) rfl (by decide) rfl (by
  first
    | (exfalso; omega)
    | exact (hN (by unfold fg_fnd; rw [if_pos c6, if_neg (by omega), if_neg (by omega)]) μ1 ha1))
          · refine fg_iconst (fg_ft (pc := 69) tb_Mo_isState 40 rfl) ic_1 ?_
            refine fg_goto (tgt := 74) (fg_ft (pc := 70) tb_Mo_isState 41 rfl) (by decide) ?_
            exact fg_zret (fg_ft (pc := 74) tb_Mo_isState 43 rfl) rfl (by decide) rfl (by
  first
    | (exfalso; omega)
    | exact (hY (fg_S0 (A.ts town)) (fun _ => 0) (by unfold fg_fnd; rw [if_pos c6, if_neg (by omega), if_pos ⟨by omega, by omega⟩]) μ1 _ _ ha1 hC1 hS1.base))
        · refine fg_aloadn (fg_ft (pc := 41) tb_Mo_isState 24 rfl) rfl ?_
          refine fg_iload (fg_ft (pc := 42) tb_Mo_isState 25 rfl) rfl ?_
          refine fg_iloadn (fg_ft (pc := 44) tb_Mo_isState 26 rfl) rfl ?_
          refine fg_iloadn (fg_ft (pc := 45) tb_Mo_isState 27 rfl) rfl ?_
          refine fg_callV (fg_ft (pc := 46) tb_Mo_isState 28 rfl) cf_Mo_246 (fg_isOf ly_287 rfl (fg_lt ly_287 (by decide))) (as := [.int (nI (610 + 152 * town)), .int (nI day), .int (nI n)]) (st := []) rfl rfl (Nat.le_of_ble_eq_true rfl) (Nat.le_refl _) (Nat.le_refl _) (ev_Mo_runs (v := (610 + 152 * town)) (T := (A.ts town)) (hL.2.2.1 town c6) (hw.2.2.2.1 town c6) h17 h19 hL hw (day := day) (most := n) (by omega) (by omega) ?_)
          intro μ1 S lv n1 y1 ha1 hC1 hrun hS1
          have hdd : day < A.dc := by omega
          have hsl := fg_stp_le (A.ts town) (A.ds day) (min n (A.nd day))
          show fg_wp _ _ _ _ _ _ _ _ _ (μ1, fg_rho R, 304)
          refine fg_iloadn (fg_ft (pc := 49) tb_Mo_isState 29 rfl) rfl ?_
          refine fg_icmp_neW (tgt := 57) (fg_ft (pc := 50) tb_Mo_isState 30 rfl) (by decide) (Nat.lt_trans (show _ < 2 ^ 31 from by omega) (by decide)) (hn) (fun c50 => ?_) (fun c50 => ?_)
          · refine fg_iconst (fg_ft (pc := 57) tb_Mo_isState 33 rfl) ic_0 ?_
            exact fg_zret (fg_ft (pc := 58) tb_Mo_isState 34 rfl) rfl (by decide) rfl (by
  first
    | (exfalso; omega)
    | exact (hN (fg_fnd_no hdd c50) μ1 ha1))
          · refine fg_iconst (fg_ft (pc := 53) tb_Mo_isState 31 rfl) ic_1 ?_
            refine fg_goto (tgt := 58) (fg_ft (pc := 54) tb_Mo_isState 32 rfl) (by decide) ?_
            exact fg_zret (fg_ft (pc := 58) tb_Mo_isState 34 rfl) rfl (by decide) rfl (by
  first
    | (exfalso; omega)
    | exact (hY S lv (fg_fnd_some c6 hdd (by omega) (by rw [← c50]; exact (by rw [c50] at hrun ⊢; exact hrun))) μ1 _ _ ha1 hC1 hS1.base))
      · refine fg_aloadn (fg_ft (pc := 18) tb_Mo_isState 10 rfl) rfl ?_
        refine fg_iconst (fg_ft (pc := 19) tb_Mo_isState 11 rfl) ic_1 ?_
        refine fg_iloadn (fg_ft (pc := 20) tb_Mo_isState 12 rfl) rfl ?_
        refine fg_callV (fg_ft (pc := 21) tb_Mo_isState 13 rfl) cf_Mo_156 (fg_isOf ly_287 rfl (fg_lt ly_287 (by decide))) (as := [.int (nI 1), .int (nI day)]) (st := []) rfl rfl (Nat.le_of_ble_eq_true rfl) (Nat.le_refl _) (Nat.le_refl _) (ev_Mo_isOf1 hL hw (k := day) (hday) ?_)
        refine fg_ifB_ne (tgt := 29) (fg_ft (pc := 24) tb_Mo_isState 14 rfl) (by decide) (fun c24 => ?_) (fun c24 => ?_)
        · refine fg_iconst (fg_ft (pc := 29) tb_Mo_isState 17 rfl) ic_0 ?_
          refine fg_iloadn (fg_ft (pc := 30) tb_Mo_isState 18 rfl) rfl ?_
          refine fg_callS (fg_ft (pc := 31) tb_Mo_isState 19 rfl) cf_Mo_166 (as := [.int (nI 0), .int (nI town)]) (st := []) rfl rfl (Nat.le_of_ble_eq_true rfl) (Nat.le_refl _) (Nat.le_refl _) (ev_Mo_placeOf0 (k := town) ?_)
          refine fg_istore (fg_ft (pc := 34) tb_Mo_isState 20 rfl) (Nat.le_of_ble_eq_true rfl) ?_
          refine fg_iloadn (fg_ft (pc := 36) tb_Mo_isState 21 rfl) rfl ?_
          refine fg_iconst (fg_ft (pc := 37) tb_Mo_isState 22 rfl) ic_m1 ?_
          refine fg_icmp_eqM (tgt := 59) (fg_ft (pc := 38) tb_Mo_isState 23 rfl) (by decide) (hday) (fun c38 => ?_) (fun c38 => ?_)
          · refine fg_aloadn (fg_ft (pc := 59) tb_Mo_isState 35 rfl) rfl ?_
            refine fg_iload (fg_ft (pc := 60) tb_Mo_isState 36 rfl) rfl ?_
            refine fg_callV (fg_ft (pc := 62) tb_Mo_isState 37 rfl) cf_Mo_240 (fg_isOf ly_287 rfl (fg_lt ly_287 (by decide))) (as := [.int (nI (610 + 152 * town))]) (st := []) rfl rfl (Nat.le_of_ble_eq_true rfl) (Nat.le_refl _) (Nat.le_refl _) (ev_Mo_anew (v := (610 + 152 * town)) (T := (A.ts town)) (hL.2.2.1 town c6) (hw.2.2.2.1 town c6) h17 h19 ?_)
            intro μ1 n1 y1 ha1 hC1 hS1
            show fg_wp _ _ _ _ _ _ _ _ _ (μ1, fg_rho R, 304)
            refine fg_iloadn (fg_ft (pc := 65) tb_Mo_isState 38 rfl) rfl ?_
            refine fg_if_neW (tgt := 73) (fg_ft (pc := 66) tb_Mo_isState 39 rfl) (by decide) (hn) (fun c66 => ?_) (fun c66 => ?_)
            · refine fg_iconst (fg_ft (pc := 73) tb_Mo_isState 42 rfl) ic_0 ?_
              exact fg_zret (fg_ft (pc := 74) tb_Mo_isState 43 rfl) rfl (by decide) rfl (by
  first
    | (exfalso; omega)
    | exact (hN (by unfold fg_fnd; rw [if_pos c6, if_neg (by omega), if_neg (by omega)]) μ1 ha1))
            · refine fg_iconst (fg_ft (pc := 69) tb_Mo_isState 40 rfl) ic_1 ?_
              refine fg_goto (tgt := 74) (fg_ft (pc := 70) tb_Mo_isState 41 rfl) (by decide) ?_
              exact fg_zret (fg_ft (pc := 74) tb_Mo_isState 43 rfl) rfl (by decide) rfl (by
  first
    | (exfalso; omega)
    | exact (hY (fg_S0 (A.ts town)) (fun _ => 0) (by unfold fg_fnd; rw [if_pos c6, if_neg (by omega), if_pos ⟨by omega, by omega⟩]) μ1 _ _ ha1 hC1 hS1.base))
          · refine fg_aloadn (fg_ft (pc := 41) tb_Mo_isState 24 rfl) rfl ?_
            refine fg_iload (fg_ft (pc := 42) tb_Mo_isState 25 rfl) rfl ?_
            refine fg_iloadn (fg_ft (pc := 44) tb_Mo_isState 26 rfl) rfl ?_
            refine fg_iloadn (fg_ft (pc := 45) tb_Mo_isState 27 rfl) rfl ?_
            refine fg_callV (fg_ft (pc := 46) tb_Mo_isState 28 rfl) cf_Mo_246 (fg_isOf ly_287 rfl (fg_lt ly_287 (by decide))) (as := [.int (nI (610 + 152 * town)), .int (nI day), .int (nI n)]) (st := []) rfl rfl (Nat.le_of_ble_eq_true rfl) (Nat.le_refl _) (Nat.le_refl _) (ev_Mo_runs (v := (610 + 152 * town)) (T := (A.ts town)) (hL.2.2.1 town c6) (hw.2.2.2.1 town c6) h17 h19 hL hw (day := day) (most := n) (by omega) (by omega) ?_)
            intro μ1 S lv n1 y1 ha1 hC1 hrun hS1
            have hdd : day < A.dc := by omega
            have hsl := fg_stp_le (A.ts town) (A.ds day) (min n (A.nd day))
            show fg_wp _ _ _ _ _ _ _ _ _ (μ1, fg_rho R, 304)
            refine fg_iloadn (fg_ft (pc := 49) tb_Mo_isState 29 rfl) rfl ?_
            refine fg_icmp_neW (tgt := 57) (fg_ft (pc := 50) tb_Mo_isState 30 rfl) (by decide) (Nat.lt_trans (show _ < 2 ^ 31 from by omega) (by decide)) (hn) (fun c50 => ?_) (fun c50 => ?_)
            · refine fg_iconst (fg_ft (pc := 57) tb_Mo_isState 33 rfl) ic_0 ?_
              exact fg_zret (fg_ft (pc := 58) tb_Mo_isState 34 rfl) rfl (by decide) rfl (by
  first
    | (exfalso; omega)
    | exact (hN (fg_fnd_no hdd c50) μ1 ha1))
            · refine fg_iconst (fg_ft (pc := 53) tb_Mo_isState 31 rfl) ic_1 ?_
              refine fg_goto (tgt := 58) (fg_ft (pc := 54) tb_Mo_isState 32 rfl) (by decide) ?_
              exact fg_zret (fg_ft (pc := 58) tb_Mo_isState 34 rfl) rfl (by decide) rfl (by
  first
    | (exfalso; omega)
    | exact (hY S lv (fg_fnd_some c6 hdd (by omega) (by rw [← c50]; exact (by rw [c50] at hrun ⊢; exact hrun))) μ1 _ _ ha1 hC1 hS1.base))
        · refine fg_iconst (fg_ft (pc := 27) tb_Mo_isState 15 rfl) ic_0 ?_
          exact fg_zret (fg_ft (pc := 28) tb_Mo_isState 16 rfl) rfl (by decide) rfl (by
  first
    | (exfalso; omega)
    | exact (hN (by unfold fg_fnd; first | rw [if_neg c6] | (rw [if_pos c6, if_neg c24, if_neg (by omega)]; done) | (rw [if_pos c6]; first | (split; (split; (exfalso; have := hw.2.2.2.2 day (by assumption); omega); rfl); (rw [if_neg (by omega)])) | (split; rw [if_neg (by have := (hw.2.2.2.2 day (by assumption)).1; omega)]; rw [if_neg (by omega)]))) μ (fg_agA_rf μ)))
theorem ev_Mo_isOne {E : fg_E} {d : Nat} {μ : Nat → Nat → Int32} {R : fg_T4} {Q : Option Value → fg_M → Prop} {A : fg_Tl} (hL : fg_ML (μ 288) A) (hw : fg_wA A) (h17 : μ 287 17 = -1) (h19 : μ 287 19 = nI 0) {town day n person : Nat} (htown : town < 2 ^ 32) (hday : day < 2 ^ 32) (hn : n < 2 ^ 32) (hperson : person < 2 ^ 32) (hN : fg_fn1 A town day n person = none → ∀ μ' : Nat → Nat → Int32, fg_agA μ μ' → Q (some (.int (nI 0))) (μ', fg_rho R, 304)) (hY : ∀ (S : fg_H3) (lv : Nat → Nat), fg_fnd A town day n = some (S, lv) → person < A.ts town 2 → ∀ (μ' : Nat → Nat → Int32) (n0 y : Int32), fg_agA μ μ' → fg_MC μ' (A.ts town) → fg_MS μ' (A.ts town) (S.1, (S.2.1.1, 0, 0, 0), S.2.2) lv ((none : Option Nat), 0, 0) n0 y → Q (some (.int (nI 1))) (μ', fg_rho R, 304)) : fg_Ev E yy_Mo_isOne (d + 8) [.ref 287, .int (nI town), .int (nI day), .int (nI n), .int (nI person)] (μ, fg_rho R, 304) 304 Q := by
  have ht2 := hw.2.1
  have hd3 := hw.2.2.1
  refine fg_intro (by decide +kernel) (Nat.le_of_ble_eq_true rfl) (fg_okAs rfl) (Nat.le_refl _) ?_
  refine fg_aloadn (fg_ft (pc := 0) tb_Mo_isOne 0 rfl) rfl ?_
  refine fg_iloadn (fg_ft (pc := 1) tb_Mo_isOne 1 rfl) rfl ?_
  refine fg_iloadn (fg_ft (pc := 2) tb_Mo_isOne 2 rfl) rfl ?_
  refine fg_iloadn (fg_ft (pc := 3) tb_Mo_isOne 3 rfl) rfl ?_
  refine fg_callV (fg_ft (pc := 4) tb_Mo_isOne 4 rfl) cf_Mo_249 (fg_isOf ly_287 rfl (fg_lt ly_287 (by decide))) (as := [.int (nI town), .int (nI day), .int (nI n)]) (st := []) rfl rfl (Nat.le_of_ble_eq_true rfl) (Nat.le_refl _) (Nat.le_refl _) (ev_Mo_isState hL hw h17 h19 htown hday hn (fun n4 μ1 ha1 => ?_) (fun S lv y4 μ1 n1 y1 ha1 hC1 hS1 => ?_))
  · refine fg_if_eq (tgt := 28) (fg_ft (pc := 7) tb_Mo_isOne 5 rfl) (by decide) (fun _ => ?_) (fun h => absurd h (by decide))
    refine fg_iconst (fg_ft (pc := 28) tb_Mo_isOne 15 rfl) ic_0 ?_
    exact fg_zret (fg_ft (pc := 29) tb_Mo_isOne 16 rfl) rfl (by decide) rfl (hN (by unfold fg_fn1; rw [n4]; split <;> rfl) μ1 ha1)
  · have ytc := fg_fnd_t y4
    have hok := hw.2.2.2.1 town ytc
    have hM1 := (hL.2.2.1 town ytc).ag ha1.m
    have hz : fg_zok (A.ts town) S.1 (S.2.1.1, 0, 0, 0) S.2.2 := fg_zok.news (fg_fnd_okW hw y4)
    have hv0 := hM1.1
    have hb0 := hok.1
    have hb1 := hok.2.1
    have hp := hok.p
    have hz9 := hz.1
    refine fg_if_eq (tgt := 28) (fg_ft (pc := 7) tb_Mo_isOne 5 rfl) (by decide) (fun h => absurd h (by decide)) (fun _ => ?_)
    refine fg_aloadn (fg_ft (pc := 10) tb_Mo_isOne 6 rfl) rfl ?_
    refine fg_iconst (fg_ft (pc := 11) tb_Mo_isOne 7 rfl) ic_0 ?_
    refine fg_iloadn (fg_ft (pc := 12) tb_Mo_isOne 8 rfl) rfl ?_
    refine fg_callS (fg_ft (pc := 13) tb_Mo_isOne 9 rfl) cf_Mo_166 (as := [.int (nI 0), .int (nI town)]) (st := [.ref 287]) rfl rfl (Nat.le_of_ble_eq_true rfl) (Nat.le_refl _) (Nat.le_refl _) (ev_Mo_placeOf0 (k := town) ?_)
    refine fg_iload (fg_ft (pc := 16) tb_Mo_isOne 10 rfl) rfl ?_
    refine fg_callV (fg_ft (pc := 18) tb_Mo_isOne 11 rfl) cf_Mo_230 (fg_isOf ly_287 rfl (fg_lt ly_287 (by decide))) (as := [.int (nI (610 + 152 * town)), .int (nI person)]) (st := []) rfl rfl (Nat.le_of_ble_eq_true rfl) (Nat.le_refl _) (Nat.le_refl _) (ev_Mo_isPerson hM1 hok (k := person) (hperson) ?_)
    refine fg_ifB_eq (tgt := 28) (fg_ft (pc := 21) tb_Mo_isOne 12 rfl) (by decide) (fun c21 => ?_) (fun c21 => ?_)
    · refine fg_iconst (fg_ft (pc := 28) tb_Mo_isOne 15 rfl) ic_0 ?_
      exact fg_zret (fg_ft (pc := 29) tb_Mo_isOne 16 rfl) rfl (by decide) rfl (hN (by unfold fg_fn1; rw [if_neg c21]) μ1 ha1)
    · refine fg_iconst (fg_ft (pc := 24) tb_Mo_isOne 13 rfl) ic_1 ?_
      refine fg_goto (tgt := 29) (fg_ft (pc := 25) tb_Mo_isOne 14 rfl) (by decide) ?_
      exact fg_zret (fg_ft (pc := 29) tb_Mo_isOne 16 rfl) rfl (by decide) rfl (hY S lv y4 c21 μ1 n1 y1 ha1 hC1 hS1)
theorem ev_Mo_hasFact {E : fg_E} {d : Nat} {μ : Nat → Nat → Int32} {R : fg_T4} {Q : Option Value → fg_M → Prop} {A : fg_Tl} (hL : fg_ML (μ 288) A) (hw : fg_wA A) (h17 : μ 287 17 = -1) (h19 : μ 287 19 = nI 0) {town day n person fact : Nat} (htown : town < 2 ^ 32) (hday : day < 2 ^ 32) (hn : n < 2 ^ 32) (hperson : person < 2 ^ 32) (hfact : fact < 2 ^ 32) (hN : (fg_fn1 A town day n person = none ∨ (∃ S lv, fg_fnd A town day n = some (S, lv) ∧ person < A.ts town 2 ∧ ¬ (S.2.1.1 person).testBit fact = true)) → ∀ μ' : Nat → Nat → Int32, fg_agA μ μ' → Q (some (.int (nI 0))) (μ', fg_rho R, 304)) (hY : ∀ (S : fg_H3) (lv : Nat → Nat), fg_fnd A town day n = some (S, lv) → person < A.ts town 2 → (S.2.1.1 person).testBit fact = true → ∀ (μ' : Nat → Nat → Int32) (n0 y : Int32), fg_agA μ μ' → fg_MC μ' (A.ts town) → fg_MS μ' (A.ts town) (S.1, (S.2.1.1, 0, 0, 0), S.2.2) lv ((none : Option Nat), 0, 0) n0 y → Q (some (.int (nI 1))) (μ', fg_rho R, 304)) : fg_Ev E yy_Mo_hasFact (d + 9) [.ref 287, .int (nI town), .int (nI day), .int (nI n), .int (nI person), .int (nI fact)] (μ, fg_rho R, 304) 304 Q := by
  have ht2 := hw.2.1
  have hd3 := hw.2.2.1
  refine fg_intro (by decide +kernel) (Nat.le_of_ble_eq_true rfl) (fg_okAs rfl) (Nat.le_refl _) ?_
  refine fg_aloadn (fg_ft (pc := 0) tb_Mo_hasFact 0 rfl) rfl ?_
  refine fg_iloadn (fg_ft (pc := 1) tb_Mo_hasFact 1 rfl) rfl ?_
  refine fg_iloadn (fg_ft (pc := 2) tb_Mo_hasFact 2 rfl) rfl ?_
  refine fg_iloadn (fg_ft (pc := 3) tb_Mo_hasFact 3 rfl) rfl ?_
  refine fg_iload (fg_ft (pc := 4) tb_Mo_hasFact 4 rfl) rfl ?_
  refine fg_callV (fg_ft (pc := 6) tb_Mo_hasFact 5 rfl) cf_Mo_258 (fg_isOf ly_287 rfl (fg_lt ly_287 (by decide))) (as := [.int (nI town), .int (nI day), .int (nI n), .int (nI person)]) (st := []) rfl rfl (Nat.le_of_ble_eq_true rfl) (Nat.le_refl _) (Nat.le_refl _) (ev_Mo_isOne hL hw h17 h19 htown hday hn hperson (fun n4 μ1 ha1 => ?_) (fun S lv y4 y5 μ1 n1 y1 ha1 hC1 hS1 => ?_))
  · refine fg_if_eq (tgt := 41) (fg_ft (pc := 9) tb_Mo_hasFact 6 rfl) (by decide) (fun _ => ?_) (fun h => absurd h (by decide))
    refine fg_iconst (fg_ft (pc := 41) tb_Mo_hasFact 21 rfl) ic_0 ?_
    exact fg_zret (fg_ft (pc := 42) tb_Mo_hasFact 22 rfl) rfl (by decide) rfl (hN (Or.inl n4) μ1 ha1)
  · have ytc := fg_fnd_t y4
    have hok := hw.2.2.2.1 town ytc
    have hM1 := (hL.2.2.1 town ytc).ag ha1.m
    have hz : fg_zok (A.ts town) S.1 (S.2.1.1, 0, 0, 0) S.2.2 := fg_zok.news (fg_fnd_okW hw y4)
    have hv0 := hM1.1
    have hb0 := hok.1
    have hb1 := hok.2.1
    have hp := hok.p
    have hz9 := hz.1
    have hm2 := hz.2.1 person y5
    have hm0 : S.2.1.1 person < 2 ^ A.ts town 0 := hm2.1
    have hmc : fg_clsd (A.ts town) (S.2.1.1 person) := hm2.2
    have hm10 : S.2.1.1 person < 1024 := by omega
    refine fg_if_eq (tgt := 41) (fg_ft (pc := 9) tb_Mo_hasFact 6 rfl) (by decide) (fun h => absurd h (by decide)) (fun _ => ?_)
    refine fg_aloadn (fg_ft (pc := 12) tb_Mo_hasFact 7 rfl) rfl ?_
    refine fg_iconst (fg_ft (pc := 13) tb_Mo_hasFact 8 rfl) ic_0 ?_
    refine fg_iloadn (fg_ft (pc := 14) tb_Mo_hasFact 9 rfl) rfl ?_
    refine fg_callS (fg_ft (pc := 15) tb_Mo_hasFact 10 rfl) cf_Mo_166 (as := [.int (nI 0), .int (nI town)]) (st := [.ref 287]) rfl rfl (Nat.le_of_ble_eq_true rfl) (Nat.le_refl _) (Nat.le_refl _) (ev_Mo_placeOf0 (k := town) ?_)
    refine fg_iload (fg_ft (pc := 18) tb_Mo_hasFact 11 rfl) rfl ?_
    refine fg_callV (fg_ft (pc := 20) tb_Mo_hasFact 12 rfl) cf_Mo_233 (fg_isOf ly_287 rfl (fg_lt ly_287 (by decide))) (as := [.int (nI (610 + 152 * town)), .int (nI fact)]) (st := []) rfl rfl (Nat.le_of_ble_eq_true rfl) (Nat.le_refl _) (Nat.le_refl _) (ev_Mo_isFact hM1 hok (k := fact) (hfact) ?_)
    refine fg_ifB_eq (tgt := 41) (fg_ft (pc := 23) tb_Mo_hasFact 13 rfl) (by decide) (fun c23 => ?_) (fun c23 => ?_)
    · refine fg_iconst (fg_ft (pc := 41) tb_Mo_hasFact 21 rfl) ic_0 ?_
      exact fg_zret (fg_ft (pc := 42) tb_Mo_hasFact 22 rfl) rfl (by decide) rfl (hN (Or.inr ⟨S, lv, y4, y5, by first | exact c34 | exact fun hh => c23 (fg_bit_lt hm0 hh)⟩) μ1 ha1)
    · refine fg_aloadn (fg_ft (pc := 26) tb_Mo_hasFact 14 rfl) rfl ?_
      refine fg_iload (fg_ft (pc := 27) tb_Mo_hasFact 15 rfl) rfl ?_
      refine fg_iload (fg_ft (pc := 29) tb_Mo_hasFact 16 rfl) rfl ?_
      refine fg_callV (fg_ft (pc := 31) tb_Mo_hasFact 17 rfl) cf_Mo_212 (fg_isOf ly_287 rfl (fg_lt ly_287 (by decide))) (as := [.int (nI person), .int (nI fact)]) (st := []) rfl rfl (Nat.le_of_ble_eq_true rfl) (Nat.le_refl _) (Nat.le_refl _) (ev_Mo_knows (Mv := S.2.1.1) (T := (A.ts town)) (hS1.2.1) (p := person) (f := fact) (by omega) (by omega) (fg_km hok hz (by omega)) ?_)
      refine fg_ifB_eq (tgt := 41) (fg_ft (pc := 34) tb_Mo_hasFact 18 rfl) (by decide) (fun c34 => ?_) (fun c34 => ?_)
      · refine fg_iconst (fg_ft (pc := 41) tb_Mo_hasFact 21 rfl) ic_0 ?_
        exact fg_zret (fg_ft (pc := 42) tb_Mo_hasFact 22 rfl) rfl (by decide) rfl (hN (Or.inr ⟨S, lv, y4, y5, by first | exact c34 | exact fun hh => c23 (fg_bit_lt hm0 hh)⟩) μ1 ha1)
      · refine fg_iconst (fg_ft (pc := 37) tb_Mo_hasFact 19 rfl) ic_1 ?_
        refine fg_goto (tgt := 42) (fg_ft (pc := 38) tb_Mo_hasFact 20 rfl) (by decide) ?_
        exact fg_zret (fg_ft (pc := 42) tb_Mo_hasFact 22 rfl) rfl (by decide) rfl (hY S lv y4 y5 c34 μ1 n1 y1 ha1 hC1 hS1)
theorem ev_Mo_lacks {E : fg_E} {d : Nat} {μ : Nat → Nat → Int32} {R : fg_T4} {Q : Option Value → fg_M → Prop} {A : fg_Tl} (hL : fg_ML (μ 288) A) (hw : fg_wA A) (h17 : μ 287 17 = -1) (h19 : μ 287 19 = nI 0) {town day n person fact : Nat} (htown : town < 2 ^ 32) (hday : day < 2 ^ 32) (hn : n < 2 ^ 32) (hperson : person < 2 ^ 32) (hfact : fact < 2 ^ 32) (hN : (fg_fn1 A town day n person = none ∨ (∃ S lv, fg_fnd A town day n = some (S, lv) ∧ person < A.ts town 2 ∧ (¬ fact < A.ts town 0 ∨ (S.2.1.1 person).testBit fact = true))) → ∀ μ' : Nat → Nat → Int32, fg_agA μ μ' → Q (some (.int (nI 0))) (μ', fg_rho R, 304)) (hY : ∀ (S : fg_H3) (lv : Nat → Nat), fg_fnd A town day n = some (S, lv) → person < A.ts town 2 → fact < A.ts town 0 → ¬ (S.2.1.1 person).testBit fact = true → ∀ (μ' : Nat → Nat → Int32) (n0 y : Int32), fg_agA μ μ' → fg_MC μ' (A.ts town) → fg_MS μ' (A.ts town) (S.1, (S.2.1.1, 0, 0, 0), S.2.2) lv ((none : Option Nat), 0, 0) n0 y → Q (some (.int (nI 1))) (μ', fg_rho R, 304)) : fg_Ev E yy_Mo_lacks (d + 9) [.ref 287, .int (nI town), .int (nI day), .int (nI n), .int (nI person), .int (nI fact)] (μ, fg_rho R, 304) 304 Q := by
  have ht2 := hw.2.1
  have hd3 := hw.2.2.1
  refine fg_intro (by decide +kernel) (Nat.le_of_ble_eq_true rfl) (fg_okAs rfl) (Nat.le_refl _) ?_
  refine fg_aloadn (fg_ft (pc := 0) tb_Mo_lacks 0 rfl) rfl ?_
  refine fg_iloadn (fg_ft (pc := 1) tb_Mo_lacks 1 rfl) rfl ?_
  refine fg_iloadn (fg_ft (pc := 2) tb_Mo_lacks 2 rfl) rfl ?_
  refine fg_iloadn (fg_ft (pc := 3) tb_Mo_lacks 3 rfl) rfl ?_
  refine fg_iload (fg_ft (pc := 4) tb_Mo_lacks 4 rfl) rfl ?_
  refine fg_callV (fg_ft (pc := 6) tb_Mo_lacks 5 rfl) cf_Mo_258 (fg_isOf ly_287 rfl (fg_lt ly_287 (by decide))) (as := [.int (nI town), .int (nI day), .int (nI n), .int (nI person)]) (st := []) rfl rfl (Nat.le_of_ble_eq_true rfl) (Nat.le_refl _) (Nat.le_refl _) (ev_Mo_isOne hL hw h17 h19 htown hday hn hperson (fun n4 μ1 ha1 => ?_) (fun S lv y4 y5 μ1 n1 y1 ha1 hC1 hS1 => ?_))
  · refine fg_if_eq (tgt := 41) (fg_ft (pc := 9) tb_Mo_lacks 6 rfl) (by decide) (fun _ => ?_) (fun h => absurd h (by decide))
    refine fg_iconst (fg_ft (pc := 41) tb_Mo_lacks 21 rfl) ic_0 ?_
    exact fg_zret (fg_ft (pc := 42) tb_Mo_lacks 22 rfl) rfl (by decide) rfl (hN (Or.inl n4) μ1 ha1)
  · have ytc := fg_fnd_t y4
    have hok := hw.2.2.2.1 town ytc
    have hM1 := (hL.2.2.1 town ytc).ag ha1.m
    have hz : fg_zok (A.ts town) S.1 (S.2.1.1, 0, 0, 0) S.2.2 := fg_zok.news (fg_fnd_okW hw y4)
    have hv0 := hM1.1
    have hb0 := hok.1
    have hb1 := hok.2.1
    have hp := hok.p
    have hz9 := hz.1
    have hm2 := hz.2.1 person y5
    have hm0 : S.2.1.1 person < 2 ^ A.ts town 0 := hm2.1
    have hmc : fg_clsd (A.ts town) (S.2.1.1 person) := hm2.2
    have hm10 : S.2.1.1 person < 1024 := by omega
    refine fg_if_eq (tgt := 41) (fg_ft (pc := 9) tb_Mo_lacks 6 rfl) (by decide) (fun h => absurd h (by decide)) (fun _ => ?_)
    refine fg_aloadn (fg_ft (pc := 12) tb_Mo_lacks 7 rfl) rfl ?_
    refine fg_iconst (fg_ft (pc := 13) tb_Mo_lacks 8 rfl) ic_0 ?_
    refine fg_iloadn (fg_ft (pc := 14) tb_Mo_lacks 9 rfl) rfl ?_
    refine fg_callS (fg_ft (pc := 15) tb_Mo_lacks 10 rfl) cf_Mo_166 (as := [.int (nI 0), .int (nI town)]) (st := [.ref 287]) rfl rfl (Nat.le_of_ble_eq_true rfl) (Nat.le_refl _) (Nat.le_refl _) (ev_Mo_placeOf0 (k := town) ?_)
    refine fg_iload (fg_ft (pc := 18) tb_Mo_lacks 11 rfl) rfl ?_
    refine fg_callV (fg_ft (pc := 20) tb_Mo_lacks 12 rfl) cf_Mo_233 (fg_isOf ly_287 rfl (fg_lt ly_287 (by decide))) (as := [.int (nI (610 + 152 * town)), .int (nI fact)]) (st := []) rfl rfl (Nat.le_of_ble_eq_true rfl) (Nat.le_refl _) (Nat.le_refl _) (ev_Mo_isFact hM1 hok (k := fact) (hfact) ?_)
    refine fg_ifB_eq (tgt := 41) (fg_ft (pc := 23) tb_Mo_lacks 13 rfl) (by decide) (fun c23 => ?_) (fun c23 => ?_)
    · refine fg_iconst (fg_ft (pc := 41) tb_Mo_lacks 21 rfl) ic_0 ?_
      exact fg_zret (fg_ft (pc := 42) tb_Mo_lacks 22 rfl) rfl (by decide) rfl (hN (Or.inr ⟨S, lv, y4, y5, by first | exact Or.inr c34 | exact Or.inl c23⟩) μ1 ha1)
    · refine fg_aloadn (fg_ft (pc := 26) tb_Mo_lacks 14 rfl) rfl ?_
      refine fg_iload (fg_ft (pc := 27) tb_Mo_lacks 15 rfl) rfl ?_
      refine fg_iload (fg_ft (pc := 29) tb_Mo_lacks 16 rfl) rfl ?_
      refine fg_callV (fg_ft (pc := 31) tb_Mo_lacks 17 rfl) cf_Mo_212 (fg_isOf ly_287 rfl (fg_lt ly_287 (by decide))) (as := [.int (nI person), .int (nI fact)]) (st := []) rfl rfl (Nat.le_of_ble_eq_true rfl) (Nat.le_refl _) (Nat.le_refl _) (ev_Mo_knows (Mv := S.2.1.1) (T := (A.ts town)) (hS1.2.1) (p := person) (f := fact) (by omega) (by omega) (fg_km hok hz (by omega)) ?_)
      refine fg_ifB_ne (tgt := 41) (fg_ft (pc := 34) tb_Mo_lacks 18 rfl) (by decide) (fun c34 => ?_) (fun c34 => ?_)
      · refine fg_iconst (fg_ft (pc := 41) tb_Mo_lacks 21 rfl) ic_0 ?_
        exact fg_zret (fg_ft (pc := 42) tb_Mo_lacks 22 rfl) rfl (by decide) rfl (hN (Or.inr ⟨S, lv, y4, y5, by first | exact Or.inr c34 | exact Or.inl c23⟩) μ1 ha1)
      · refine fg_iconst (fg_ft (pc := 37) tb_Mo_lacks 19 rfl) ic_1 ?_
        refine fg_goto (tgt := 42) (fg_ft (pc := 38) tb_Mo_lacks 20 rfl) (by decide) ?_
        exact fg_zret (fg_ft (pc := 42) tb_Mo_lacks 22 rfl) rfl (by decide) rfl (hY S lv y4 y5 c23 c34 μ1 n1 y1 ha1 hC1 hS1)
theorem ev_Mo_areFacts {E : fg_E} {d : Nat} {μ : Nat → Nat → Int32} {R : fg_T4} {Q : Option Value → fg_M → Prop} {v : Nat} {T : Nat → Nat} (hM : fg_MT (μ 288) v T) (hok : fg_ok T) {k : Nat} (hk : k < 2 ^ 32) (hQ : Q (some (.int (fg_bI (k < 2 ^ T 0)))) (μ, fg_rho R, 304))  : fg_Ev E yy_Mo_areFacts (d + 2) [.ref 287, .int (nI v), .int (nI k)] (μ, fg_rho R, 304) 304 Q := by
  have hv0 := hM.1
  have hb0 := hok.1
  have hb1 := hok.2.1
  have hp := hok.p
  have hq := Nat.two_pow_pos (T 0)
  refine fg_intro (by decide +kernel) (Nat.le_of_ble_eq_true rfl) (fg_okAs rfl) (Nat.le_refl _) ?_
  refine fg_iloadn (fg_ft (pc := 0) tb_Mo_areFacts 0 rfl) rfl ?_
  refine fg_if_ltW (tgt := 20) (fg_ft (pc := 1) tb_Mo_areFacts 1 rfl) (by decide) (hk) (fun c1 => ?_) (fun c1 => ?_)
  · refine fg_iconst (fg_ft (pc := 20) tb_Mo_areFacts 12 rfl) ic_0 ?_
    exact fg_zret (fg_ft (pc := 21) tb_Mo_areFacts 13 rfl) rfl (by decide) rfl (fg_q hQ (by first | exact fg_bT (fg_le_all.mp (fg_df0.mp c13)) | exact fg_bF (fun hh => c13 (fg_df0.mpr (fg_le_all.mpr hh))) | exact fg_bF (by omega)))
  · refine fg_iloadn (fg_ft (pc := 4) tb_Mo_areFacts 2 rfl) rfl ?_
    refine fg_aloadn (fg_ft (pc := 5) tb_Mo_areFacts 3 rfl) rfl ?_
    refine fg_iloadn (fg_ft (pc := 6) tb_Mo_areFacts 4 rfl) rfl ?_
    refine fg_callV (fg_ft (pc := 7) tb_Mo_areFacts 5 rfl) cf_Mo_169 (fg_isOf ly_287 rfl (fg_lt ly_287 (by decide))) (as := [.int (nI v)]) (st := [.int (nI k)]) rfl rfl (Nat.le_of_ble_eq_true rfl) (Nat.le_refl _) (Nat.le_refl _) (ev_Mo_wholeOf hM hok ?_)
    refine fg_iconst (fg_ft (pc := 10) tb_Mo_areFacts 6 rfl) ic_m1 ?_
    refine fg_ixor (fg_ft (pc := 11) tb_Mo_areFacts 7 rfl) ?_
    refine fg_iandD (fg_ft (pc := 12) tb_Mo_areFacts 8 rfl) ?_
    refine fg_if_neN (tgt := 20) (fg_ft (pc := 13) tb_Mo_areFacts 9 rfl) (by decide) (fg_df_le31 (by omega)) (fun c13 => ?_) (fun c13 => ?_)
    · refine fg_iconst (fg_ft (pc := 20) tb_Mo_areFacts 12 rfl) ic_0 ?_
      exact fg_zret (fg_ft (pc := 21) tb_Mo_areFacts 13 rfl) rfl (by decide) rfl (fg_q hQ (by first | exact fg_bT (fg_le_all.mp (fg_df0.mp c13)) | exact fg_bF (fun hh => c13 (fg_df0.mpr (fg_le_all.mpr hh))) | exact fg_bF (by omega)))
    · refine fg_iconst (fg_ft (pc := 16) tb_Mo_areFacts 10 rfl) ic_1 ?_
      refine fg_goto (tgt := 21) (fg_ft (pc := 17) tb_Mo_areFacts 11 rfl) (by decide) ?_
      exact fg_zret (fg_ft (pc := 21) tb_Mo_areFacts 13 rfl) rfl (by decide) rfl (fg_q hQ (by first | exact fg_bT (fg_le_all.mp (fg_df0.mp c13)) | exact fg_bF (fun hh => c13 (fg_df0.mpr (fg_le_all.mpr hh))) | exact fg_bF (by omega)))
