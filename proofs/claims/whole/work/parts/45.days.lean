theorem fg_stp_none {T : Nat → Nat} {D : Nat → Int32} {k : Nat} (h : fg_runs T D (k + 1) = none) : ∀ n, fg_stp T D (k + n) = fg_stp T D k := by
  intro n
  induction n with
  | zero => rfl
  | succ n ih =>
    show (match fg_runs T D (k + n + 1) with | some _ => k + n + 1 | none => fg_stp T D (k + n)) = _
    have e := fg_runs_none h n
    rw [show k + 1 + n = k + n + 1 by omega] at e
    rw [e]
    exact ih
theorem fg_stp_some {T : Nat → Nat} {D : Nat → Int32} {k : Nat} {q : fg_H3 × (Nat → Nat)} (h : fg_runs T D k = some q) : fg_stp T D k = k := by
  cases k with
  | zero => rfl
  | succ k =>
    unfold fg_stp
    rw [h]
theorem fg_wh_no {T : Nat → Nat} {D : Nat → Int32} {p k a : Nat} (h : fg_runs T D (a + 1) = none) : ∀ b, a ≤ b → ¬ fg_whP T D p k b := by
  rintro b hb ⟨S, lv, S', lv', h1, h2, h3, h4⟩
  have e := fg_runs_none h (b - a)
  rw [show a + 1 + (b - a) = b + 1 by omega, h2] at e
  cases e
theorem ev_Fb_stop {E : fg_E} {d : Nat} {μ : Nat → Nat → Int32} {R : fg_T4} {Q : Option Value → fg_M → Prop} {A : fg_Tl} (hA : fg_TL μ 101 A) {town day : Nat} (htown : town < 2 ^ 32) (hday : day < 2 ^ 32) (hQ : ∀ (μ' : Nat → Nat → Int32) (R' : fg_T4), fg_agQ μ μ' → Q (some (.int (an_stop A town day))) (μ', fg_rho R', 304)) : fg_Ev E yy_Fb_stop (d + 12) [.ref 100, .int (nI town), .int (nI day)] (μ, fg_rho R, 304) 304 Q := by
  have ht2 := hA.2.2.2.1.2
  have hd3 := hA.2.2.2.2.1.2
  have loop : town < A.tc → day < A.dc → ∀ (m k : Nat) (S : fg_H3) (lv : Nat → Nat) (ν : Nat → Nat → Int32), A.nd day - k < m → k ≤ A.nd day → fg_agF 273 μ ν → fg_runs (A.ts town) (A.ds day) k = some (S, lv) → fg_FS ν 273 (A.ts town) S lv (none, 0, 0) → fg_wp E yy_Fb_stop (d + 12) 304 304 Q 41 [.ref 100, .int (nI town), .int (nI day), .ref (104 + 14 * town), .ref (133 + 2 * day), .int (nI k)] [] (ν, fg_rho (some (104 + 14 * town), R.2.1, R.2.2.1, R.2.2.2), 304) := by
    intro y5 y15 m
    induction m with
    | zero => intro k S lv ν h; exact absurd h (Nat.not_lt_zero _)
    | succ m ih =>
      intro k S lv ν hm hk hag hrun hN0
      have hok := (hA.2.2.2.2.2.1 town y5).2
      have ht : fg_isT (104 + 14 * town) := fg_isT_told (by omega)
      have hTn := fg_TWp.agF (f := 273) ht (Or.inl rfl) (hA.2.2.2.2.2.1 town y5).1 hag
      have hzn := fg_runs_ok hok k S lv hrun
      have hdk := (hA.2.2.2.2.2.2.1 day y15).2
      have hD0 := (hA.2.2.2.2.2.2.1 day y15).1
      have hn30 := hD0.2.2.1
      have hDn := fg_DW.lo (fg_isD_told (by omega)) hD0 (fun a ha j => hag a (Or.inl (by omega)) j)
      have hb1 := hok.2.1
      have hp := hok.p
      have hb0 := hok.1
      refine fg_iload (fg_ft (pc := 41) tb_Fb_stop 22 rfl) rfl ?_
      refine fg_aload (fg_ft (pc := 43) tb_Fb_stop 23 rfl) rfl ?_
      refine fg_getV (v := (nI (A.nd day))) (fg_ft (pc := 45) tb_Fb_stop 24 rfl) ff_Fb_108 ((fD_w (R := R) (fg_isD_told (by omega))).1) rfl (fg_lt ((fD_w (R := R) (fg_isD_told (by omega))).1) (by decide)) hDn.2.1 ?_
      refine fg_icmp_geN (tgt := 71) (fg_ft (pc := 48) tb_Fb_stop 25 rfl) (by decide) (by omega) (by omega) (fun c48 => ?_) (fun c48 => ?_)
      · refine fg_iload (fg_ft (pc := 71) tb_Fb_stop 34 rfl) rfl ?_
        exact fg_iret (fg_ft (pc := 73) tb_Fb_stop 35 rfl) rfl rfl (fg_q (hQ _ (some (104 + 14 * town), R.2.1, R.2.2.1, R.2.2.2) (fg_agQ_F (Or.inl rfl) hag)) (by unfold an_stop; rw [if_pos y5, if_pos y15, show A.nd day = k by omega, fg_stp_some hrun]))
      · refine fg_aloadn (fg_ft (pc := 51) tb_Fb_stop 26 rfl) rfl ?_
        refine fg_getR (fg_ft (pc := 52) tb_Fb_stop 27 rfl) ff_Fb_34 ly_100 rfl (fg_lt ly_100 (by decide)) (rh_100_4 (some (104 + 14 * town), R.2.1, R.2.2.1, R.2.2.2)) ?_
        refine fg_aload (fg_ft (pc := 55) tb_Fb_stop 28 rfl) rfl ?_
        refine fg_iload (fg_ft (pc := 57) tb_Fb_stop 29 rfl) rfl ?_
        refine fg_callV (fg_ft (pc := 59) tb_Fb_stop 30 rfl) cf_Fb_174 (fg_isOf ly_273 rfl (fg_lt ly_273 (by decide))) (as := [.ref (133 + 2 * day), .int (nI k)]) (st := []) rfl rfl (Nat.le_of_ble_eq_true rfl) (Nat.le_refl _) (Nat.le_refl _) (ev_Folk_doAct (t := 104 + 14 * town) (T := A.ts town) ht hTn hok (f := 273) (Or.inl rfl) rfl hN0 hzn (fg_isD_told (by omega)) hDn (k := k) (by omega) (hdk.ac (by omega)) (by decide) (fun z0 μ2 ho2 hN2 => ?_) (fun S' lv' z1 μ2 ho2 hN2 => ?_))
        · have zz := (fg_runs_some hrun).trans z0
          refine fg_if_eq (tgt := 71) (fg_ft (pc := 62) tb_Fb_stop 31 rfl) (by decide) (fun _ => ?_) (fun h => absurd h (by decide))
          refine fg_iload (fg_ft (pc := 71) tb_Fb_stop 34 rfl) rfl ?_
          exact fg_iret (fg_ft (pc := 73) tb_Fb_stop 35 rfl) rfl rfl (fg_q (hQ _ (some (104 + 14 * town), R.2.1, R.2.2.1, R.2.2.2) (fg_agQ_F (Or.inl rfl) (fg_agF_tr hag ho2))) (by unfold an_stop; rw [if_pos y5, if_pos y15]; have e := fg_stp_none zz (A.nd day - k); rw [show k + (A.nd day - k) = A.nd day by omega, fg_stp_some hrun] at e; rw [e]))
        · have zz := (fg_runs_some hrun).trans z1
          refine fg_if_eq (tgt := 71) (fg_ft (pc := 62) tb_Fb_stop 31 rfl) (by decide) (fun h => absurd h (by decide)) (fun _ => ?_)
          refine fg_iincN (fg_ft (pc := 65) tb_Fb_stop 32 rfl) rfl ic_1 rfl ?_
          refine fg_goto (tgt := 41) (fg_ft (pc := 68) tb_Fb_stop 33 rfl) (by decide) ?_
          exact ih (k + 1) S' lv' μ2 (by omega) (by omega) (fg_agF_tr hag ho2) zz hN2
  refine fg_intro (by decide +kernel) (Nat.le_of_ble_eq_true rfl) (fg_okAs rfl) (Nat.le_refl _) ?_
  refine fg_aloadn (fg_ft (pc := 0) tb_Fb_stop 0 rfl) rfl ?_
  refine fg_getR (fg_ft (pc := 1) tb_Fb_stop 1 rfl) ff_Fb_12 ly_100 rfl (fg_lt ly_100 (by decide)) (rh_100_0 R) ?_
  refine fg_iloadn (fg_ft (pc := 4) tb_Fb_stop 2 rfl) rfl ?_
  refine fg_callV (fg_ft (pc := 5) tb_Fb_stop 3 rfl) cf_Fb_96 (fg_isOf ly_101 rfl (fg_lt ly_101 (by decide))) (as := [.int (nI town)]) (st := []) rfl rfl (Nat.le_of_ble_eq_true rfl) (Nat.le_refl _) (Nat.le_refl _) (ev_Told_townAt hA (i := town) htown (fun n5 => ?_) (fun y5 => ?_))
  · refine fg_astorenN (fg_ft (pc := 8) tb_Fb_stop 4 rfl) (Nat.le_of_ble_eq_true rfl) ?_
    refine fg_aloadn (fg_ft (pc := 9) tb_Fb_stop 5 rfl) rfl ?_
    refine fg_getR (fg_ft (pc := 10) tb_Fb_stop 6 rfl) ff_Fb_12 ly_100 rfl (fg_lt ly_100 (by decide)) (rh_100_0 R) ?_
    refine fg_iloadn (fg_ft (pc := 13) tb_Fb_stop 7 rfl) rfl ?_
    refine fg_callV (fg_ft (pc := 14) tb_Fb_stop 8 rfl) cf_Fb_138 (fg_isOf ly_101 rfl (fg_lt ly_101 (by decide))) (as := [.int (nI day)]) (st := []) rfl rfl (Nat.le_of_ble_eq_true rfl) (Nat.le_refl _) (Nat.le_refl _) (ev_Told_dayAt hA (i := day) hday (fun n15 => ?_) (fun y15 => ?_))
    · refine fg_astoreN (fg_ft (pc := 17) tb_Fb_stop 9 rfl) (Nat.le_of_ble_eq_true rfl) ?_
      refine fg_aloadnN (fg_ft (pc := 19) tb_Fb_stop 10 rfl) rfl ?_
      refine fg_ifnull (tgt := 28) (fg_ft (pc := 20) tb_Fb_stop 11 rfl) (by decide) ?_
      refine fg_iconst (fg_ft (pc := 28) tb_Fb_stop 14 rfl) ic_m1 ?_
      exact fg_iret (fg_ft (pc := 29) tb_Fb_stop 15 rfl) rfl rfl (fg_q (hQ _ R (fg_agQ_rf μ)) (by unfold an_stop; first | rw [if_neg n5] | rw [if_pos y5, if_neg n15]))
    · have hD0 := (hA.2.2.2.2.2.2.1 day y15).1
      have hn30 := hD0.2.2.1
      refine fg_astore (fg_ft (pc := 17) tb_Fb_stop 9 rfl) (Nat.le_of_ble_eq_true rfl) ?_
      refine fg_aloadnN (fg_ft (pc := 19) tb_Fb_stop 10 rfl) rfl ?_
      refine fg_ifnull (tgt := 28) (fg_ft (pc := 20) tb_Fb_stop 11 rfl) (by decide) ?_
      refine fg_iconst (fg_ft (pc := 28) tb_Fb_stop 14 rfl) ic_m1 ?_
      exact fg_iret (fg_ft (pc := 29) tb_Fb_stop 15 rfl) rfl rfl (fg_q (hQ _ R (fg_agQ_rf μ)) (by unfold an_stop; first | rw [if_neg n5] | rw [if_pos y5, if_neg n15]))
  · have hok := (hA.2.2.2.2.2.1 town y5).2
    have hT := (hA.2.2.2.2.2.1 town y5).1
    have ht : fg_isT (104 + 14 * town) := fg_isT_told (by omega)
    have hb0 := hok.1
    have hb1 := hok.2.1
    have hp := hok.p
    refine fg_astoren (fg_ft (pc := 8) tb_Fb_stop 4 rfl) (Nat.le_of_ble_eq_true rfl) ?_
    refine fg_aloadn (fg_ft (pc := 9) tb_Fb_stop 5 rfl) rfl ?_
    refine fg_getR (fg_ft (pc := 10) tb_Fb_stop 6 rfl) ff_Fb_12 ly_100 rfl (fg_lt ly_100 (by decide)) (rh_100_0 R) ?_
    refine fg_iloadn (fg_ft (pc := 13) tb_Fb_stop 7 rfl) rfl ?_
    refine fg_callV (fg_ft (pc := 14) tb_Fb_stop 8 rfl) cf_Fb_138 (fg_isOf ly_101 rfl (fg_lt ly_101 (by decide))) (as := [.int (nI day)]) (st := []) rfl rfl (Nat.le_of_ble_eq_true rfl) (Nat.le_refl _) (Nat.le_refl _) (ev_Told_dayAt hA (i := day) hday (fun n15 => ?_) (fun y15 => ?_))
    · refine fg_astoreN (fg_ft (pc := 17) tb_Fb_stop 9 rfl) (Nat.le_of_ble_eq_true rfl) ?_
      refine fg_aloadn (fg_ft (pc := 19) tb_Fb_stop 10 rfl) rfl ?_
      refine fg_ifnull_r (fg_ft (pc := 20) tb_Fb_stop 11 rfl) ?_
      refine fg_aloadN (fg_ft (pc := 23) tb_Fb_stop 12 rfl) rfl ?_
      refine fg_ifnonnull_n (fg_ft (pc := 25) tb_Fb_stop 13 rfl) ?_
      refine fg_iconst (fg_ft (pc := 28) tb_Fb_stop 14 rfl) ic_m1 ?_
      exact fg_iret (fg_ft (pc := 29) tb_Fb_stop 15 rfl) rfl rfl (fg_q (hQ _ R (fg_agQ_rf μ)) (by unfold an_stop; first | rw [if_neg n5] | rw [if_pos y5, if_neg n15]))
    · have hD0 := (hA.2.2.2.2.2.2.1 day y15).1
      have hn30 := hD0.2.2.1
      refine fg_astore (fg_ft (pc := 17) tb_Fb_stop 9 rfl) (Nat.le_of_ble_eq_true rfl) ?_
      refine fg_aloadn (fg_ft (pc := 19) tb_Fb_stop 10 rfl) rfl ?_
      refine fg_ifnull_r (fg_ft (pc := 20) tb_Fb_stop 11 rfl) ?_
      refine fg_aload (fg_ft (pc := 23) tb_Fb_stop 12 rfl) rfl ?_
      refine fg_ifnonnull (tgt := 30) (fg_ft (pc := 25) tb_Fb_stop 13 rfl) (by decide) ?_
      refine fg_aloadn (fg_ft (pc := 30) tb_Fb_stop 16 rfl) rfl ?_
      refine fg_getR (fg_ft (pc := 31) tb_Fb_stop 17 rfl) ff_Fb_34 ly_100 rfl (fg_lt ly_100 (by decide)) (rh_100_4 R) ?_
      refine fg_aloadn (fg_ft (pc := 34) tb_Fb_stop 18 rfl) rfl ?_
      refine fg_callV (fg_ft (pc := 35) tb_Fb_stop 19 rfl) cf_Fb_170 (fg_isOf ly_273 rfl (fg_lt ly_273 (by decide))) (as := [.ref (104 + 14 * town)]) (st := []) rfl rfl (Nat.le_of_ble_eq_true rfl) (Nat.le_refl _) (Nat.le_refl _) (ev_Folk_begin (t := 104 + 14 * town) (T := A.ts town) ht hT hok ?_)
      intro μ1 ho1 hF1
      show fg_wp _ _ _ _ _ _ _ _ _ (μ1, fg_rho (some (104 + 14 * town), R.2.1, R.2.2.1, R.2.2.2), 304)
      refine fg_iconst (fg_ft (pc := 38) tb_Fb_stop 20 rfl) ic_0 ?_
      refine fg_istore (fg_ft (pc := 39) tb_Fb_stop 21 rfl) (Nat.le_of_ble_eq_true rfl) ?_
      exact loop y5 y15 (A.nd day + 1) 0 (fg_S0 (A.ts town)) (fun _ => 0) μ1 (by omega) (by omega) ho1 rfl hF1
theorem ev_Fb_when {E : fg_E} {d : Nat} {μ : Nat → Nat → Int32} {R : fg_T4} {Q : Option Value → fg_M → Prop} {A : fg_Tl} (hA : fg_TL μ 101 A) {town day person fact : Nat} (htown : town < 2 ^ 32) (hday : day < 2 ^ 32) (hperson : person < 2 ^ 32) (hfact : fact < 2 ^ 32) (hQ : ∀ (μ' : Nat → Nat → Int32) (R' : fg_T4), fg_agQ μ μ' → Q (some (.int (an_when A town day person fact))) (μ', fg_rho R', 304)) : fg_Ev E yy_Fb_when (d + 12) [.ref 100, .int (nI town), .int (nI day), .int (nI person), .int (nI fact)] (μ, fg_rho R, 304) 304 Q := by
  have ht2 := hA.2.2.2.1.2
  have hd3 := hA.2.2.2.2.1.2
  have loop : town < A.tc → day < A.dc → person < A.ts town 2 → fact < A.ts town 0 → ∀ (m k : Nat) (S : fg_H3) (lv : Nat → Nat) (ν : Nat → Nat → Int32) (v8 : Value), A.nd day - k < m → k ≤ A.nd day → fg_agF 273 μ ν → fg_runs (A.ts town) (A.ds day) k = some (S, lv) → fg_FS ν 273 (A.ts town) S lv (none, 0, 0) → (∀ b, b < k → ¬ fg_whP (A.ts town) (A.ds day) person fact b) → fg_wp E yy_Fb_when (d + 12) 304 304 Q 63 [.ref 100, .int (nI town), .int (nI day), .int (nI person), .int (nI fact), .ref (104 + 14 * town), .ref (133 + 2 * day), .int (nI k), v8] [] (ν, fg_rho (some (104 + 14 * town), R.2.1, R.2.2.1, R.2.2.2), 304) := by
    intro y5 y15 hpT hkT m
    induction m with
    | zero => intro k S lv ν v8 h; exact absurd h (Nat.not_lt_zero _)
    | succ m ih =>
      intro k S lv ν v8 hm hk hag hrun hN0 hno
      have hok := (hA.2.2.2.2.2.1 town y5).2
      have ht : fg_isT (104 + 14 * town) := fg_isT_told (by omega)
      have hTn := fg_TWp.agF (f := 273) ht (Or.inl rfl) (hA.2.2.2.2.2.1 town y5).1 hag
      have hzn := fg_runs_ok hok k S lv hrun
      have hdk := (hA.2.2.2.2.2.2.1 day y15).2
      have hD0 := (hA.2.2.2.2.2.2.1 day y15).1
      have hn30 := hD0.2.2.1
      have hDn := fg_DW.lo (fg_isD_told (by omega)) hD0 (fun a ha j => hag a (Or.inl (by omega)) j)
      have hb1 := hok.2.1
      have hp := hok.p
      have hb0 := hok.1
      have hm0 : S.2.1.1 person < 2 ^ A.ts town 0 := (hzn.2.1 person hpT).1
      refine fg_iload (fg_ft (pc := 63) tb_Fb_when 30 rfl) rfl ?_
      refine fg_aload (fg_ft (pc := 65) tb_Fb_when 31 rfl) rfl ?_
      refine fg_getV (v := (nI (A.nd day))) (fg_ft (pc := 67) tb_Fb_when 32 rfl) ff_Fb_108 ((fD_w (R := R) (fg_isD_told (by omega))).1) rfl (fg_lt ((fD_w (R := R) (fg_isD_told (by omega))).1) (by decide)) hDn.2.1 ?_
      refine fg_icmp_geN (tgt := 134) (fg_ft (pc := 70) tb_Fb_when 33 rfl) (by decide) (by omega) (by omega) (fun c70 => ?_) (fun c70 => ?_)
      · refine fg_iconst (fg_ft (pc := 134) tb_Fb_when 62 rfl) ic_m1 ?_
        exact fg_iret (fg_ft (pc := 135) tb_Fb_when 63 rfl) rfl rfl (fg_q (hQ _ (some (104 + 14 * town), R.2.1, R.2.2.1, R.2.2.2) (fg_agQ_F (Or.inl rfl) hag)) (by unfold an_when; rw [if_pos y5, if_pos y15, if_pos hpT, if_pos hkT]; rw [fg_fst_none (A.nd day) (fun b hb => hno b (by omega))]; rfl))
      · refine fg_aloadn (fg_ft (pc := 73) tb_Fb_when 34 rfl) rfl ?_
        refine fg_getR (fg_ft (pc := 74) tb_Fb_when 35 rfl) ff_Fb_34 ly_100 rfl (fg_lt ly_100 (by decide)) (rh_100_4 (some (104 + 14 * town), R.2.1, R.2.2.1, R.2.2.2)) ?_
        refine fg_iloadn (fg_ft (pc := 77) tb_Fb_when 36 rfl) rfl ?_
        refine fg_callV (fg_ft (pc := 78) tb_Fb_when 37 rfl) cf_Fb_181 (fg_isOf ly_273 rfl (fg_lt ly_273 (by decide))) (as := [.int (nI person)]) (st := []) rfl rfl (Nat.le_of_ble_eq_true rfl) (Nat.le_refl _) (Nat.le_refl _) (ev_Folk_mind ht hTn hok (Or.inl rfl) rfl hN0 hzn (p := person) (by omega) ?_)
        refine fg_iload (fg_ft (pc := 81) tb_Fb_when 38 rfl) rfl ?_
        refine fg_callS (fg_ft (pc := 83) tb_Fb_when 39 rfl) cf_Fb_167 (as := [.int (nI (S.2.1.1 person)), .int (nI fact)]) (st := []) rfl rfl (Nat.le_of_ble_eq_true rfl) (Nat.le_refl _) (Nat.le_refl _) (ev_Fb_isIn (s := (S.2.1.1 person)) (k := fact) (by omega) (by omega) ?_)
        refine fg_istore (fg_ft (pc := 86) tb_Fb_when 40 rfl) (Nat.le_of_ble_eq_true rfl) ?_
        refine fg_aloadn (fg_ft (pc := 88) tb_Fb_when 41 rfl) rfl ?_
        refine fg_getR (fg_ft (pc := 89) tb_Fb_when 42 rfl) ff_Fb_34 ly_100 rfl (fg_lt ly_100 (by decide)) (rh_100_4 (some (104 + 14 * town), R.2.1, R.2.2.1, R.2.2.2)) ?_
        refine fg_aload (fg_ft (pc := 92) tb_Fb_when 43 rfl) rfl ?_
        refine fg_iload (fg_ft (pc := 94) tb_Fb_when 44 rfl) rfl ?_
        refine fg_callV (fg_ft (pc := 96) tb_Fb_when 45 rfl) cf_Fb_174 (fg_isOf ly_273 rfl (fg_lt ly_273 (by decide))) (as := [.ref (133 + 2 * day), .int (nI k)]) (st := []) rfl rfl (Nat.le_of_ble_eq_true rfl) (Nat.le_refl _) (Nat.le_refl _) (ev_Folk_doAct (t := 104 + 14 * town) (T := A.ts town) ht hTn hok (f := 273) (Or.inl rfl) rfl hN0 hzn (fg_isD_told (by omega)) hDn (k := k) (by omega) (hdk.ac (by omega)) (by decide) (fun z0 μ2 ho2 hN2 => ?_) (fun S' lv' z1 μ2 ho2 hN2 => ?_))
        · have zz := (fg_runs_some hrun).trans z0
          refine fg_if_ne (tgt := 104) (fg_ft (pc := 99) tb_Fb_when 46 rfl) (by decide) (fun h => absurd h (by decide)) (fun _ => ?_)
          refine fg_iconst (fg_ft (pc := 102) tb_Fb_when 47 rfl) ic_m1 ?_
          exact fg_iret (fg_ft (pc := 103) tb_Fb_when 48 rfl) rfl rfl (fg_q (hQ _ (some (104 + 14 * town), R.2.1, R.2.2.1, R.2.2.2) (fg_agQ_F (Or.inl rfl) (fg_agF_tr hag ho2))) (by unfold an_when; rw [if_pos y5, if_pos y15, if_pos hpT, if_pos hkT]; rw [fg_fst_none (A.nd day) (fun b hb => (Nat.lt_or_ge b k).elim (hno b) (fg_wh_no zz b))]; rfl))
        · have zz := (fg_runs_some hrun).trans z1
          have hT2 := fg_TWp.agF (f := 273) ht (Or.inl rfl) hTn ho2
          have hz2 := fg_runs_ok hok (k + 1) S' lv' zz
          have hm2 : S'.2.1.1 person < 2 ^ A.ts town 0 := (hz2.2.1 person hpT).1
          refine fg_if_ne (tgt := 104) (fg_ft (pc := 99) tb_Fb_when 46 rfl) (by decide) (fun _ => ?_) (fun h => absurd h (by decide))
          refine fg_iload (fg_ft (pc := 104) tb_Fb_when 49 rfl) rfl ?_
          refine fg_ifB_eq (tgt := 128) (fg_ft (pc := 106) tb_Fb_when 50 rfl) (by decide) (fun c106 => ?_) (fun c106 => ?_)
          · refine fg_iincN (fg_ft (pc := 128) tb_Fb_when 60 rfl) rfl ic_1 rfl ?_
            refine fg_goto (tgt := 63) (fg_ft (pc := 131) tb_Fb_when 61 rfl) (by decide) ?_
            exact ih (k + 1) S' lv' μ2 _ (by omega) (by omega) (fg_agF_tr hag ho2) zz hN2 (fun b hb => by
              rcases Nat.lt_or_ge b k with g | g
              · exact hno b g
              · obtain rfl : b = k := by omega
                rintro ⟨S1, lv1, S2, lv2, w1, w2, w3, w4⟩
                rw [hrun] at w1; cases w1
                rw [zz] at w2; cases w2
                first | exact c106 w3 | exact w4 c122)
          · refine fg_aloadn (fg_ft (pc := 109) tb_Fb_when 51 rfl) rfl ?_
            refine fg_getR (fg_ft (pc := 110) tb_Fb_when 52 rfl) ff_Fb_34 ly_100 rfl (fg_lt ly_100 (by decide)) (rh_100_4 (some (104 + 14 * town), R.2.1, R.2.2.1, R.2.2.2)) ?_
            refine fg_iloadn (fg_ft (pc := 113) tb_Fb_when 53 rfl) rfl ?_
            refine fg_callV (fg_ft (pc := 114) tb_Fb_when 54 rfl) cf_Fb_181 (fg_isOf ly_273 rfl (fg_lt ly_273 (by decide))) (as := [.int (nI person)]) (st := []) rfl rfl (Nat.le_of_ble_eq_true rfl) (Nat.le_refl _) (Nat.le_refl _) (ev_Folk_mind ht hT2 hok (Or.inl rfl) rfl hN2 hz2 (p := person) (by omega) ?_)
            refine fg_iload (fg_ft (pc := 117) tb_Fb_when 55 rfl) rfl ?_
            refine fg_callS (fg_ft (pc := 119) tb_Fb_when 56 rfl) cf_Fb_167 (as := [.int (nI (S'.2.1.1 person)), .int (nI fact)]) (st := []) rfl rfl (Nat.le_of_ble_eq_true rfl) (Nat.le_refl _) (Nat.le_refl _) (ev_Fb_isIn (s := (S'.2.1.1 person)) (k := fact) (by omega) (by omega) ?_)
            refine fg_ifB_ne (tgt := 128) (fg_ft (pc := 122) tb_Fb_when 57 rfl) (by decide) (fun c122 => ?_) (fun c122 => ?_)
            · refine fg_iincN (fg_ft (pc := 128) tb_Fb_when 60 rfl) rfl ic_1 rfl ?_
              refine fg_goto (tgt := 63) (fg_ft (pc := 131) tb_Fb_when 61 rfl) (by decide) ?_
              exact ih (k + 1) S' lv' μ2 _ (by omega) (by omega) (fg_agF_tr hag ho2) zz hN2 (fun b hb => by
                rcases Nat.lt_or_ge b k with g | g
                · exact hno b g
                · obtain rfl : b = k := by omega
                  rintro ⟨S1, lv1, S2, lv2, w1, w2, w3, w4⟩
                  rw [hrun] at w1; cases w1
                  rw [zz] at w2; cases w2
                  first | exact c106 w3 | exact w4 c122)
            · refine fg_iload (fg_ft (pc := 125) tb_Fb_when 58 rfl) rfl ?_
              exact fg_iret (fg_ft (pc := 127) tb_Fb_when 59 rfl) rfl rfl (fg_q (hQ _ (some (104 + 14 * town), R.2.1, R.2.2.1, R.2.2.2) (fg_agQ_F (Or.inl rfl) (fg_agF_tr hag ho2))) (by unfold an_when; rw [if_pos y5, if_pos y15, if_pos hpT, if_pos hkT]; rw [fg_fst_some (a := k) ⟨S, lv, S', lv', hrun, zz, c106, c122⟩ (A.nd day) hno (by omega)]; rfl))
  refine fg_intro (by decide +kernel) (Nat.le_of_ble_eq_true rfl) (fg_okAs rfl) (Nat.le_refl _) ?_
  refine fg_aloadn (fg_ft (pc := 0) tb_Fb_when 0 rfl) rfl ?_
  refine fg_getR (fg_ft (pc := 1) tb_Fb_when 1 rfl) ff_Fb_12 ly_100 rfl (fg_lt ly_100 (by decide)) (rh_100_0 R) ?_
  refine fg_iloadn (fg_ft (pc := 4) tb_Fb_when 2 rfl) rfl ?_
  refine fg_callV (fg_ft (pc := 5) tb_Fb_when 3 rfl) cf_Fb_96 (fg_isOf ly_101 rfl (fg_lt ly_101 (by decide))) (as := [.int (nI town)]) (st := []) rfl rfl (Nat.le_of_ble_eq_true rfl) (Nat.le_refl _) (Nat.le_refl _) (ev_Told_townAt hA (i := town) htown (fun n5 => ?_) (fun y5 => ?_))
  · refine fg_astoreN (fg_ft (pc := 8) tb_Fb_when 4 rfl) (Nat.le_of_ble_eq_true rfl) ?_
    refine fg_aloadn (fg_ft (pc := 10) tb_Fb_when 5 rfl) rfl ?_
    refine fg_getR (fg_ft (pc := 11) tb_Fb_when 6 rfl) ff_Fb_12 ly_100 rfl (fg_lt ly_100 (by decide)) (rh_100_0 R) ?_
    refine fg_iloadn (fg_ft (pc := 14) tb_Fb_when 7 rfl) rfl ?_
    refine fg_callV (fg_ft (pc := 15) tb_Fb_when 8 rfl) cf_Fb_138 (fg_isOf ly_101 rfl (fg_lt ly_101 (by decide))) (as := [.int (nI day)]) (st := []) rfl rfl (Nat.le_of_ble_eq_true rfl) (Nat.le_refl _) (Nat.le_refl _) (ev_Told_dayAt hA (i := day) hday (fun n15 => ?_) (fun y15 => ?_))
    · refine fg_astoreN (fg_ft (pc := 18) tb_Fb_when 9 rfl) (Nat.le_of_ble_eq_true rfl) ?_
      refine fg_aloadN (fg_ft (pc := 20) tb_Fb_when 10 rfl) rfl ?_
      refine fg_ifnull (tgt := 49) (fg_ft (pc := 22) tb_Fb_when 11 rfl) (by decide) ?_
      refine fg_iconst (fg_ft (pc := 49) tb_Fb_when 22 rfl) ic_m1 ?_
      exact fg_iret (fg_ft (pc := 50) tb_Fb_when 23 rfl) rfl rfl (fg_q (hQ _ R (fg_agQ_rf μ)) (by unfold an_when; first | rw [if_neg n5] | rw [if_pos y5, if_neg n15] | rw [if_pos y5, if_pos y15, if_neg c36] | rw [if_pos y5, if_pos y15, if_pos c36, if_neg c46]))
    · have hD0 := (hA.2.2.2.2.2.2.1 day y15).1
      have hn30 := hD0.2.2.1
      refine fg_astore (fg_ft (pc := 18) tb_Fb_when 9 rfl) (Nat.le_of_ble_eq_true rfl) ?_
      refine fg_aloadN (fg_ft (pc := 20) tb_Fb_when 10 rfl) rfl ?_
      refine fg_ifnull (tgt := 49) (fg_ft (pc := 22) tb_Fb_when 11 rfl) (by decide) ?_
      refine fg_iconst (fg_ft (pc := 49) tb_Fb_when 22 rfl) ic_m1 ?_
      exact fg_iret (fg_ft (pc := 50) tb_Fb_when 23 rfl) rfl rfl (fg_q (hQ _ R (fg_agQ_rf μ)) (by unfold an_when; first | rw [if_neg n5] | rw [if_pos y5, if_neg n15] | rw [if_pos y5, if_pos y15, if_neg c36] | rw [if_pos y5, if_pos y15, if_pos c36, if_neg c46]))
  · have hok := (hA.2.2.2.2.2.1 town y5).2
    have hT := (hA.2.2.2.2.2.1 town y5).1
    have ht : fg_isT (104 + 14 * town) := fg_isT_told (by omega)
    have hb0 := hok.1
    have hb1 := hok.2.1
    have hp := hok.p
    refine fg_astore (fg_ft (pc := 8) tb_Fb_when 4 rfl) (Nat.le_of_ble_eq_true rfl) ?_
    refine fg_aloadn (fg_ft (pc := 10) tb_Fb_when 5 rfl) rfl ?_
    refine fg_getR (fg_ft (pc := 11) tb_Fb_when 6 rfl) ff_Fb_12 ly_100 rfl (fg_lt ly_100 (by decide)) (rh_100_0 R) ?_
    refine fg_iloadn (fg_ft (pc := 14) tb_Fb_when 7 rfl) rfl ?_
    refine fg_callV (fg_ft (pc := 15) tb_Fb_when 8 rfl) cf_Fb_138 (fg_isOf ly_101 rfl (fg_lt ly_101 (by decide))) (as := [.int (nI day)]) (st := []) rfl rfl (Nat.le_of_ble_eq_true rfl) (Nat.le_refl _) (Nat.le_refl _) (ev_Told_dayAt hA (i := day) hday (fun n15 => ?_) (fun y15 => ?_))
    · refine fg_astoreN (fg_ft (pc := 18) tb_Fb_when 9 rfl) (Nat.le_of_ble_eq_true rfl) ?_
      refine fg_aload (fg_ft (pc := 20) tb_Fb_when 10 rfl) rfl ?_
      refine fg_ifnull_r (fg_ft (pc := 22) tb_Fb_when 11 rfl) ?_
      refine fg_aloadN (fg_ft (pc := 25) tb_Fb_when 12 rfl) rfl ?_
      refine fg_ifnull (tgt := 49) (fg_ft (pc := 27) tb_Fb_when 13 rfl) (by decide) ?_
      refine fg_iconst (fg_ft (pc := 49) tb_Fb_when 22 rfl) ic_m1 ?_
      exact fg_iret (fg_ft (pc := 50) tb_Fb_when 23 rfl) rfl rfl (fg_q (hQ _ R (fg_agQ_rf μ)) (by unfold an_when; first | rw [if_neg n5] | rw [if_pos y5, if_neg n15] | rw [if_pos y5, if_pos y15, if_neg c36] | rw [if_pos y5, if_pos y15, if_pos c36, if_neg c46]))
    · have hD0 := (hA.2.2.2.2.2.2.1 day y15).1
      have hn30 := hD0.2.2.1
      refine fg_astore (fg_ft (pc := 18) tb_Fb_when 9 rfl) (Nat.le_of_ble_eq_true rfl) ?_
      refine fg_aload (fg_ft (pc := 20) tb_Fb_when 10 rfl) rfl ?_
      refine fg_ifnull_r (fg_ft (pc := 22) tb_Fb_when 11 rfl) ?_
      refine fg_aload (fg_ft (pc := 25) tb_Fb_when 12 rfl) rfl ?_
      refine fg_ifnull_r (fg_ft (pc := 27) tb_Fb_when 13 rfl) ?_
      refine fg_aload (fg_ft (pc := 30) tb_Fb_when 14 rfl) rfl ?_
      refine fg_iloadn (fg_ft (pc := 32) tb_Fb_when 15 rfl) rfl ?_
      refine fg_callV (fg_ft (pc := 33) tb_Fb_when 16 rfl) cf_Fb_178 (fg_isOf (tT_lay ht) rfl (fg_lt (tT_lay ht) (by decide))) (as := [.int (nI person)]) (st := []) rfl rfl (Nat.le_of_ble_eq_true rfl) (Nat.le_refl _) (Nat.le_refl _) (ev_Town_hasPersonX ht hT hok (k := person) hperson ?_)
      refine fg_ifB_eq (tgt := 49) (fg_ft (pc := 36) tb_Fb_when 17 rfl) (by decide) (fun c36 => ?_) (fun c36 => ?_)
      · refine fg_iconst (fg_ft (pc := 49) tb_Fb_when 22 rfl) ic_m1 ?_
        exact fg_iret (fg_ft (pc := 50) tb_Fb_when 23 rfl) rfl rfl (fg_q (hQ _ R (fg_agQ_rf μ)) (by unfold an_when; first | rw [if_neg n5] | rw [if_pos y5, if_neg n15] | rw [if_pos y5, if_pos y15, if_neg c36] | rw [if_pos y5, if_pos y15, if_pos c36, if_neg c46]))
      · refine fg_aload (fg_ft (pc := 39) tb_Fb_when 18 rfl) rfl ?_
        refine fg_iload (fg_ft (pc := 41) tb_Fb_when 19 rfl) rfl ?_
        refine fg_callV (fg_ft (pc := 43) tb_Fb_when 20 rfl) cf_Fb_164 (fg_isOf (tT_lay ht) rfl (fg_lt (tT_lay ht) (by decide))) (as := [.int (nI fact)]) (st := []) rfl rfl (Nat.le_of_ble_eq_true rfl) (Nat.le_refl _) (Nat.le_refl _) (ev_Town_hasFactX ht hT hok (k := fact) hfact ?_)
        refine fg_ifB_ne (tgt := 51) (fg_ft (pc := 46) tb_Fb_when 21 rfl) (by decide) (fun c46 => ?_) (fun c46 => ?_)
        · refine fg_aloadn (fg_ft (pc := 51) tb_Fb_when 24 rfl) rfl ?_
          refine fg_getR (fg_ft (pc := 52) tb_Fb_when 25 rfl) ff_Fb_34 ly_100 rfl (fg_lt ly_100 (by decide)) (rh_100_4 R) ?_
          refine fg_aload (fg_ft (pc := 55) tb_Fb_when 26 rfl) rfl ?_
          refine fg_callV (fg_ft (pc := 57) tb_Fb_when 27 rfl) cf_Fb_170 (fg_isOf ly_273 rfl (fg_lt ly_273 (by decide))) (as := [.ref (104 + 14 * town)]) (st := []) rfl rfl (Nat.le_of_ble_eq_true rfl) (Nat.le_refl _) (Nat.le_refl _) (ev_Folk_begin (t := 104 + 14 * town) (T := A.ts town) ht hT hok ?_)
          intro μ1 ho1 hF1
          show fg_wp _ _ _ _ _ _ _ _ _ (μ1, fg_rho (some (104 + 14 * town), R.2.1, R.2.2.1, R.2.2.2), 304)
          refine fg_iconst (fg_ft (pc := 60) tb_Fb_when 28 rfl) ic_0 ?_
          refine fg_istore (fg_ft (pc := 61) tb_Fb_when 29 rfl) (Nat.le_of_ble_eq_true rfl) ?_
          exact loop y5 y15 c36 c46 (A.nd day + 1) 0 (fg_S0 (A.ts town)) (fun _ => 0) μ1 _ (by omega) (by omega) ho1 rfl hF1 (fun b hb => absurd hb (Nat.not_lt_zero _))
        · refine fg_iconst (fg_ft (pc := 49) tb_Fb_when 22 rfl) ic_m1 ?_
          exact fg_iret (fg_ft (pc := 50) tb_Fb_when 23 rfl) rfl rfl (fg_q (hQ _ R (fg_agQ_rf μ)) (by unfold an_when; first | rw [if_neg n5] | rw [if_pos y5, if_neg n15] | rw [if_pos y5, if_pos y15, if_neg c36] | rw [if_pos y5, if_pos y15, if_pos c36, if_neg c46]))
