section ASN
variable {E : fg_E} {Y : fg_Y} {d n0 n1 : Nat} {Q : Option Value → fg_M → Prop} {pc : Nat} {L st : List Value} {M : fg_M}
theorem fg_astoreN {i : Nat} (hd : decode Y.2.1 pc = .ok (.astore i, 2)) (hi : i < L.length) (k : fg_wp E Y d n0 n1 Q (pc + 2) (L.set i (.null)) st M) : fg_wp E Y d n0 n1 Q pc L (.null :: st) M := fun p e s m args below meth c C H locs ls hH hS h0 h1 hl hz => lv_astoreN C.1 C.2.1 hd hl.1 hi rfl (fun ls' h' => k p e s m args below meth c C H locs ls' hH hS h0 h1 (fg_lokSet hl rfl hi h') (by rw [List.length_set]; exact hz))
end ASN
/-! finding a state -/
noncomputable def fg_S0 (T : Nat → Nat) : fg_H3 := (0, ((fun p => fg_clo T (T (41 + 3 * p))), 0, 0, 0), fun _ => 0)
noncomputable def fg_doD (T : Nat → Nat) (D : Nat → Int32) (k : Nat) (S : fg_H3) (lv : Nat → Nat) : Option (fg_H3 × (Nat → Nat)) := fg_do T (none, 0, 0) (fg_nat (D (1 + (k * 4 + 0)))) (fg_nat (D (1 + (k * 4 + 1)))) (fg_nat (D (1 + (k * 4 + 2)))) (fg_nat (D (1 + (k * 4 + 3)))) S lv
noncomputable def fg_runs (T : Nat → Nat) (D : Nat → Int32) : Nat → Option (fg_H3 × (Nat → Nat))
  | 0 => some (fg_S0 T, fun _ => 0)
  | k + 1 => match fg_runs T D k with
    | none => none
    | some (S, lv) => fg_doD T D k S lv
theorem fg_runs_some {T : Nat → Nat} {D : Nat → Int32} {k : Nat} {S : fg_H3} {lv : Nat → Nat} (h : fg_runs T D k = some (S, lv)) : fg_runs T D (k + 1) = fg_doD T D k S lv := by
  simp only [fg_runs]
  rw [h]
theorem fg_runs_none {T : Nat → Nat} {D : Nat → Int32} {k : Nat} (h : fg_runs T D k = none) : ∀ n, fg_runs T D (k + n) = none := by
  intro n
  induction n with
  | zero => exact h
  | succ n ih =>
    show fg_runs T D (k + n + 1) = none
    simp only [fg_runs]
    rw [ih]
theorem fg_runs_ok {T : Nat → Nat} (hok : fg_ok T) {D : Nat → Int32} : ∀ (k : Nat) (S : fg_H3) (lv : Nat → Nat), fg_runs T D k = some (S, lv) → fg_zok T S.1 S.2.1 S.2.2 := by
  intro k
  induction k with
  | zero => intro S lv h; cases h; exact fg_zok0 hok
  | succ k ih =>
    intro S lv h
    cases hr : fg_runs T D k with
    | none => have := fg_runs_none hr 1; rw [this] at h; cases h
    | some q =>
      obtain ⟨S0, lv0⟩ := q
      rw [fg_runs_some hr] at h
      exact fg_do_ok hok (ih S0 lv0 hr) h
theorem fg_dok.ac {D : Nat → Int32} {nd k : Nat} (h : fg_dok D nd) (hk : k < nd) : fg_ac D k (fg_nat (D (1 + (k * 4 + 0)))) (fg_nat (D (1 + (k * 4 + 1)))) (fg_nat (D (1 + (k * 4 + 2)))) (fg_nat (D (1 + (k * 4 + 3)))) := by
  obtain ⟨kd, a, b, c, h1, h2, h3, h4⟩ := h k hk
  have e0 : fg_nat (D (1 + (k * 4 + 0))) = kd := by rw [h2]; exact fg_nat_nI (by omega)
  refine ⟨by rw [e0]; exact h1, (fg_nI_nat _).symm, fun g => ?_, fun g => ?_⟩
  · rw [e0] at g
    obtain ⟨g1, g2, g3, g4⟩ := h3 g
    have e1 : fg_nat (D (1 + (k * 4 + 1))) = a := by rw [g1]; exact fg_nat_nI (by omega)
    have e2 : fg_nat (D (1 + (k * 4 + 2))) = b := by rw [g2]; exact fg_nat_nI (by omega)
    exact ⟨(fg_nI_nat _).symm, (fg_nI_nat _).symm, by rw [e1]; exact g3, by rw [e2]; exact g4⟩
  · rw [e0] at g
    obtain ⟨g1, g2, g3⟩ := h4 g
    obtain ⟨_, f2, _, _⟩ := h3 (by omega)
    have e2 : fg_nat (D (1 + (k * 4 + 2))) = b := by rw [f2]; exact fg_nat_nI (by omega)
    have e3 : fg_nat (D (1 + (k * 4 + 3))) = c := by rw [g1]; exact fg_nat_nI (by omega)
    exact ⟨(fg_nI_nat _).symm, by rw [e2]; exact g2, by rw [e3]; exact g3⟩
noncomputable def fg_fnd (A : fg_Tl) (town day n : Nat) : Option (fg_H3 × (Nat → Nat)) :=
  if town < A.tc then (if day < A.dc then (if n ≤ A.nd day then fg_runs (A.ts town) (A.ds day) n else none) else if day = 4294967295 ∧ n = 0 then some (fg_S0 (A.ts town), fun _ => 0) else none) else none
theorem fg_fnd_t {A : fg_Tl} {town day n : Nat} {q : fg_H3 × (Nat → Nat)} (h : fg_fnd A town day n = some q) : town < A.tc := by
  unfold fg_fnd at h
  by_cases g : town < A.tc
  · exact g
  · rw [if_neg g] at h; cases h
theorem fg_fnd_ok {μ : Nat → Nat → Int32} {A : fg_Tl} (hA : fg_TL μ 101 A) {town day n : Nat} {S : fg_H3} {lv : Nat → Nat} (h : fg_fnd A town day n = some (S, lv)) : fg_zok (A.ts town) S.1 S.2.1 S.2.2 := by
  have g := fg_fnd_t h
  have hok := (hA.2.2.2.2.2.1 town g).2
  unfold fg_fnd at h
  rw [if_pos g] at h
  by_cases h1 : day < A.dc
  · rw [if_pos h1] at h
    by_cases h2 : n ≤ A.nd day
    · rw [if_pos h2] at h; exact fg_runs_ok hok n S lv h
    · rw [if_neg h2] at h; cases h
  · rw [if_neg h1] at h
    by_cases h2 : day = 4294967295 ∧ n = 0
    · rw [if_pos h2] at h; cases h; exact fg_zok0 hok
    · rw [if_neg h2] at h; cases h
theorem ev_Fb_find {E : fg_E} {d : Nat} {μ : Nat → Nat → Int32} {R : fg_T4} {Q : Option Value → fg_M → Prop} {A : fg_Tl} (hA : fg_TL μ 101 A) {town day n : Nat} (htown : town < 2 ^ 32) (hday : day < 2 ^ 32) (hn : n < 2 ^ 32) (hN : fg_fnd A town day n = none → ∀ (μ' : Nat → Nat → Int32) (R' : fg_T4), fg_agF 273 μ μ' → R'.2 = R.2 → Q (some .null) (μ', fg_rho R', 304)) (hY : ∀ (S : fg_H3) (lv : Nat → Nat), fg_fnd A town day n = some (S, lv) → ∀ μ' : Nat → Nat → Int32, fg_agF 273 μ μ' → fg_FS μ' 273 (A.ts town) S lv (none, 0, 0) → Q (some (.ref 273)) (μ', fg_rho (some (104 + 14 * town), R.2.1, R.2.2.1, R.2.2.2), 304)) : fg_Ev E yy_Fb_find (d + 8) [.ref 100, .int (nI town), .int (nI day), .int (nI n)] (μ, fg_rho R, 304) 304 Q := by
  have ht2 := hA.2.2.2.1.2
  have hd3 := hA.2.2.2.2.1.2
  have loop : town < A.tc → day < A.dc → n ≤ A.nd day → ∀ (m k : Nat) (S : fg_H3) (lv : Nat → Nat) (ν : Nat → Nat → Int32), n - k < m → k ≤ n → fg_agF 273 μ ν → fg_runs (A.ts town) (A.ds day) k = some (S, lv) → fg_FS ν 273 (A.ts town) S lv (none, 0, 0) → fg_wp E yy_Fb_find (d + 8) 304 304 Q 77 [.ref 100, .int (nI town), .int (nI day), .int (nI n), .ref (104 + 14 * town), .ref (133 + 2 * day), .int (nI (A.nd day)), .int (nI k)] [] (ν, fg_rho (some (104 + 14 * town), R.2.1, R.2.2.1, R.2.2.2), 304) := by
    intro y5 y15 hnn m
    induction m with
    | zero => intro k S lv ν h; exact absurd h (Nat.not_lt_zero _)
    | succ m ih =>
      intro k S lv ν hm hk hag hrun hN0
      have hokT := (hA.2.2.2.2.2.1 town y5).2
      have hTn := fg_TWp.agF (f := 273) (fg_isT_told (by omega)) (Or.inl rfl) (hA.2.2.2.2.2.1 town y5).1 hag
      have hzn := fg_runs_ok hokT k S lv hrun
      have hdk := (hA.2.2.2.2.2.2.1 day y15).2
      have hD0 := (hA.2.2.2.2.2.2.1 day y15).1
      have hn30 := hD0.2.2.1
      have hDn := fg_DW.lo (fg_isD_told (by omega)) hD0 (fun a ha j => hag a (Or.inl (by omega)) j)
      refine fg_iload (fg_ft (pc := 77) tb_Fb_find 39 rfl) rfl ?_
      refine fg_iloadn (fg_ft (pc := 79) tb_Fb_find 40 rfl) rfl ?_
      refine fg_icmp_geN (tgt := 105) (fg_ft (pc := 80) tb_Fb_find 41 rfl) (by decide) (by omega) (by omega) (fun c80 => ?_) (fun c80 => ?_)
      · refine fg_aloadn (fg_ft (pc := 105) tb_Fb_find 52 rfl) rfl ?_
        refine fg_getR (fg_ft (pc := 106) tb_Fb_find 53 rfl) ff_Fb_34 ly_100 rfl (fg_lt ly_100 (by decide)) (rh_100_4 (some (104 + 14 * town), R.2.1, R.2.2.1, R.2.2.2)) ?_
        exact fg_aret (fg_ft (pc := 109) tb_Fb_find 54 rfl) rfl (by first | exact Or.inl ⟨_, rfl⟩ | exact Or.inr ⟨_, rfl⟩) rfl (hY S lv (by unfold fg_fnd; rw [if_pos y5, if_pos y15, if_pos hnn]; rw [show n = k by omega]; exact hrun) ν hag hN0)
      · refine fg_aloadn (fg_ft (pc := 83) tb_Fb_find 42 rfl) rfl ?_
        refine fg_getR (fg_ft (pc := 84) tb_Fb_find 43 rfl) ff_Fb_34 ly_100 rfl (fg_lt ly_100 (by decide)) (rh_100_4 (some (104 + 14 * town), R.2.1, R.2.2.1, R.2.2.2)) ?_
        refine fg_aload (fg_ft (pc := 87) tb_Fb_find 44 rfl) rfl ?_
        refine fg_iload (fg_ft (pc := 89) tb_Fb_find 45 rfl) rfl ?_
        refine fg_callV (fg_ft (pc := 91) tb_Fb_find 46 rfl) cf_Fb_174 (fg_isOf ly_273 rfl (fg_lt ly_273 (by decide))) (as := [.ref (133 + 2 * day), .int (nI k)]) (st := []) rfl rfl (Nat.le_of_ble_eq_true rfl) (Nat.le_refl _) (Nat.le_refl _) (ev_Folk_doAct (t := 104 + 14 * town) (T := A.ts town) (fg_isT_told (by omega)) hTn hokT (f := 273) (Or.inl rfl) rfl hN0 hzn (fg_isD_told (by omega)) hDn (k := k) (by omega) (hdk.ac (by omega)) (by decide) (fun z0 μ2 ho2 hN2 => ?_) (fun S' lv' z1 μ2 ho2 hN2 => ?_))
        · refine fg_if_ne (tgt := 99) (fg_ft (pc := 94) tb_Fb_find 47 rfl) (by decide) (fun h => absurd h (by decide)) (fun _ => ?_)
          refine fg_null (fg_ft (pc := 97) tb_Fb_find 48 rfl) ?_
          exact fg_nret (fg_ft (pc := 98) tb_Fb_find 49 rfl) rfl (by first | exact Or.inl ⟨_, rfl⟩ | exact Or.inr ⟨_, rfl⟩) rfl (hN (by unfold fg_fnd; rw [if_pos y5, if_pos y15, if_pos hnn]; have g := fg_runs_none ((fg_runs_some hrun).trans z0) (n - (k + 1)); rw [show k + 1 + (n - (k + 1)) = n by omega] at g; exact g) μ2 (some (104 + 14 * town), R.2.1, R.2.2.1, R.2.2.2) (fg_agF_tr hag ho2) rfl)
        · refine fg_if_ne (tgt := 99) (fg_ft (pc := 94) tb_Fb_find 47 rfl) (by decide) (fun _ => ?_) (fun h => absurd h (by decide))
          refine fg_iincN (fg_ft (pc := 99) tb_Fb_find 50 rfl) rfl ic_1 rfl ?_
          refine fg_goto (tgt := 77) (fg_ft (pc := 102) tb_Fb_find 51 rfl) (by decide) ?_
          exact ih (k + 1) S' lv' μ2 (by omega) (by omega) (fg_agF_tr hag ho2) ((fg_runs_some hrun).trans z1) hN2
  refine fg_intro (by decide +kernel) (Nat.le_of_ble_eq_true rfl) (fg_okAs rfl) (Nat.le_refl _) ?_
  refine fg_aloadn (fg_ft (pc := 0) tb_Fb_find 0 rfl) rfl ?_
  refine fg_getR (fg_ft (pc := 1) tb_Fb_find 1 rfl) ff_Fb_12 ly_100 rfl (fg_lt ly_100 (by decide)) (rh_100_0 R) ?_
  refine fg_iloadn (fg_ft (pc := 4) tb_Fb_find 2 rfl) rfl ?_
  refine fg_callV (fg_ft (pc := 5) tb_Fb_find 3 rfl) cf_Fb_96 (fg_isOf ly_101 rfl (fg_lt ly_101 (by decide))) (as := [.int (nI town)]) (st := []) rfl rfl (Nat.le_of_ble_eq_true rfl) (Nat.le_refl _) (Nat.le_refl _) (ev_Told_townAt hA (i := town) htown (fun n5 => ?_) (fun y5 => ?_))
  · refine fg_astoreN (fg_ft (pc := 8) tb_Fb_find 4 rfl) (Nat.le_of_ble_eq_true rfl) ?_
    refine fg_aloadn (fg_ft (pc := 10) tb_Fb_find 5 rfl) rfl ?_
    refine fg_getR (fg_ft (pc := 11) tb_Fb_find 6 rfl) ff_Fb_12 ly_100 rfl (fg_lt ly_100 (by decide)) (rh_100_0 R) ?_
    refine fg_iloadn (fg_ft (pc := 14) tb_Fb_find 7 rfl) rfl ?_
    refine fg_callV (fg_ft (pc := 15) tb_Fb_find 8 rfl) cf_Fb_138 (fg_isOf ly_101 rfl (fg_lt ly_101 (by decide))) (as := [.int (nI day)]) (st := []) rfl rfl (Nat.le_of_ble_eq_true rfl) (Nat.le_refl _) (Nat.le_refl _) (ev_Told_dayAt hA (i := day) hday (fun n15 => ?_) (fun y15 => ?_))
    · refine fg_astoreN (fg_ft (pc := 18) tb_Fb_find 9 rfl) (Nat.le_of_ble_eq_true rfl) ?_
      refine fg_aloadN (fg_ft (pc := 20) tb_Fb_find 10 rfl) rfl ?_
      refine fg_ifnull (tgt := 35) (fg_ft (pc := 22) tb_Fb_find 11 rfl) (by decide) ?_
      refine fg_null (fg_ft (pc := 35) tb_Fb_find 17 rfl) ?_
      exact fg_nret (fg_ft (pc := 36) tb_Fb_find 18 rfl) rfl (by first | exact Or.inl ⟨_, rfl⟩ | exact Or.inr ⟨_, rfl⟩) rfl (hN (by first | (have h30 := (hA.2.2.2.2.2.2.1 day y15).1.2.2.1; unfold fg_fnd; rw [if_pos y5, if_pos y15, if_neg (by omega)]) | (unfold fg_fnd; (repeat (first | rw [if_pos (by assumption)] | rw [if_neg (by assumption)] | rw [if_neg (by omega)] | rw [if_pos (by omega)])))) μ R (fg_agF_rf 273 μ) rfl)
    · refine fg_astore (fg_ft (pc := 18) tb_Fb_find 9 rfl) (Nat.le_of_ble_eq_true rfl) ?_
      refine fg_aloadN (fg_ft (pc := 20) tb_Fb_find 10 rfl) rfl ?_
      refine fg_ifnull (tgt := 35) (fg_ft (pc := 22) tb_Fb_find 11 rfl) (by decide) ?_
      refine fg_null (fg_ft (pc := 35) tb_Fb_find 17 rfl) ?_
      exact fg_nret (fg_ft (pc := 36) tb_Fb_find 18 rfl) rfl (by first | exact Or.inl ⟨_, rfl⟩ | exact Or.inr ⟨_, rfl⟩) rfl (hN (by first | (have h30 := (hA.2.2.2.2.2.2.1 day y15).1.2.2.1; unfold fg_fnd; rw [if_pos y5, if_pos y15, if_neg (by omega)]) | (unfold fg_fnd; (repeat (first | rw [if_pos (by assumption)] | rw [if_neg (by assumption)] | rw [if_neg (by omega)] | rw [if_pos (by omega)])))) μ R (fg_agF_rf 273 μ) rfl)
  · refine fg_astore (fg_ft (pc := 8) tb_Fb_find 4 rfl) (Nat.le_of_ble_eq_true rfl) ?_
    refine fg_aloadn (fg_ft (pc := 10) tb_Fb_find 5 rfl) rfl ?_
    refine fg_getR (fg_ft (pc := 11) tb_Fb_find 6 rfl) ff_Fb_12 ly_100 rfl (fg_lt ly_100 (by decide)) (rh_100_0 R) ?_
    refine fg_iloadn (fg_ft (pc := 14) tb_Fb_find 7 rfl) rfl ?_
    refine fg_callV (fg_ft (pc := 15) tb_Fb_find 8 rfl) cf_Fb_138 (fg_isOf ly_101 rfl (fg_lt ly_101 (by decide))) (as := [.int (nI day)]) (st := []) rfl rfl (Nat.le_of_ble_eq_true rfl) (Nat.le_refl _) (Nat.le_refl _) (ev_Told_dayAt hA (i := day) hday (fun n15 => ?_) (fun y15 => ?_))
    · refine fg_astoreN (fg_ft (pc := 18) tb_Fb_find 9 rfl) (Nat.le_of_ble_eq_true rfl) ?_
      refine fg_aload (fg_ft (pc := 20) tb_Fb_find 10 rfl) rfl ?_
      refine fg_ifnull_r (fg_ft (pc := 22) tb_Fb_find 11 rfl) ?_
      refine fg_aloadN (fg_ft (pc := 25) tb_Fb_find 12 rfl) rfl ?_
      refine fg_ifnonnull_n (fg_ft (pc := 27) tb_Fb_find 13 rfl) ?_
      refine fg_iloadn (fg_ft (pc := 30) tb_Fb_find 14 rfl) rfl ?_
      refine fg_iconst (fg_ft (pc := 31) tb_Fb_find 15 rfl) ic_m1 ?_
      refine fg_icmp_eqM (tgt := 37) (fg_ft (pc := 32) tb_Fb_find 16 rfl) (by decide) (hday) (fun c32 => ?_) (fun c32 => ?_)
      · refine fg_aloadN (fg_ft (pc := 37) tb_Fb_find 19 rfl) rfl ?_
        refine fg_ifnonnull_n (fg_ft (pc := 39) tb_Fb_find 20 rfl) ?_
        refine fg_iconst (fg_ft (pc := 42) tb_Fb_find 21 rfl) ic_0 ?_
        refine fg_goto (tgt := 51) (fg_ft (pc := 43) tb_Fb_find 22 rfl) (by decide) ?_
        refine fg_istore (fg_ft (pc := 51) tb_Fb_find 25 rfl) (Nat.le_of_ble_eq_true rfl) ?_
        refine fg_iloadn (fg_ft (pc := 53) tb_Fb_find 26 rfl) rfl ?_
        refine fg_if_ltW (tgt := 63) (fg_ft (pc := 54) tb_Fb_find 27 rfl) (by decide) (hn) (fun c54 => ?_) (fun c54 => ?_)
        · refine fg_null (fg_ft (pc := 63) tb_Fb_find 31 rfl) ?_
          exact fg_nret (fg_ft (pc := 64) tb_Fb_find 32 rfl) rfl (by first | exact Or.inl ⟨_, rfl⟩ | exact Or.inr ⟨_, rfl⟩) rfl (hN (by first | (have h30 := (hA.2.2.2.2.2.2.1 day y15).1.2.2.1; unfold fg_fnd; rw [if_pos y5, if_pos y15, if_neg (by omega)]) | (unfold fg_fnd; (repeat (first | rw [if_pos (by assumption)] | rw [if_neg (by assumption)] | rw [if_neg (by omega)] | rw [if_pos (by omega)])))) μ R (fg_agF_rf 273 μ) rfl)
        · refine fg_iloadn (fg_ft (pc := 57) tb_Fb_find 28 rfl) rfl ?_
          refine fg_iload (fg_ft (pc := 58) tb_Fb_find 29 rfl) rfl ?_
          refine fg_icmp_leN (tgt := 65) (fg_ft (pc := 60) tb_Fb_find 30 rfl) (by decide) (by omega) (by decide) (fun c60 => ?_) (fun c60 => ?_)
          · refine fg_aloadn (fg_ft (pc := 65) tb_Fb_find 33 rfl) rfl ?_
            refine fg_getR (fg_ft (pc := 66) tb_Fb_find 34 rfl) ff_Fb_34 ly_100 rfl (fg_lt ly_100 (by decide)) (rh_100_4 R) ?_
            refine fg_aload (fg_ft (pc := 69) tb_Fb_find 35 rfl) rfl ?_
            refine fg_callV (fg_ft (pc := 71) tb_Fb_find 36 rfl) cf_Fb_170 (fg_isOf ly_273 rfl (fg_lt ly_273 (by decide))) (as := [.ref (104 + 14 * town)]) (st := []) rfl rfl (Nat.le_of_ble_eq_true rfl) (Nat.le_refl _) (Nat.le_refl _) (ev_Folk_begin (t := 104 + 14 * town) (T := A.ts town) (fg_isT_told (by omega)) (hA.2.2.2.2.2.1 town y5).1 (hA.2.2.2.2.2.1 town y5).2 ?_)
            intro μ1 ho1 hF1
            show fg_wp _ _ _ _ _ _ _ _ _ (μ1, fg_rho (some (104 + 14 * town), R.2.1, R.2.2.1, R.2.2.2), 304)
            refine fg_iconst (fg_ft (pc := 74) tb_Fb_find 37 rfl) ic_0 ?_
            refine fg_istore (fg_ft (pc := 75) tb_Fb_find 38 rfl) (Nat.le_of_ble_eq_true rfl) ?_
            refine fg_iload (fg_ft (pc := 77) tb_Fb_find 39 rfl) rfl ?_
            refine fg_iloadn (fg_ft (pc := 79) tb_Fb_find 40 rfl) rfl ?_
            refine fg_icmp_geN (tgt := 105) (fg_ft (pc := 80) tb_Fb_find 41 rfl) (by decide) (by decide) (by omega) (fun c80 => ?_) (fun c80 => (absurd c80 (by omega)))
            refine fg_aloadn (fg_ft (pc := 105) tb_Fb_find 52 rfl) rfl ?_
            refine fg_getR (fg_ft (pc := 106) tb_Fb_find 53 rfl) ff_Fb_34 ly_100 rfl (fg_lt ly_100 (by decide)) (rh_100_4 (some (104 + 14 * town), R.2.1, R.2.2.1, R.2.2.2)) ?_
            exact fg_aret (fg_ft (pc := 109) tb_Fb_find 54 rfl) rfl (by first | exact Or.inl ⟨_, rfl⟩ | exact Or.inr ⟨_, rfl⟩) rfl (hY (fg_S0 (A.ts town)) (fun _ => 0) (by unfold fg_fnd; rw [if_pos y5, if_neg n15, if_pos ⟨c32, by omega⟩]) μ1 ho1 hF1)
          · refine fg_null (fg_ft (pc := 63) tb_Fb_find 31 rfl) ?_
            exact fg_nret (fg_ft (pc := 64) tb_Fb_find 32 rfl) rfl (by first | exact Or.inl ⟨_, rfl⟩ | exact Or.inr ⟨_, rfl⟩) rfl (hN (by first | (have h30 := (hA.2.2.2.2.2.2.1 day y15).1.2.2.1; unfold fg_fnd; rw [if_pos y5, if_pos y15, if_neg (by omega)]) | (unfold fg_fnd; (repeat (first | rw [if_pos (by assumption)] | rw [if_neg (by assumption)] | rw [if_neg (by omega)] | rw [if_pos (by omega)])))) μ R (fg_agF_rf 273 μ) rfl)
      · refine fg_null (fg_ft (pc := 35) tb_Fb_find 17 rfl) ?_
        exact fg_nret (fg_ft (pc := 36) tb_Fb_find 18 rfl) rfl (by first | exact Or.inl ⟨_, rfl⟩ | exact Or.inr ⟨_, rfl⟩) rfl (hN (by first | (have h30 := (hA.2.2.2.2.2.2.1 day y15).1.2.2.1; unfold fg_fnd; rw [if_pos y5, if_pos y15, if_neg (by omega)]) | (unfold fg_fnd; (repeat (first | rw [if_pos (by assumption)] | rw [if_neg (by assumption)] | rw [if_neg (by omega)] | rw [if_pos (by omega)])))) μ R (fg_agF_rf 273 μ) rfl)
    · refine fg_astore (fg_ft (pc := 18) tb_Fb_find 9 rfl) (Nat.le_of_ble_eq_true rfl) ?_
      refine fg_aload (fg_ft (pc := 20) tb_Fb_find 10 rfl) rfl ?_
      refine fg_ifnull_r (fg_ft (pc := 22) tb_Fb_find 11 rfl) ?_
      refine fg_aload (fg_ft (pc := 25) tb_Fb_find 12 rfl) rfl ?_
      refine fg_ifnonnull (tgt := 37) (fg_ft (pc := 27) tb_Fb_find 13 rfl) (by decide) ?_
      refine fg_aload (fg_ft (pc := 37) tb_Fb_find 19 rfl) rfl ?_
      refine fg_ifnonnull (tgt := 46) (fg_ft (pc := 39) tb_Fb_find 20 rfl) (by decide) ?_
      refine fg_aload (fg_ft (pc := 46) tb_Fb_find 23 rfl) rfl ?_
      refine fg_getV (v := (nI (A.nd day))) (fg_ft (pc := 48) tb_Fb_find 24 rfl) ff_Fb_108 ((fD_w (R := R) (fg_isD_told (by omega))).1) rfl (fg_lt ((fD_w (R := R) (fg_isD_told (by omega))).1) (by decide)) (hA.2.2.2.2.2.2.1 day y15).1.2.1 ?_
      refine fg_istore (fg_ft (pc := 51) tb_Fb_find 25 rfl) (Nat.le_of_ble_eq_true rfl) ?_
      refine fg_iloadn (fg_ft (pc := 53) tb_Fb_find 26 rfl) rfl ?_
      refine fg_if_ltW (tgt := 63) (fg_ft (pc := 54) tb_Fb_find 27 rfl) (by decide) (hn) (fun c54 => ?_) (fun c54 => ?_)
      · refine fg_null (fg_ft (pc := 63) tb_Fb_find 31 rfl) ?_
        exact fg_nret (fg_ft (pc := 64) tb_Fb_find 32 rfl) rfl (by first | exact Or.inl ⟨_, rfl⟩ | exact Or.inr ⟨_, rfl⟩) rfl (hN (by first | (have h30 := (hA.2.2.2.2.2.2.1 day y15).1.2.2.1; unfold fg_fnd; rw [if_pos y5, if_pos y15, if_neg (by omega)]) | (unfold fg_fnd; (repeat (first | rw [if_pos (by assumption)] | rw [if_neg (by assumption)] | rw [if_neg (by omega)] | rw [if_pos (by omega)])))) μ R (fg_agF_rf 273 μ) rfl)
      · refine fg_iloadn (fg_ft (pc := 57) tb_Fb_find 28 rfl) rfl ?_
        refine fg_iload (fg_ft (pc := 58) tb_Fb_find 29 rfl) rfl ?_
        refine fg_icmp_leN (tgt := 65) (fg_ft (pc := 60) tb_Fb_find 30 rfl) (by decide) (by omega) (by have := (hA.2.2.2.2.2.2.1 day y15).1.2.2.1; omega) (fun c60 => ?_) (fun c60 => ?_)
        · refine fg_aloadn (fg_ft (pc := 65) tb_Fb_find 33 rfl) rfl ?_
          refine fg_getR (fg_ft (pc := 66) tb_Fb_find 34 rfl) ff_Fb_34 ly_100 rfl (fg_lt ly_100 (by decide)) (rh_100_4 R) ?_
          refine fg_aload (fg_ft (pc := 69) tb_Fb_find 35 rfl) rfl ?_
          refine fg_callV (fg_ft (pc := 71) tb_Fb_find 36 rfl) cf_Fb_170 (fg_isOf ly_273 rfl (fg_lt ly_273 (by decide))) (as := [.ref (104 + 14 * town)]) (st := []) rfl rfl (Nat.le_of_ble_eq_true rfl) (Nat.le_refl _) (Nat.le_refl _) (ev_Folk_begin (t := 104 + 14 * town) (T := A.ts town) (fg_isT_told (by omega)) (hA.2.2.2.2.2.1 town y5).1 (hA.2.2.2.2.2.1 town y5).2 ?_)
          intro μ1 ho1 hF1
          show fg_wp _ _ _ _ _ _ _ _ _ (μ1, fg_rho (some (104 + 14 * town), R.2.1, R.2.2.1, R.2.2.2), 304)
          refine fg_iconst (fg_ft (pc := 74) tb_Fb_find 37 rfl) ic_0 ?_
          refine fg_istore (fg_ft (pc := 75) tb_Fb_find 38 rfl) (Nat.le_of_ble_eq_true rfl) ?_
          exact loop y5 y15 c60 (n + 1) 0 (fg_S0 (A.ts town)) (fun _ => 0) μ1 (by omega) (by omega) ho1 rfl hF1
        · refine fg_null (fg_ft (pc := 63) tb_Fb_find 31 rfl) ?_
          exact fg_nret (fg_ft (pc := 64) tb_Fb_find 32 rfl) rfl (by first | exact Or.inl ⟨_, rfl⟩ | exact Or.inr ⟨_, rfl⟩) rfl (hN (by first | (have h30 := (hA.2.2.2.2.2.2.1 day y15).1.2.2.1; unfold fg_fnd; rw [if_pos y5, if_pos y15, if_neg (by omega)]) | (unfold fg_fnd; (repeat (first | rw [if_pos (by assumption)] | rw [if_neg (by assumption)] | rw [if_neg (by omega)] | rw [if_pos (by omega)])))) μ R (fg_agF_rf 273 μ) rfl)
