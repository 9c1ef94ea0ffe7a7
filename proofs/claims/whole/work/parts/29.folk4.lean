theorem fg_u2nx {μ : Nat → Nat → Int32} {a i b j : Nat} {x : Int32} (h : b ≠ a ∨ j ≠ i) : fg_u2 μ a i x b j = μ b j := by
  rcases Nat.decEq b a with e | e
  · exact fg_u2ne e
  · rcases h with h | h
    · exact absurd e h
    · rw [e]; exact fg_u2ns h
theorem fg_cp1_ne {μ : Nat → Nat → Int32} {a0 a1 k b j : Nat} (h : b ≠ a1) : fg_cp1 μ a0 a1 k b j = μ b j := if_neg h
theorem fg_cp1_lt {μ : Nat → Nat → Int32} {a0 a1 k j : Nat} (h : j < k) : fg_cp1 μ a0 a1 k a1 j = μ a0 j := (if_pos rfl).trans (if_pos h)
theorem ev_Folk_forgetCounts {E : fg_E} {d : Nat} {μ : Nat → Nat → Int32} {R : fg_T4} {Q : Option Value → fg_M → Prop} {f : Nat} (hf : fg_isF f) (hQ : ∀ μ' : Nat → Nat → Int32, (∀ a j, (a ≠ f ∨ j < 6) → μ' a j = μ a j) → (μ' f 6 = -1 ∧ μ' f 7 = nI 0 ∧ μ' f 8 = nI 0 ∧ μ' f 9 = nI 0 ∧ μ' f 10 = nI 0 ∧ μ' f 11 = nI 0) → Q none (μ', fg_rho R, 304)) : fg_Ev E yy_Folk_forgetCounts (d + 1) [.ref f] (μ, fg_rho R, 304) 304 Q := by
  have hfb := fF_b hf
  refine fg_intro (by decide +kernel) (Nat.le_of_ble_eq_true rfl) (fg_okAs rfl) (Nat.le_refl _) ?_
  refine fg_aloadn (fg_ft (pc := 0) tb_Folk_forgetCounts 0 rfl) rfl ?_
  refine fg_iconst (fg_ft (pc := 1) tb_Folk_forgetCounts 1 rfl) ic_m1 ?_
  refine fg_putI (fg_ft (pc := 2) tb_Folk_forgetCounts 2 rfl) ff_Folk_25 (fF_lay hf) rfl (fg_lt (fF_lay hf) (by decide)) (fg_nokI _) (fun _ _ h => by cases h; rfl) ?_
  show fg_wp _ _ _ _ _ _ _ _ _ (fg_u2 μ f 6 (-1), fg_rho R, 304)
  refine fg_aloadn (fg_ft (pc := 5) tb_Folk_forgetCounts 3 rfl) rfl ?_
  refine fg_iconst (fg_ft (pc := 6) tb_Folk_forgetCounts 4 rfl) ic_0 ?_
  refine fg_putI (fg_ft (pc := 7) tb_Folk_forgetCounts 5 rfl) ff_Folk_59 (fF_lay hf) rfl (fg_lt (fF_lay hf) (by decide)) (fg_nokI _) (fun _ _ h => by cases h; rfl) ?_
  show fg_wp _ _ _ _ _ _ _ _ _ (fg_u2 (fg_u2 μ f 6 (-1)) f 7 (nI 0), fg_rho R, 304)
  refine fg_aloadn (fg_ft (pc := 10) tb_Folk_forgetCounts 6 rfl) rfl ?_
  refine fg_iconst (fg_ft (pc := 11) tb_Folk_forgetCounts 7 rfl) ic_0 ?_
  refine fg_putI (fg_ft (pc := 12) tb_Folk_forgetCounts 8 rfl) ff_Folk_62 (fF_lay hf) rfl (fg_lt (fF_lay hf) (by decide)) (fg_nokI _) (fun _ _ h => by cases h; rfl) ?_
  show fg_wp _ _ _ _ _ _ _ _ _ (fg_u2 (fg_u2 (fg_u2 μ f 6 (-1)) f 7 (nI 0)) f 8 (nI 0), fg_rho R, 304)
  refine fg_aloadn (fg_ft (pc := 15) tb_Folk_forgetCounts 9 rfl) rfl ?_
  refine fg_iconst (fg_ft (pc := 16) tb_Folk_forgetCounts 10 rfl) ic_0 ?_
  refine fg_putI (fg_ft (pc := 17) tb_Folk_forgetCounts 11 rfl) ff_Folk_65 (fF_lay hf) rfl (fg_lt (fF_lay hf) (by decide)) (fg_nokI _) (fun _ _ h => by cases h; rfl) ?_
  show fg_wp _ _ _ _ _ _ _ _ _ (fg_u2 (fg_u2 (fg_u2 (fg_u2 μ f 6 (-1)) f 7 (nI 0)) f 8 (nI 0)) f 9 (nI 0), fg_rho R, 304)
  refine fg_aloadn (fg_ft (pc := 20) tb_Folk_forgetCounts 12 rfl) rfl ?_
  refine fg_iconst (fg_ft (pc := 21) tb_Folk_forgetCounts 13 rfl) ic_0 ?_
  refine fg_putI (fg_ft (pc := 22) tb_Folk_forgetCounts 14 rfl) ff_Folk_68 (fF_lay hf) rfl (fg_lt (fF_lay hf) (by decide)) (fg_nokI _) (fun _ _ h => by cases h; rfl) ?_
  show fg_wp _ _ _ _ _ _ _ _ _ (fg_u2 (fg_u2 (fg_u2 (fg_u2 (fg_u2 μ f 6 (-1)) f 7 (nI 0)) f 8 (nI 0)) f 9 (nI 0)) f 10 (nI 0), fg_rho R, 304)
  refine fg_aloadn (fg_ft (pc := 25) tb_Folk_forgetCounts 15 rfl) rfl ?_
  refine fg_iconst (fg_ft (pc := 26) tb_Folk_forgetCounts 16 rfl) ic_0 ?_
  refine fg_putI (fg_ft (pc := 27) tb_Folk_forgetCounts 17 rfl) ff_Folk_71 (fF_lay hf) rfl (fg_lt (fF_lay hf) (by decide)) (fg_nokI _) (fun _ _ h => by cases h; rfl) ?_
  show fg_wp _ _ _ _ _ _ _ _ _ (fg_u2 (fg_u2 (fg_u2 (fg_u2 (fg_u2 (fg_u2 μ f 6 (-1)) f 7 (nI 0)) f 8 (nI 0)) f 9 (nI 0)) f 10 (nI 0)) f 11 (nI 0), fg_rho R, 304)
  exact fg_vret (fg_ft (pc := 30) tb_Folk_forgetCounts 18 rfl) rfl rfl (hQ _ (fun a j h => (fg_u2nx (by omega)).trans ((fg_u2nx (by omega)).trans ((fg_u2nx (by omega)).trans ((fg_u2nx (by omega)).trans ((fg_u2nx (by omega)).trans (fg_u2nx (by omega))))))) ⟨by simp [fg_u2], by simp [fg_u2], by simp [fg_u2], by simp [fg_u2], by simp [fg_u2], fg_u2eq⟩)
theorem ev_Folk_copyFrom {E : fg_E} {d : Nat} {μ : Nat → Nat → Int32} {R : fg_T4} {Q : Option Value → fg_M → Prop} {t : Nat} {T : Nat → Nat} (ht : fg_isT t) (hT : fg_TW μ t T) (hok : fg_ok T) {h : Nat} {Z : fg_Z} {hv lv : Nat → Nat} {o : Option Nat × Nat × Nat} (hft : fg_rho R 273 0 = some t) (hF : fg_FZ μ 273 T h Z hv lv o) (hz : fg_zok T h Z hv) (hQ : ∀ μ' : Nat → Nat → Int32, fg_agF 277 μ μ' → fg_FZ μ' 277 T h (Z.1, 0, 0, 0) hv lv (none, 0, 0) → Q none (μ', fg_rho (R.1, some t, R.2.2.1, R.2.2.2), 304)) : fg_Ev E yy_Folk_copyFrom (d + 2) [.ref 277, .ref 273] (μ, fg_rho R, 304) 304 Q := by
  have hb0 := hok.1
  have hb1 := hok.2.1
  have hp := hok.p
  have hq := Nat.two_pow_pos (T 0)
  have hz9 := hz.1
  refine fg_intro (by decide +kernel) (Nat.le_of_ble_eq_true rfl) (fg_okAs rfl) (Nat.le_refl _) ?_
  refine fg_aloadn (fg_ft (pc := 0) tb_Folk_copyFrom 0 rfl) rfl ?_
  refine fg_aloadn (fg_ft (pc := 1) tb_Folk_copyFrom 1 rfl) rfl ?_
  refine fg_getR (fg_ft (pc := 2) tb_Folk_copyFrom 2 rfl) ff_Folk_9 ly_273 rfl (fg_lt ly_273 (by decide)) hft ?_
  refine fg_putCo (fg_ft (pc := 5) tb_Folk_copyFrom 3 rfl) ff_Folk_9 ly_277 rfl (fg_lt ly_277 (by decide)) ?_
  show fg_wp _ _ _ _ _ _ _ _ _ (μ, fg_rho (R.1, some t, R.2.2.1, R.2.2.2), 304)
  refine fg_aloadn (fg_ft (pc := 8) tb_Folk_copyFrom 4 rfl) rfl ?_
  refine fg_aloadn (fg_ft (pc := 9) tb_Folk_copyFrom 5 rfl) rfl ?_
  refine fg_getV (v := (nI (T 2))) (fg_ft (pc := 10) tb_Folk_copyFrom 6 rfl) ff_Folk_46 ly_273 rfl (fg_lt ly_273 (by decide)) hF.1 ?_
  refine fg_putI (fg_ft (pc := 13) tb_Folk_copyFrom 7 rfl) ff_Folk_46 ly_277 rfl (fg_lt ly_277 (by decide)) (fg_nokI _) (fun _ _ h => by cases h; rfl) ?_
  show fg_wp _ _ _ _ _ _ _ _ _ (fg_u2 μ 277 1 (nI (T 2)), fg_rho (R.1, some t, R.2.2.1, R.2.2.2), 304)
  refine fg_aloadn (fg_ft (pc := 16) tb_Folk_copyFrom 8 rfl) rfl ?_
  refine fg_aloadn (fg_ft (pc := 17) tb_Folk_copyFrom 9 rfl) rfl ?_
  refine fg_getV (v := (nI h)) (fg_ft (pc := 18) tb_Folk_copyFrom 10 rfl) ff_Folk_49 ly_273 rfl (fg_lt ly_273 (by decide)) ((fg_u2ne (f := μ) (a := 277) (k := 1) (b := 273) (j := 2) (x := (nI (T 2))) (by decide)).trans hF.2.1) ?_
  refine fg_putI (fg_ft (pc := 21) tb_Folk_copyFrom 11 rfl) ff_Folk_49 ly_277 rfl (fg_lt ly_277 (by decide)) (fg_nokI _) (fun _ _ h => by cases h; rfl) ?_
  show fg_wp _ _ _ _ _ _ _ _ _ (fg_u2 (fg_u2 μ 277 1 (nI (T 2))) 277 2 (nI h), fg_rho (R.1, some t, R.2.2.1, R.2.2.2), 304)
  refine fg_aloadn (fg_ft (pc := 24) tb_Folk_copyFrom 12 rfl) rfl ?_
  refine fg_getR (fg_ft (pc := 25) tb_Folk_copyFrom 13 rfl) ff_Folk_15 ly_273 rfl (fg_lt ly_273 (by decide)) (rh_273_3 (R.1, some t, R.2.2.1, R.2.2.2)) ?_
  refine fg_iconst (fg_ft (pc := 28) tb_Folk_copyFrom 14 rfl) ic_0 ?_
  refine fg_aloadn (fg_ft (pc := 29) tb_Folk_copyFrom 15 rfl) rfl ?_
  refine fg_getR (fg_ft (pc := 30) tb_Folk_copyFrom 16 rfl) ff_Folk_15 ly_277 rfl (fg_lt ly_277 (by decide)) (rh_277_3 (R.1, some t, R.2.2.1, R.2.2.2)) ?_
  refine fg_iconst (fg_ft (pc := 33) tb_Folk_copyFrom 17 rfl) ic_0 ?_
  refine fg_iconst (fg_ft (pc := 34) tb_Folk_copyFrom 18 rfl) ic_5 ?_
  refine fg_copy (fg_ft (pc := 35) tb_Folk_copyFrom 19 rfl) fy_Folk_74 fy_native fy_static fy_init (Or.inl rfl) ly_274 ly_278 (fg_lt ly_274 (by decide)) (fg_lt ly_278 (by decide)) rfl rfl rfl (by omega) (by omega) (fun _ _ => rfl) (Nat.le_of_ble_eq_true rfl) ?_
  show fg_wp _ _ _ _ _ _ _ _ _ (fg_cp1 (fg_u2 (fg_u2 μ 277 1 (nI (T 2))) 277 2 (nI h)) 274 278 5, fg_rho (R.1, some t, R.2.2.1, R.2.2.2), 304)
  refine fg_aloadn (fg_ft (pc := 38) tb_Folk_copyFrom 20 rfl) rfl ?_
  refine fg_getR (fg_ft (pc := 39) tb_Folk_copyFrom 21 rfl) ff_Folk_19 ly_273 rfl (fg_lt ly_273 (by decide)) (rh_273_4 (R.1, some t, R.2.2.1, R.2.2.2)) ?_
  refine fg_iconst (fg_ft (pc := 42) tb_Folk_copyFrom 22 rfl) ic_0 ?_
  refine fg_aloadn (fg_ft (pc := 43) tb_Folk_copyFrom 23 rfl) rfl ?_
  refine fg_getR (fg_ft (pc := 44) tb_Folk_copyFrom 24 rfl) ff_Folk_19 ly_277 rfl (fg_lt ly_277 (by decide)) (rh_277_4 (R.1, some t, R.2.2.1, R.2.2.2)) ?_
  refine fg_iconst (fg_ft (pc := 47) tb_Folk_copyFrom 25 rfl) ic_0 ?_
  refine fg_iconst (fg_ft (pc := 48) tb_Folk_copyFrom 26 rfl) ic_5 ?_
  refine fg_copy (fg_ft (pc := 49) tb_Folk_copyFrom 27 rfl) fy_Folk_74 fy_native fy_static fy_init (Or.inl rfl) ly_275 ly_279 (fg_lt ly_275 (by decide)) (fg_lt ly_279 (by decide)) rfl rfl rfl (by omega) (by omega) (fun _ _ => rfl) (Nat.le_of_ble_eq_true rfl) ?_
  show fg_wp _ _ _ _ _ _ _ _ _ (fg_cp1 (fg_cp1 (fg_u2 (fg_u2 μ 277 1 (nI (T 2))) 277 2 (nI h)) 274 278 5) 275 279 5, fg_rho (R.1, some t, R.2.2.1, R.2.2.2), 304)
  refine fg_aloadn (fg_ft (pc := 52) tb_Folk_copyFrom 28 rfl) rfl ?_
  refine fg_getR (fg_ft (pc := 53) tb_Folk_copyFrom 29 rfl) ff_Folk_22 ly_273 rfl (fg_lt ly_273 (by decide)) (rh_273_5 (R.1, some t, R.2.2.1, R.2.2.2)) ?_
  refine fg_iconst (fg_ft (pc := 56) tb_Folk_copyFrom 30 rfl) ic_0 ?_
  refine fg_aloadn (fg_ft (pc := 57) tb_Folk_copyFrom 31 rfl) rfl ?_
  refine fg_getR (fg_ft (pc := 58) tb_Folk_copyFrom 32 rfl) ff_Folk_22 ly_277 rfl (fg_lt ly_277 (by decide)) (rh_277_5 (R.1, some t, R.2.2.1, R.2.2.2)) ?_
  refine fg_iconst (fg_ft (pc := 61) tb_Folk_copyFrom 33 rfl) ic_0 ?_
  refine fg_iconst (fg_ft (pc := 62) tb_Folk_copyFrom 34 rfl) ic_5 ?_
  refine fg_copy (fg_ft (pc := 63) tb_Folk_copyFrom 35 rfl) fy_Folk_74 fy_native fy_static fy_init (Or.inl rfl) ly_276 ly_280 (fg_lt ly_276 (by decide)) (fg_lt ly_280 (by decide)) rfl rfl rfl (by omega) (by omega) (fun _ _ => rfl) (Nat.le_of_ble_eq_true rfl) ?_
  show fg_wp _ _ _ _ _ _ _ _ _ (fg_cp1 (fg_cp1 (fg_cp1 (fg_u2 (fg_u2 μ 277 1 (nI (T 2))) 277 2 (nI h)) 274 278 5) 275 279 5) 276 280 5, fg_rho (R.1, some t, R.2.2.1, R.2.2.2), 304)
  refine fg_aloadn (fg_ft (pc := 66) tb_Folk_copyFrom 36 rfl) rfl ?_
  refine fg_callV (fg_ft (pc := 67) tb_Folk_copyFrom 37 rfl) cf_Folk_56 (fg_isOf ly_277 rfl (fg_lt ly_277 (by decide))) (as := []) (st := []) rfl rfl (Nat.le_of_ble_eq_true rfl) (Nat.le_refl _) (Nat.le_refl _) (ev_Folk_forgetCounts (f := 277) (Or.inr rfl) ?_)
  intro μ' hu hv6
  show fg_wp _ _ _ _ _ _ _ _ _ (μ', fg_rho (R.1, some t, R.2.2.1, R.2.2.2), 304)
  exact fg_vret (fg_ft (pc := 70) tb_Folk_copyFrom 38 rfl) rfl rfl (hQ μ' (fun a ha j => (hu a j (by omega)).trans ((fg_cp1_ne (by omega)).trans ((fg_cp1_ne (by omega)).trans ((fg_cp1_ne (by omega)).trans ((fg_u2ne (by omega)).trans (fg_u2ne (by omega))))))) ⟨(hu 277 1 (Or.inr (by decide))).trans ((fg_cp1_ne (by decide)).trans ((fg_cp1_ne (by decide)).trans ((fg_cp1_ne (by decide)).trans ((fg_u2ns (by decide)).trans fg_u2eq)))), (hu 277 2 (Or.inr (by decide))).trans ((fg_cp1_ne (by decide)).trans ((fg_cp1_ne (by decide)).trans ((fg_cp1_ne (by decide)).trans fg_u2eq))),
    fun p hp => (hu 278 p (Or.inl (by decide))).trans ((fg_cp1_ne (by decide)).trans ((fg_cp1_ne (by decide)).trans ((fg_cp1_lt (by omega)).trans ((fg_u2ne (by decide)).trans ((fg_u2ne (by decide)).trans (hF.2.2.1 p hp)))))),
    fun p hp => (hu 279 p (Or.inl (by decide))).trans ((fg_cp1_ne (by decide)).trans ((fg_cp1_lt (by omega)).trans ((fg_cp1_ne (by decide)).trans ((fg_u2ne (by decide)).trans ((fg_u2ne (by decide)).trans (hF.2.2.2.1 p hp)))))),
    fun p hp => (hu 280 p (Or.inl (by decide))).trans ((fg_cp1_lt (by omega)).trans ((fg_cp1_ne (by decide)).trans ((fg_cp1_ne (by decide)).trans ((fg_u2ne (by decide)).trans ((fg_u2ne (by decide)).trans (hF.2.2.2.2.1 p hp)))))), ⟨hv6.1, hv6.2.1, hv6.2.2.1⟩, hv6.2.2.2.1, hv6.2.2.2.2.1, hv6.2.2.2.2.2⟩)
theorem ev_Folk_isThereB {E : fg_E} {d : Nat} {μ : Nat → Nat → Int32} {R : fg_T4} {Q : Option Value → fg_M → Prop} {t : Nat} {T : Nat → Nat} (ht : fg_isT t) (hT : fg_TW μ t T) (hok : fg_ok T) (hft : fg_rho R 273 0 = some t) (hm : μ 273 1 = nI (T 2)) {p : Nat} (hp5 : p < 5) (hQ : Q (some (.int (fg_bI (p < T 2)))) (μ, fg_rho R, 304)) : fg_Ev E yy_Folk_isThere (d + 1) [.ref 273, .int (nI p)] (μ, fg_rho R, 304) 304 Q := by
  have hb0 := hok.1
  have hb1 := hok.2.1
  have hp := hok.p
  have hq := Nat.two_pow_pos (T 0)
  refine fg_intro (by decide +kernel) (Nat.le_of_ble_eq_true rfl) (fg_okAs rfl) (Nat.le_refl _) ?_
  refine fg_aloadn (fg_ft (pc := 0) tb_Folk_isThere 0 rfl) rfl ?_
  refine fg_getR (fg_ft (pc := 1) tb_Folk_isThere 1 rfl) ff_Folk_9 ly_273 rfl (fg_lt ly_273 (by decide)) hft ?_
  refine fg_ifnull_r (fg_ft (pc := 4) tb_Folk_isThere 2 rfl) ?_
  refine fg_iloadn (fg_ft (pc := 7) tb_Folk_isThere 3 rfl) rfl ?_
  refine fg_if_ltN (tgt := 28) (fg_ft (pc := 8) tb_Folk_isThere 4 rfl) (by decide) (by omega) ?_
  refine fg_iloadn (fg_ft (pc := 11) tb_Folk_isThere 5 rfl) rfl ?_
  refine fg_aloadn (fg_ft (pc := 12) tb_Folk_isThere 6 rfl) rfl ?_
  refine fg_getV (v := (nI (T 2))) (fg_ft (pc := 13) tb_Folk_isThere 7 rfl) ff_Folk_46 ly_273 rfl (fg_lt ly_273 (by decide)) hm ?_
  refine fg_icmp_geN (tgt := 28) (fg_ft (pc := 16) tb_Folk_isThere 8 rfl) (by decide) (by omega) (by omega) (fun c16 => ?_) (fun c16 => ?_)
  · refine fg_iconst (fg_ft (pc := 28) tb_Folk_isThere 14 rfl) ic_0 ?_
    exact fg_zret (fg_ft (pc := 29) tb_Folk_isThere 15 rfl) rfl (by decide) rfl (by rw [fg_bF (by omega)] at hQ; exact hQ)
  · refine fg_iloadn (fg_ft (pc := 19) tb_Folk_isThere 9 rfl) rfl ?_
    refine fg_iconst (fg_ft (pc := 20) tb_Folk_isThere 10 rfl) ic_5 ?_
    refine fg_icmp_geN (tgt := 28) (fg_ft (pc := 21) tb_Folk_isThere 11 rfl) (by decide) (by omega) (by decide) (fun c21 => ?_) (fun c21 => ?_)
    · refine fg_iconst (fg_ft (pc := 28) tb_Folk_isThere 14 rfl) ic_0 ?_
      exact fg_zret (fg_ft (pc := 29) tb_Folk_isThere 15 rfl) rfl (by decide) rfl (by rw [fg_bF (by omega)] at hQ; exact hQ)
    · refine fg_iconst (fg_ft (pc := 24) tb_Folk_isThere 12 rfl) ic_1 ?_
      refine fg_goto (tgt := 29) (fg_ft (pc := 25) tb_Folk_isThere 13 rfl) (by decide) ?_
      exact fg_zret (fg_ft (pc := 29) tb_Folk_isThere 15 rfl) rfl (by decide) rfl (by rw [fg_bT (by omega)] at hQ; exact hQ)
theorem ev_Folk_firstMindB {E : fg_E} {d : Nat} {μ : Nat → Nat → Int32} {R : fg_T4} {Q : Option Value → fg_M → Prop} {t : Nat} {T : Nat → Nat} (ht : fg_isT t) (hT : fg_TW μ t T) (hok : fg_ok T) (hft : fg_rho R 273 0 = some t) (hm : μ 273 1 = nI (T 2)) {p : Nat} (hp5 : p < 5) (hQ : Q (some (.int (nI (if p < T 2 then fg_clo T (T (41 + 3 * p)) else 0)))) (μ, fg_rho R, 304)) : fg_Ev E yy_Folk_firstMind (d + 2) [.ref 273, .int (nI p)] (μ, fg_rho R, 304) 304 Q := by
  have hb0 := hok.1
  have hb1 := hok.2.1
  have hp := hok.p
  have hq := Nat.two_pow_pos (T 0)
  refine fg_intro (by decide +kernel) (Nat.le_of_ble_eq_true rfl) (fg_okAs rfl) (Nat.le_refl _) ?_
  refine fg_aloadn (fg_ft (pc := 0) tb_Folk_firstMind 0 rfl) rfl ?_
  refine fg_iloadn (fg_ft (pc := 1) tb_Folk_firstMind 1 rfl) rfl ?_
  refine fg_callV (fg_ft (pc := 2) tb_Folk_firstMind 2 rfl) cf_Folk_80 (fg_isOf ly_273 rfl (fg_lt ly_273 (by decide))) (as := [.int (nI p)]) (st := []) rfl rfl (Nat.le_of_ble_eq_true rfl) (Nat.le_refl _) (Nat.le_refl _) (ev_Folk_isThereB ht hT hok hft hm (p := p) hp5 ?_)
  refine fg_ifB_eq (tgt := 30) (fg_ft (pc := 5) tb_Folk_firstMind 3 rfl) (by decide) (fun c5 => ?_) (fun c5 => ?_)
  · refine fg_iconst (fg_ft (pc := 30) tb_Folk_firstMind 14 rfl) ic_0 ?_
    exact fg_iret (fg_ft (pc := 31) tb_Folk_firstMind 15 rfl) rfl rfl (by rw [if_neg c5] at hQ; exact hQ)
  · refine fg_aloadn (fg_ft (pc := 8) tb_Folk_firstMind 4 rfl) rfl ?_
    refine fg_getR (fg_ft (pc := 9) tb_Folk_firstMind 5 rfl) ff_Folk_9 ly_273 rfl (fg_lt ly_273 (by decide)) hft ?_
    refine fg_aloadn (fg_ft (pc := 12) tb_Folk_firstMind 6 rfl) rfl ?_
    refine fg_getR (fg_ft (pc := 13) tb_Folk_firstMind 7 rfl) ff_Folk_9 ly_273 rfl (fg_lt ly_273 (by decide)) hft ?_
    refine fg_getR (fg_ft (pc := 16) tb_Folk_firstMind 8 rfl) ff_Folk_29 (tT_lay ht) rfl (fg_lt (tT_lay ht) (by decide)) (tT_r3 ht) ?_
    refine fg_iloadn (fg_ft (pc := 19) tb_Folk_firstMind 9 rfl) rfl ?_
    refine fg_iconst (fg_ft (pc := 20) tb_Folk_firstMind 10 rfl) ic_1 ?_
    refine fg_callV (fg_ft (pc := 21) tb_Folk_firstMind 11 rfl) cf_Folk_84 (fg_isOf ((tT_w3 (R := R) ht).1) rfl (fg_lt ((tT_w3 (R := R) ht).1) (by decide))) (as := [.int (nI p), .int (nI 1)]) (st := [.ref t]) rfl rfl (Nat.le_of_ble_eq_true rfl) (Nat.le_refl _) (Nat.le_refl _) (ev_Rows_cell (tT_w3 (R := R) ht) hT.2.2.1.1 hT.2.2.1.2.1 (by have := hok.2.1; omega) (by decide) (by have := hok.2.1; omega) (i := p) (j := 1) (by omega) (by decide) (hT.person1 (by omega)) ?_)
    refine fg_callV (fg_ft (pc := 24) tb_Folk_firstMind 12 rfl) cf_Folk_87 (fg_isOf (tT_lay ht) rfl (fg_lt (tT_lay ht) (by decide))) (as := [.int (nI (T (41 + 3 * p)))]) (st := []) rfl rfl (Nat.le_of_ble_eq_true rfl) (Nat.le_refl _) (Nat.le_refl _) (ev_Town_close ht hT hok (s := (T (41 + 3 * p))) ((hok.2.2.2.1 p c5).2.1) ?_)
    refine fg_goto (tgt := 31) (fg_ft (pc := 27) tb_Folk_firstMind 13 rfl) (by decide) ?_
    exact fg_iret (fg_ft (pc := 31) tb_Folk_firstMind 15 rfl) rfl rfl (by rw [if_pos c5] at hQ; exact hQ)
theorem ev_Folk_begin {E : fg_E} {d : Nat} {μ : Nat → Nat → Int32} {R : fg_T4} {Q : Option Value → fg_M → Prop} {t : Nat} {T : Nat → Nat} (ht : fg_isT t) (hT : fg_TW μ t T) (hok : fg_ok T)  (hQ : ∀ μ' : Nat → Nat → Int32, fg_agF 273 μ μ' → fg_FZ μ' 273 T 0 ((fun p => fg_clo T (T (41 + 3 * p))), 0, 0, 0) (fun _ => 0) (fun _ => 0) (none, 0, 0) → Q none (μ', fg_rho (some t, R.2.1, R.2.2.1, R.2.2.2), 304)) : fg_Ev E yy_Folk_begin (d + 3) [.ref 273, .ref t] (μ, fg_rho R, 304) 304 Q := by
  have hb0 := hok.1
  have hb1 := hok.2.1
  have hp := hok.p
  have hq := Nat.two_pow_pos (T 0)
  have loop : ∀ (m n : Nat) (ν : Nat → Nat → Int32), 5 - n < m → n ≤ 5 → fg_agF 273 μ ν → ν 273 1 = nI (T 2) → ν 273 2 = nI 0 → (∀ p, p < n → ν 274 p = nI (if p < T 2 then fg_clo T (T (41 + 3 * p)) else 0) ∧ ν 275 p = nI 0 ∧ ν 276 p = nI 0) → fg_wp E yy_Folk_begin (d + 3) 304 304 Q 27 [.ref 273, .ref t, .int (nI n)] [] (ν, fg_rho (some t, R.2.1, R.2.2.1, R.2.2.2), 304) := by
    intro m
    induction m with
    | zero => intro n ν h; exact absurd h (Nat.not_lt_zero _)
    | succ m ih =>
      intro n ν hmm hn hag hm hh hc
      have hTn := fg_TWp.agF (f := 273) ht (Or.inl rfl) hT hag
      refine fg_iloadn (fg_ft (pc := 27) tb_Folk_begin 15 rfl) rfl ?_
      refine fg_iconst (fg_ft (pc := 28) tb_Folk_begin 16 rfl) ic_5 ?_
      refine fg_icmp_geN (tgt := 63) (fg_ft (pc := 29) tb_Folk_begin 17 rfl) (by decide) (by omega) (by decide) (fun c29 => ?_) (fun c29 => ?_)
      · refine fg_aloadn (fg_ft (pc := 63) tb_Folk_begin 37 rfl) rfl ?_
        refine fg_callV (fg_ft (pc := 64) tb_Folk_begin 38 rfl) cf_Folk_56 (fg_isOf ly_273 rfl (fg_lt ly_273 (by decide))) (as := []) (st := []) rfl rfl (Nat.le_of_ble_eq_true rfl) (Nat.le_refl _) (Nat.le_refl _) (ev_Folk_forgetCounts (f := 273) (Or.inl rfl) ?_)
        intro μ' hu hv6
        show fg_wp _ _ _ _ _ _ _ _ _ (μ', fg_rho (some t, R.2.1, R.2.2.1, R.2.2.2), 304)
        exact fg_vret (fg_ft (pc := 67) tb_Folk_begin 39 rfl) rfl rfl (hQ μ' (fun a ha j => (hu a j (by omega)).trans (hag a ha j)) ⟨(hu 273 1 (Or.inr (by decide))).trans hm, (hu 273 2 (Or.inr (by decide))).trans hh, fun p hp => (hu 274 p (Or.inl (by decide))).trans (((hc p (by omega)).1).trans (by rw [if_pos hp])), fun p hp => (hu 275 p (Or.inl (by decide))).trans (hc p (by omega)).2.1, fun p hp => (hu 276 p (Or.inl (by decide))).trans (hc p (by omega)).2.2, ⟨hv6.1, hv6.2.1, hv6.2.2.1⟩, hv6.2.2.2.1, hv6.2.2.2.2.1, hv6.2.2.2.2.2⟩)
      · refine fg_aloadn (fg_ft (pc := 32) tb_Folk_begin 18 rfl) rfl ?_
        refine fg_getR (fg_ft (pc := 33) tb_Folk_begin 19 rfl) ff_Folk_15 ly_273 rfl (fg_lt ly_273 (by decide)) (rh_273_3 (some t, R.2.1, R.2.2.1, R.2.2.2)) ?_
        refine fg_iloadn (fg_ft (pc := 36) tb_Folk_begin 20 rfl) rfl ?_
        refine fg_aloadn (fg_ft (pc := 37) tb_Folk_begin 21 rfl) rfl ?_
        refine fg_iloadn (fg_ft (pc := 38) tb_Folk_begin 22 rfl) rfl ?_
        refine fg_callV (fg_ft (pc := 39) tb_Folk_begin 23 rfl) cf_Folk_52 (fg_isOf ly_273 rfl (fg_lt ly_273 (by decide))) (as := [.int (nI n)]) (st := [.int (nI n), .ref 274]) rfl rfl (Nat.le_of_ble_eq_true rfl) (Nat.le_refl _) (Nat.le_refl _) (ev_Folk_firstMindB ht hTn hok (R := (some t, R.2.1, R.2.2.1, R.2.2.2)) rfl hm (p := n) (by omega) ?_)
        refine fg_iastN (fg_ft (pc := 42) tb_Folk_begin 24 rfl) ly_274 (fg_lt ly_274 (by decide)) (by omega) ?_
        show fg_wp _ _ _ _ _ _ _ _ _ (fg_u2 ν 274 n (nI (if n < T 2 then fg_clo T (T (41 + 3 * n)) else 0)), fg_rho (some t, R.2.1, R.2.2.1, R.2.2.2), 304)
        refine fg_aloadn (fg_ft (pc := 43) tb_Folk_begin 25 rfl) rfl ?_
        refine fg_getR (fg_ft (pc := 44) tb_Folk_begin 26 rfl) ff_Folk_19 ly_273 rfl (fg_lt ly_273 (by decide)) (rh_273_4 (some t, R.2.1, R.2.2.1, R.2.2.2)) ?_
        refine fg_iloadn (fg_ft (pc := 47) tb_Folk_begin 27 rfl) rfl ?_
        refine fg_iconst (fg_ft (pc := 48) tb_Folk_begin 28 rfl) ic_0 ?_
        refine fg_iastN (fg_ft (pc := 49) tb_Folk_begin 29 rfl) ly_275 (fg_lt ly_275 (by decide)) (by omega) ?_
        show fg_wp _ _ _ _ _ _ _ _ _ (fg_u2 (fg_u2 ν 274 n (nI (if n < T 2 then fg_clo T (T (41 + 3 * n)) else 0))) 275 n (nI 0), fg_rho (some t, R.2.1, R.2.2.1, R.2.2.2), 304)
        refine fg_aloadn (fg_ft (pc := 50) tb_Folk_begin 30 rfl) rfl ?_
        refine fg_getR (fg_ft (pc := 51) tb_Folk_begin 31 rfl) ff_Folk_22 ly_273 rfl (fg_lt ly_273 (by decide)) (rh_273_5 (some t, R.2.1, R.2.2.1, R.2.2.2)) ?_
        refine fg_iloadn (fg_ft (pc := 54) tb_Folk_begin 32 rfl) rfl ?_
        refine fg_iconst (fg_ft (pc := 55) tb_Folk_begin 33 rfl) ic_0 ?_
        refine fg_iastN (fg_ft (pc := 56) tb_Folk_begin 34 rfl) ly_276 (fg_lt ly_276 (by decide)) (by omega) ?_
        show fg_wp _ _ _ _ _ _ _ _ _ (fg_u2 (fg_u2 (fg_u2 ν 274 n (nI (if n < T 2 then fg_clo T (T (41 + 3 * n)) else 0))) 275 n (nI 0)) 276 n (nI 0), fg_rho (some t, R.2.1, R.2.2.1, R.2.2.2), 304)
        refine fg_iincN (fg_ft (pc := 57) tb_Folk_begin 35 rfl) rfl ic_1 rfl ?_
        refine fg_goto (tgt := 27) (fg_ft (pc := 60) tb_Folk_begin 36 rfl) (by decide) ?_
        exact ih (n + 1) _ (by omega) (by omega) (fg_agF_tr hag (fg_agF_tr (fg_agF_u (by omega) (by omega)) (fg_agF_tr (fg_agF_u (by omega) (by omega)) (fg_agF_u (by omega) (by omega))))) ((fg_u2ne (by decide)).trans ((fg_u2ne (by decide)).trans ((fg_u2ne (by decide)).trans hm))) ((fg_u2ne (by decide)).trans ((fg_u2ne (by decide)).trans ((fg_u2ne (by decide)).trans hh))) (fun p hp => by
          rcases Nat.decEq p n with e | e
          · have hc := hc p (by omega)
            exact ⟨(fg_u2nx (by omega)).trans ((fg_u2nx (by omega)).trans ((fg_u2nx (by omega)).trans hc.1)), (fg_u2nx (by omega)).trans ((fg_u2nx (by omega)).trans ((fg_u2nx (by omega)).trans hc.2.1)), (fg_u2nx (by omega)).trans ((fg_u2nx (by omega)).trans ((fg_u2nx (by omega)).trans hc.2.2))⟩
          · subst e
            exact ⟨(fg_u2ne (by decide)).trans ((fg_u2ne (by decide)).trans fg_u2eq), (fg_u2ne (by decide)).trans fg_u2eq, fg_u2eq⟩)
  refine fg_intro (by decide +kernel) (Nat.le_of_ble_eq_true rfl) (fg_okAs rfl) (Nat.le_refl _) ?_
  refine fg_aloadn (fg_ft (pc := 0) tb_Folk_begin 0 rfl) rfl ?_
  refine fg_aloadn (fg_ft (pc := 1) tb_Folk_begin 1 rfl) rfl ?_
  refine fg_putFo (fg_ft (pc := 2) tb_Folk_begin 2 rfl) ff_Folk_9 ly_273 rfl (fg_lt ly_273 (by decide)) ?_
  show fg_wp _ _ _ _ _ _ _ _ _ (μ, fg_rho (some t, R.2.1, R.2.2.1, R.2.2.2), 304)
  refine fg_aloadn (fg_ft (pc := 5) tb_Folk_begin 3 rfl) rfl ?_
  refine fg_aloadn (fg_ft (pc := 6) tb_Folk_begin 4 rfl) rfl ?_
  refine fg_getR (fg_ft (pc := 7) tb_Folk_begin 5 rfl) ff_Folk_29 (tT_lay ht) rfl (fg_lt (tT_lay ht) (by decide)) (tT_r3 ht) ?_
  refine fg_getV (v := (nI (T 2))) (fg_ft (pc := 10) tb_Folk_begin 6 rfl) ff_Folk_35 ((tT_w3 (R := R) ht).1) rfl (fg_lt ((tT_w3 (R := R) ht).1) (by decide)) hT.2.2.1.2.1 ?_
  refine fg_iconst (fg_ft (pc := 13) tb_Folk_begin 7 rfl) ic_5 ?_
  refine fg_mminN (fg_ft (pc := 14) tb_Folk_begin 8 rfl) cf_Folk_40 (Nat.le_of_ble_eq_true rfl) (by omega) (by decide) ?_
  refine fg_putI (fg_ft (pc := 17) tb_Folk_begin 9 rfl) ff_Folk_46 ly_273 rfl (fg_lt ly_273 (by decide)) (fg_nokI _) (fun _ _ h => by cases h; rfl) ?_
  show fg_wp _ _ _ _ _ _ _ _ _ (fg_u2 μ 273 1 (nI (min (T 2) 5)), fg_rho (some t, R.2.1, R.2.2.1, R.2.2.2), 304)
  rw [show min (T 2) 5 = T 2 by omega]
  refine fg_aloadn (fg_ft (pc := 20) tb_Folk_begin 10 rfl) rfl ?_
  refine fg_iconst (fg_ft (pc := 21) tb_Folk_begin 11 rfl) ic_0 ?_
  refine fg_putI (fg_ft (pc := 22) tb_Folk_begin 12 rfl) ff_Folk_49 ly_273 rfl (fg_lt ly_273 (by decide)) (fg_nokI _) (fun _ _ h => by cases h; rfl) ?_
  show fg_wp _ _ _ _ _ _ _ _ _ (fg_u2 (fg_u2 μ 273 1 (nI (T 2))) 273 2 (nI 0), fg_rho (some t, R.2.1, R.2.2.1, R.2.2.2), 304)
  refine fg_iconst (fg_ft (pc := 25) tb_Folk_begin 13 rfl) ic_0 ?_
  refine fg_istoren (fg_ft (pc := 26) tb_Folk_begin 14 rfl) (Nat.le_of_ble_eq_true rfl) ?_
  exact loop (5 + 1) 0 _ (by omega) (by omega) (fg_agF_tr (fg_agF_u (by omega) (by omega)) (fg_agF_u (by omega) (by omega))) ((fg_u2ns (by decide)).trans fg_u2eq) fg_u2eq (fun p hp => absurd hp (Nat.not_lt_zero _))
theorem fg_zok0 {T : Nat → Nat} (hok : fg_ok T) : fg_zok T 0 ((fun p => fg_clo T (T (41 + 3 * p))), 0, 0, 0) (fun _ => 0) := ⟨by decide, fun p hp => ⟨fg_clo_lt hok (hok.2.2.2.1 p hp).2.1, (fg_clo_is hok (hok.2.2.2.1 p hp).2.1).2.1⟩, fun _ _ => Nat.two_pow_pos _⟩
