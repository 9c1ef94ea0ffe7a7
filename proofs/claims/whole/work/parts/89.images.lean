theorem ev_Fb_image0 {E : fg_E} {d : Nat} {μ : Nat → Nat → Int32} {R : fg_T4} {Q : Option Value → fg_M → Prop} {k : Nat} (hk : k < 2 ^ 32) (h3 : 3 ≤ k) (hQ : Q (some (.int (nI 0))) (μ, fg_rho R, 304)) : fg_Ev E yy_Fb_image (d + 5) [.ref 100, .int (nI k)] (μ, fg_rho R, 304) 304 Q := by
  refine fg_intro (by decide +kernel) (Nat.le_of_ble_eq_true rfl) (fg_okAs rfl) (Nat.le_refl _) ?_
  refine fg_iloadn (fg_ft (pc := 0) tb_Fb_image 0 rfl) rfl ?_
  refine fg_if_ltW (tgt := 22) (fg_ft (pc := 1) tb_Fb_image 1 rfl) (by decide) (hk) (fun c1 => ?_) (fun c1 => ?_)
  · refine fg_iconst (fg_ft (pc := 22) tb_Fb_image 12 rfl) ic_0 ?_
    exact fg_zret (fg_ft (pc := 23) tb_Fb_image 13 rfl) rfl (by decide) rfl (hQ)
  · refine fg_iloadn (fg_ft (pc := 4) tb_Fb_image 2 rfl) rfl ?_
    refine fg_aloadn (fg_ft (pc := 5) tb_Fb_image 3 rfl) rfl ?_
    refine fg_getR (fg_ft (pc := 6) tb_Fb_image 4 rfl) ff_Fb_16 ly_100 rfl (fg_lt ly_100 (by decide)) (rh_100_1 R) ?_
    refine fg_alen (fg_ft (pc := 9) tb_Fb_image 5 rfl) ly_139 (by decide) (fg_lt ly_139 (by decide)) ?_
    refine fg_icmp_geW (tgt := 22) (fg_ft (pc := 10) tb_Fb_image 6 rfl) (by decide) (hk) (by decide) (fun c10 => ?_) (fun c10 => (absurd c10 (by omega)))
    refine fg_iconst (fg_ft (pc := 22) tb_Fb_image 12 rfl) ic_0 ?_
    exact fg_zret (fg_ft (pc := 23) tb_Fb_image 13 rfl) rfl (by decide) rfl (hQ)
theorem ev_Fb_image1_0 {E : fg_E} {d : Nat} {μ : Nat → Nat → Int32} {R : fg_T4} {Q : Option Value → fg_M → Prop} (hfit : ∀ i, i < 600 → fits (fg_aty (11 - 10)) (.int (μ 102 i)) = true) (hQ : ∀ μ' : Nat → Nat → Int32, fg_KC μ 101 μ' 140 → Q (some (.int (nI 1))) (fg_u2 μ' 254 0 (vp_nar .boolean (nI 1)), fg_rho R, 304)) : fg_Ev E yy_Fb_image (d + 5) [.ref 100, .int (nI 0)] (μ, fg_rho R, 304) 304 Q := by
  refine fg_intro (by decide +kernel) (Nat.le_of_ble_eq_true rfl) (fg_okAs rfl) (Nat.le_refl _) ?_
  refine fg_iloadn (fg_ft (pc := 0) tb_Fb_image 0 rfl) rfl ?_
  refine fg_if_ltN (tgt := 22) (fg_ft (pc := 1) tb_Fb_image 1 rfl) (by decide) (by decide) ?_
  refine fg_iloadn (fg_ft (pc := 4) tb_Fb_image 2 rfl) rfl ?_
  refine fg_aloadn (fg_ft (pc := 5) tb_Fb_image 3 rfl) rfl ?_
  refine fg_getR (fg_ft (pc := 6) tb_Fb_image 4 rfl) ff_Fb_16 ly_100 rfl (fg_lt ly_100 (by decide)) (rh_100_1 R) ?_
  refine fg_alen (fg_ft (pc := 9) tb_Fb_image 5 rfl) ly_139 (by decide) (fg_lt ly_139 (by decide)) ?_
  refine fg_icmp_geN (tgt := 22) (fg_ft (pc := 10) tb_Fb_image 6 rfl) (by decide) (by decide) (by decide) (fun c10 => (absurd c10 (by decide))) (fun c10 => ?_)
  refine fg_aloadn (fg_ft (pc := 13) tb_Fb_image 7 rfl) rfl ?_
  refine fg_getR (fg_ft (pc := 14) tb_Fb_image 8 rfl) ff_Fb_16 ly_100 rfl (fg_lt ly_100 (by decide)) (rh_100_1 R) ?_
  refine fg_iloadn (fg_ft (pc := 17) tb_Fb_image 9 rfl) rfl ?_
  refine fg_aaldN (fg_ft (pc := 18) tb_Fb_image 10 rfl) ly_139 (by decide) (fg_lt ly_139 (by decide)) (by omega) (rh_139_0 R) ?_
  refine fg_ifnonnull (tgt := 24) (fg_ft (pc := 19) tb_Fb_image 11 rfl) (by decide) ?_
  refine fg_aloadn (fg_ft (pc := 24) tb_Fb_image 14 rfl) rfl ?_
  refine fg_getR (fg_ft (pc := 25) tb_Fb_image 15 rfl) ff_Fb_16 ly_100 rfl (fg_lt ly_100 (by decide)) (rh_100_1 R) ?_
  refine fg_iloadn (fg_ft (pc := 28) tb_Fb_image 16 rfl) rfl ?_
  refine fg_aaldN (fg_ft (pc := 29) tb_Fb_image 17 rfl) ly_139 (by decide) (fg_lt ly_139 (by decide)) (by omega) (rh_139_0 R) ?_
  refine fg_aloadn (fg_ft (pc := 30) tb_Fb_image 18 rfl) rfl ?_
  refine fg_getR (fg_ft (pc := 31) tb_Fb_image 19 rfl) ff_Fb_12 ly_100 rfl (fg_lt ly_100 (by decide)) (rh_100_0 R) ?_
  refine fg_callV (fg_ft (pc := 34) tb_Fb_image 20 rfl) cf_Fb_152 (fg_isOf ly_140 rfl (fg_lt ly_140 (by decide))) (as := [.ref 101]) (st := []) rfl rfl (Nat.le_of_ble_eq_true rfl) (Nat.le_refl _) (Nat.le_refl _) (ev_Told_copy_140_101 hfit ?_)
  intro μ1 hk1
  show fg_wp _ _ _ _ _ _ _ _ _ (μ1, fg_rho R, 304)
  refine fg_aloadn (fg_ft (pc := 37) tb_Fb_image 21 rfl) rfl ?_
  refine fg_getR (fg_ft (pc := 38) tb_Fb_image 22 rfl) ff_Fb_20 ly_100 rfl (fg_lt ly_100 (by decide)) (rh_100_2 R) ?_
  refine fg_iloadn (fg_ft (pc := 41) tb_Fb_image 23 rfl) rfl ?_
  refine fg_iconst (fg_ft (pc := 42) tb_Fb_image 24 rfl) ic_1 ?_
  refine fg_zastN (fg_ft (pc := 43) tb_Fb_image 25 rfl) ly_254 (fg_lt ly_254 (by decide)) (by omega) ?_
  show fg_wp _ _ _ _ _ _ _ _ _ (fg_u2 μ1 254 0 (vp_nar .boolean (nI 1)), fg_rho R, 304)
  refine fg_iconst (fg_ft (pc := 44) tb_Fb_image 26 rfl) ic_1 ?_
  exact fg_zret (fg_ft (pc := 45) tb_Fb_image 27 rfl) rfl (by decide) rfl (hQ μ1 hk1)
theorem ev_Fb_image1_1 {E : fg_E} {d : Nat} {μ : Nat → Nat → Int32} {R : fg_T4} {Q : Option Value → fg_M → Prop} (hfit : ∀ i, i < 600 → fits (fg_aty (11 - 10)) (.int (μ 102 i)) = true) (hQ : ∀ μ' : Nat → Nat → Int32, fg_KC μ 101 μ' 178 → Q (some (.int (nI 1))) (fg_u2 μ' 254 1 (vp_nar .boolean (nI 1)), fg_rho R, 304)) : fg_Ev E yy_Fb_image (d + 5) [.ref 100, .int (nI 1)] (μ, fg_rho R, 304) 304 Q := by
  refine fg_intro (by decide +kernel) (Nat.le_of_ble_eq_true rfl) (fg_okAs rfl) (Nat.le_refl _) ?_
  refine fg_iloadn (fg_ft (pc := 0) tb_Fb_image 0 rfl) rfl ?_
  refine fg_if_ltN (tgt := 22) (fg_ft (pc := 1) tb_Fb_image 1 rfl) (by decide) (by decide) ?_
  refine fg_iloadn (fg_ft (pc := 4) tb_Fb_image 2 rfl) rfl ?_
  refine fg_aloadn (fg_ft (pc := 5) tb_Fb_image 3 rfl) rfl ?_
  refine fg_getR (fg_ft (pc := 6) tb_Fb_image 4 rfl) ff_Fb_16 ly_100 rfl (fg_lt ly_100 (by decide)) (rh_100_1 R) ?_
  refine fg_alen (fg_ft (pc := 9) tb_Fb_image 5 rfl) ly_139 (by decide) (fg_lt ly_139 (by decide)) ?_
  refine fg_icmp_geN (tgt := 22) (fg_ft (pc := 10) tb_Fb_image 6 rfl) (by decide) (by decide) (by decide) (fun c10 => (absurd c10 (by decide))) (fun c10 => ?_)
  refine fg_aloadn (fg_ft (pc := 13) tb_Fb_image 7 rfl) rfl ?_
  refine fg_getR (fg_ft (pc := 14) tb_Fb_image 8 rfl) ff_Fb_16 ly_100 rfl (fg_lt ly_100 (by decide)) (rh_100_1 R) ?_
  refine fg_iloadn (fg_ft (pc := 17) tb_Fb_image 9 rfl) rfl ?_
  refine fg_aaldN (fg_ft (pc := 18) tb_Fb_image 10 rfl) ly_139 (by decide) (fg_lt ly_139 (by decide)) (by omega) (rh_139_1 R) ?_
  refine fg_ifnonnull (tgt := 24) (fg_ft (pc := 19) tb_Fb_image 11 rfl) (by decide) ?_
  refine fg_aloadn (fg_ft (pc := 24) tb_Fb_image 14 rfl) rfl ?_
  refine fg_getR (fg_ft (pc := 25) tb_Fb_image 15 rfl) ff_Fb_16 ly_100 rfl (fg_lt ly_100 (by decide)) (rh_100_1 R) ?_
  refine fg_iloadn (fg_ft (pc := 28) tb_Fb_image 16 rfl) rfl ?_
  refine fg_aaldN (fg_ft (pc := 29) tb_Fb_image 17 rfl) ly_139 (by decide) (fg_lt ly_139 (by decide)) (by omega) (rh_139_1 R) ?_
  refine fg_aloadn (fg_ft (pc := 30) tb_Fb_image 18 rfl) rfl ?_
  refine fg_getR (fg_ft (pc := 31) tb_Fb_image 19 rfl) ff_Fb_12 ly_100 rfl (fg_lt ly_100 (by decide)) (rh_100_0 R) ?_
  refine fg_callV (fg_ft (pc := 34) tb_Fb_image 20 rfl) cf_Fb_152 (fg_isOf ly_178 rfl (fg_lt ly_178 (by decide))) (as := [.ref 101]) (st := []) rfl rfl (Nat.le_of_ble_eq_true rfl) (Nat.le_refl _) (Nat.le_refl _) (ev_Told_copy_178_101 hfit ?_)
  intro μ1 hk1
  show fg_wp _ _ _ _ _ _ _ _ _ (μ1, fg_rho R, 304)
  refine fg_aloadn (fg_ft (pc := 37) tb_Fb_image 21 rfl) rfl ?_
  refine fg_getR (fg_ft (pc := 38) tb_Fb_image 22 rfl) ff_Fb_20 ly_100 rfl (fg_lt ly_100 (by decide)) (rh_100_2 R) ?_
  refine fg_iloadn (fg_ft (pc := 41) tb_Fb_image 23 rfl) rfl ?_
  refine fg_iconst (fg_ft (pc := 42) tb_Fb_image 24 rfl) ic_1 ?_
  refine fg_zastN (fg_ft (pc := 43) tb_Fb_image 25 rfl) ly_254 (fg_lt ly_254 (by decide)) (by omega) ?_
  show fg_wp _ _ _ _ _ _ _ _ _ (fg_u2 μ1 254 1 (vp_nar .boolean (nI 1)), fg_rho R, 304)
  refine fg_iconst (fg_ft (pc := 44) tb_Fb_image 26 rfl) ic_1 ?_
  exact fg_zret (fg_ft (pc := 45) tb_Fb_image 27 rfl) rfl (by decide) rfl (hQ μ1 hk1)
theorem ev_Fb_image1_2 {E : fg_E} {d : Nat} {μ : Nat → Nat → Int32} {R : fg_T4} {Q : Option Value → fg_M → Prop} (hfit : ∀ i, i < 600 → fits (fg_aty (11 - 10)) (.int (μ 102 i)) = true) (hQ : ∀ μ' : Nat → Nat → Int32, fg_KC μ 101 μ' 216 → Q (some (.int (nI 1))) (fg_u2 μ' 254 2 (vp_nar .boolean (nI 1)), fg_rho R, 304)) : fg_Ev E yy_Fb_image (d + 5) [.ref 100, .int (nI 2)] (μ, fg_rho R, 304) 304 Q := by
  refine fg_intro (by decide +kernel) (Nat.le_of_ble_eq_true rfl) (fg_okAs rfl) (Nat.le_refl _) ?_
  refine fg_iloadn (fg_ft (pc := 0) tb_Fb_image 0 rfl) rfl ?_
  refine fg_if_ltN (tgt := 22) (fg_ft (pc := 1) tb_Fb_image 1 rfl) (by decide) (by decide) ?_
  refine fg_iloadn (fg_ft (pc := 4) tb_Fb_image 2 rfl) rfl ?_
  refine fg_aloadn (fg_ft (pc := 5) tb_Fb_image 3 rfl) rfl ?_
  refine fg_getR (fg_ft (pc := 6) tb_Fb_image 4 rfl) ff_Fb_16 ly_100 rfl (fg_lt ly_100 (by decide)) (rh_100_1 R) ?_
  refine fg_alen (fg_ft (pc := 9) tb_Fb_image 5 rfl) ly_139 (by decide) (fg_lt ly_139 (by decide)) ?_
  refine fg_icmp_geN (tgt := 22) (fg_ft (pc := 10) tb_Fb_image 6 rfl) (by decide) (by decide) (by decide) (fun c10 => (absurd c10 (by decide))) (fun c10 => ?_)
  refine fg_aloadn (fg_ft (pc := 13) tb_Fb_image 7 rfl) rfl ?_
  refine fg_getR (fg_ft (pc := 14) tb_Fb_image 8 rfl) ff_Fb_16 ly_100 rfl (fg_lt ly_100 (by decide)) (rh_100_1 R) ?_
  refine fg_iloadn (fg_ft (pc := 17) tb_Fb_image 9 rfl) rfl ?_
  refine fg_aaldN (fg_ft (pc := 18) tb_Fb_image 10 rfl) ly_139 (by decide) (fg_lt ly_139 (by decide)) (by omega) (rh_139_2 R) ?_
  refine fg_ifnonnull (tgt := 24) (fg_ft (pc := 19) tb_Fb_image 11 rfl) (by decide) ?_
  refine fg_aloadn (fg_ft (pc := 24) tb_Fb_image 14 rfl) rfl ?_
  refine fg_getR (fg_ft (pc := 25) tb_Fb_image 15 rfl) ff_Fb_16 ly_100 rfl (fg_lt ly_100 (by decide)) (rh_100_1 R) ?_
  refine fg_iloadn (fg_ft (pc := 28) tb_Fb_image 16 rfl) rfl ?_
  refine fg_aaldN (fg_ft (pc := 29) tb_Fb_image 17 rfl) ly_139 (by decide) (fg_lt ly_139 (by decide)) (by omega) (rh_139_2 R) ?_
  refine fg_aloadn (fg_ft (pc := 30) tb_Fb_image 18 rfl) rfl ?_
  refine fg_getR (fg_ft (pc := 31) tb_Fb_image 19 rfl) ff_Fb_12 ly_100 rfl (fg_lt ly_100 (by decide)) (rh_100_0 R) ?_
  refine fg_callV (fg_ft (pc := 34) tb_Fb_image 20 rfl) cf_Fb_152 (fg_isOf ly_216 rfl (fg_lt ly_216 (by decide))) (as := [.ref 101]) (st := []) rfl rfl (Nat.le_of_ble_eq_true rfl) (Nat.le_refl _) (Nat.le_refl _) (ev_Told_copy_216_101 hfit ?_)
  intro μ1 hk1
  show fg_wp _ _ _ _ _ _ _ _ _ (μ1, fg_rho R, 304)
  refine fg_aloadn (fg_ft (pc := 37) tb_Fb_image 21 rfl) rfl ?_
  refine fg_getR (fg_ft (pc := 38) tb_Fb_image 22 rfl) ff_Fb_20 ly_100 rfl (fg_lt ly_100 (by decide)) (rh_100_2 R) ?_
  refine fg_iloadn (fg_ft (pc := 41) tb_Fb_image 23 rfl) rfl ?_
  refine fg_iconst (fg_ft (pc := 42) tb_Fb_image 24 rfl) ic_1 ?_
  refine fg_zastN (fg_ft (pc := 43) tb_Fb_image 25 rfl) ly_254 (fg_lt ly_254 (by decide)) (by omega) ?_
  show fg_wp _ _ _ _ _ _ _ _ _ (fg_u2 μ1 254 2 (vp_nar .boolean (nI 1)), fg_rho R, 304)
  refine fg_iconst (fg_ft (pc := 44) tb_Fb_image 26 rfl) ic_1 ?_
  exact fg_zret (fg_ft (pc := 45) tb_Fb_image 27 rfl) rfl (by decide) rfl (hQ μ1 hk1)
theorem ev_Fb_back0 {E : fg_E} {d : Nat} {μ : Nat → Nat → Int32} {R : fg_T4} {Q : Option Value → fg_M → Prop} {k : Nat} (hk : k < 2 ^ 32) (h3 : 3 ≤ k) (hQ : Q (some (.int (nI 0))) (μ, fg_rho R, 304)) : fg_Ev E yy_Fb_back (d + 5) [.ref 100, .int (nI k)] (μ, fg_rho R, 304) 304 Q := by
  refine fg_intro (by decide +kernel) (Nat.le_of_ble_eq_true rfl) (fg_okAs rfl) (Nat.le_refl _) ?_
  refine fg_iloadn (fg_ft (pc := 0) tb_Fb_back 0 rfl) rfl ?_
  refine fg_if_ltW (tgt := 31) (fg_ft (pc := 1) tb_Fb_back 1 rfl) (by decide) (hk) (fun c1 => ?_) (fun c1 => ?_)
  · refine fg_iconst (fg_ft (pc := 31) tb_Fb_back 17 rfl) ic_0 ?_
    exact fg_zret (fg_ft (pc := 32) tb_Fb_back 18 rfl) rfl (by decide) rfl (hQ)
  · refine fg_iloadn (fg_ft (pc := 4) tb_Fb_back 2 rfl) rfl ?_
    refine fg_aloadn (fg_ft (pc := 5) tb_Fb_back 3 rfl) rfl ?_
    refine fg_getR (fg_ft (pc := 6) tb_Fb_back 4 rfl) ff_Fb_16 ly_100 rfl (fg_lt ly_100 (by decide)) (rh_100_1 R) ?_
    refine fg_alen (fg_ft (pc := 9) tb_Fb_back 5 rfl) ly_139 (by decide) (fg_lt ly_139 (by decide)) ?_
    refine fg_icmp_geW (tgt := 31) (fg_ft (pc := 10) tb_Fb_back 6 rfl) (by decide) (hk) (by decide) (fun c10 => ?_) (fun c10 => (absurd c10 (by omega)))
    refine fg_iconst (fg_ft (pc := 31) tb_Fb_back 17 rfl) ic_0 ?_
    exact fg_zret (fg_ft (pc := 32) tb_Fb_back 18 rfl) rfl (by decide) rfl (hQ)
theorem ev_Fb_backN_0 {E : fg_E} {d : Nat} {μ : Nat → Nat → Int32} {R : fg_T4} {Q : Option Value → fg_M → Prop} (h1 : μ 254 0 = 0) (hQ : Q (some (.int (nI 0))) (μ, fg_rho R, 304)) : fg_Ev E yy_Fb_back (d + 5) [.ref 100, .int (nI 0)] (μ, fg_rho R, 304) 304 Q := by
  refine fg_intro (by decide +kernel) (Nat.le_of_ble_eq_true rfl) (fg_okAs rfl) (Nat.le_refl _) ?_
  refine fg_iloadn (fg_ft (pc := 0) tb_Fb_back 0 rfl) rfl ?_
  refine fg_if_ltN (tgt := 31) (fg_ft (pc := 1) tb_Fb_back 1 rfl) (by decide) (by decide) ?_
  refine fg_iloadn (fg_ft (pc := 4) tb_Fb_back 2 rfl) rfl ?_
  refine fg_aloadn (fg_ft (pc := 5) tb_Fb_back 3 rfl) rfl ?_
  refine fg_getR (fg_ft (pc := 6) tb_Fb_back 4 rfl) ff_Fb_16 ly_100 rfl (fg_lt ly_100 (by decide)) (rh_100_1 R) ?_
  refine fg_alen (fg_ft (pc := 9) tb_Fb_back 5 rfl) ly_139 (by decide) (fg_lt ly_139 (by decide)) ?_
  refine fg_icmp_geN (tgt := 31) (fg_ft (pc := 10) tb_Fb_back 6 rfl) (by decide) (by decide) (by decide) (fun c10 => (absurd c10 (by decide))) (fun c10 => ?_)
  refine fg_aloadn (fg_ft (pc := 13) tb_Fb_back 7 rfl) rfl ?_
  refine fg_getR (fg_ft (pc := 14) tb_Fb_back 8 rfl) ff_Fb_16 ly_100 rfl (fg_lt ly_100 (by decide)) (rh_100_1 R) ?_
  refine fg_iloadn (fg_ft (pc := 17) tb_Fb_back 9 rfl) rfl ?_
  refine fg_aaldN (fg_ft (pc := 18) tb_Fb_back 10 rfl) ly_139 (by decide) (fg_lt ly_139 (by decide)) (by omega) (rh_139_0 R) ?_
  refine fg_ifnull_r (fg_ft (pc := 19) tb_Fb_back 11 rfl) ?_
  refine fg_aloadn (fg_ft (pc := 22) tb_Fb_back 12 rfl) rfl ?_
  refine fg_getR (fg_ft (pc := 23) tb_Fb_back 13 rfl) ff_Fb_20 ly_100 rfl (fg_lt ly_100 (by decide)) (rh_100_2 R) ?_
  refine fg_iloadn (fg_ft (pc := 26) tb_Fb_back 14 rfl) rfl ?_
  refine fg_zaldV (v := (μ 254 0)) (fg_ft (pc := 27) tb_Fb_back 15 rfl) ly_254 (fg_lt ly_254 (by decide)) (by omega) rfl ?_
  refine fg_if_ne (tgt := 33) (fg_ft (pc := 28) tb_Fb_back 16 rfl) (by decide) (fun c28 => (absurd h1 c28)) (fun c28 => ?_)
  refine fg_iconst (fg_ft (pc := 31) tb_Fb_back 17 rfl) ic_0 ?_
  exact fg_zret (fg_ft (pc := 32) tb_Fb_back 18 rfl) rfl (by decide) rfl (hQ)
theorem ev_Fb_back1_0 {E : fg_E} {d : Nat} {μ : Nat → Nat → Int32} {R : fg_T4} {Q : Option Value → fg_M → Prop} (hfit : ∀ i, i < 600 → fits (fg_aty (11 - 10)) (.int (μ 141 i)) = true) (h1 : ¬ μ 254 0 = 0) (hQ : ∀ μ' : Nat → Nat → Int32, fg_KC μ 140 μ' 101 → Q (some (.int (nI 1))) (μ', fg_rho R, 304)) : fg_Ev E yy_Fb_back (d + 5) [.ref 100, .int (nI 0)] (μ, fg_rho R, 304) 304 Q := by
  refine fg_intro (by decide +kernel) (Nat.le_of_ble_eq_true rfl) (fg_okAs rfl) (Nat.le_refl _) ?_
  refine fg_iloadn (fg_ft (pc := 0) tb_Fb_back 0 rfl) rfl ?_
  refine fg_if_ltN (tgt := 31) (fg_ft (pc := 1) tb_Fb_back 1 rfl) (by decide) (by decide) ?_
  refine fg_iloadn (fg_ft (pc := 4) tb_Fb_back 2 rfl) rfl ?_
  refine fg_aloadn (fg_ft (pc := 5) tb_Fb_back 3 rfl) rfl ?_
  refine fg_getR (fg_ft (pc := 6) tb_Fb_back 4 rfl) ff_Fb_16 ly_100 rfl (fg_lt ly_100 (by decide)) (rh_100_1 R) ?_
  refine fg_alen (fg_ft (pc := 9) tb_Fb_back 5 rfl) ly_139 (by decide) (fg_lt ly_139 (by decide)) ?_
  refine fg_icmp_geN (tgt := 31) (fg_ft (pc := 10) tb_Fb_back 6 rfl) (by decide) (by decide) (by decide) (fun c10 => (absurd c10 (by decide))) (fun c10 => ?_)
  refine fg_aloadn (fg_ft (pc := 13) tb_Fb_back 7 rfl) rfl ?_
  refine fg_getR (fg_ft (pc := 14) tb_Fb_back 8 rfl) ff_Fb_16 ly_100 rfl (fg_lt ly_100 (by decide)) (rh_100_1 R) ?_
  refine fg_iloadn (fg_ft (pc := 17) tb_Fb_back 9 rfl) rfl ?_
  refine fg_aaldN (fg_ft (pc := 18) tb_Fb_back 10 rfl) ly_139 (by decide) (fg_lt ly_139 (by decide)) (by omega) (rh_139_0 R) ?_
  refine fg_ifnull_r (fg_ft (pc := 19) tb_Fb_back 11 rfl) ?_
  refine fg_aloadn (fg_ft (pc := 22) tb_Fb_back 12 rfl) rfl ?_
  refine fg_getR (fg_ft (pc := 23) tb_Fb_back 13 rfl) ff_Fb_20 ly_100 rfl (fg_lt ly_100 (by decide)) (rh_100_2 R) ?_
  refine fg_iloadn (fg_ft (pc := 26) tb_Fb_back 14 rfl) rfl ?_
  refine fg_zaldV (v := (μ 254 0)) (fg_ft (pc := 27) tb_Fb_back 15 rfl) ly_254 (fg_lt ly_254 (by decide)) (by omega) rfl ?_
  refine fg_if_ne (tgt := 33) (fg_ft (pc := 28) tb_Fb_back 16 rfl) (by decide) (fun c28 => ?_) (fun c28 => (absurd c28 h1))
  refine fg_aloadn (fg_ft (pc := 33) tb_Fb_back 19 rfl) rfl ?_
  refine fg_getR (fg_ft (pc := 34) tb_Fb_back 20 rfl) ff_Fb_12 ly_100 rfl (fg_lt ly_100 (by decide)) (rh_100_0 R) ?_
  refine fg_aloadn (fg_ft (pc := 37) tb_Fb_back 21 rfl) rfl ?_
  refine fg_getR (fg_ft (pc := 38) tb_Fb_back 22 rfl) ff_Fb_16 ly_100 rfl (fg_lt ly_100 (by decide)) (rh_100_1 R) ?_
  refine fg_iloadn (fg_ft (pc := 41) tb_Fb_back 23 rfl) rfl ?_
  refine fg_aaldN (fg_ft (pc := 42) tb_Fb_back 24 rfl) ly_139 (by decide) (fg_lt ly_139 (by decide)) (by omega) (rh_139_0 R) ?_
  refine fg_callV (fg_ft (pc := 43) tb_Fb_back 25 rfl) cf_Fb_152 (fg_isOf ly_101 rfl (fg_lt ly_101 (by decide))) (as := [.ref 140]) (st := []) rfl rfl (Nat.le_of_ble_eq_true rfl) (Nat.le_refl _) (Nat.le_refl _) (ev_Told_copy_101_140 hfit ?_)
  intro μ1 hk1
  show fg_wp _ _ _ _ _ _ _ _ _ (μ1, fg_rho R, 304)
  refine fg_iconst (fg_ft (pc := 46) tb_Fb_back 26 rfl) ic_1 ?_
  exact fg_zret (fg_ft (pc := 47) tb_Fb_back 27 rfl) rfl (by decide) rfl (hQ μ1 hk1)
theorem ev_Fb_backN_1 {E : fg_E} {d : Nat} {μ : Nat → Nat → Int32} {R : fg_T4} {Q : Option Value → fg_M → Prop} (h1 : μ 254 1 = 0) (hQ : Q (some (.int (nI 0))) (μ, fg_rho R, 304)) : fg_Ev E yy_Fb_back (d + 5) [.ref 100, .int (nI 1)] (μ, fg_rho R, 304) 304 Q := by
  refine fg_intro (by decide +kernel) (Nat.le_of_ble_eq_true rfl) (fg_okAs rfl) (Nat.le_refl _) ?_
  refine fg_iloadn (fg_ft (pc := 0) tb_Fb_back 0 rfl) rfl ?_
  refine fg_if_ltN (tgt := 31) (fg_ft (pc := 1) tb_Fb_back 1 rfl) (by decide) (by decide) ?_
  refine fg_iloadn (fg_ft (pc := 4) tb_Fb_back 2 rfl) rfl ?_
  refine fg_aloadn (fg_ft (pc := 5) tb_Fb_back 3 rfl) rfl ?_
  refine fg_getR (fg_ft (pc := 6) tb_Fb_back 4 rfl) ff_Fb_16 ly_100 rfl (fg_lt ly_100 (by decide)) (rh_100_1 R) ?_
  refine fg_alen (fg_ft (pc := 9) tb_Fb_back 5 rfl) ly_139 (by decide) (fg_lt ly_139 (by decide)) ?_
  refine fg_icmp_geN (tgt := 31) (fg_ft (pc := 10) tb_Fb_back 6 rfl) (by decide) (by decide) (by decide) (fun c10 => (absurd c10 (by decide))) (fun c10 => ?_)
  refine fg_aloadn (fg_ft (pc := 13) tb_Fb_back 7 rfl) rfl ?_
  refine fg_getR (fg_ft (pc := 14) tb_Fb_back 8 rfl) ff_Fb_16 ly_100 rfl (fg_lt ly_100 (by decide)) (rh_100_1 R) ?_
  refine fg_iloadn (fg_ft (pc := 17) tb_Fb_back 9 rfl) rfl ?_
  refine fg_aaldN (fg_ft (pc := 18) tb_Fb_back 10 rfl) ly_139 (by decide) (fg_lt ly_139 (by decide)) (by omega) (rh_139_1 R) ?_
  refine fg_ifnull_r (fg_ft (pc := 19) tb_Fb_back 11 rfl) ?_
  refine fg_aloadn (fg_ft (pc := 22) tb_Fb_back 12 rfl) rfl ?_
  refine fg_getR (fg_ft (pc := 23) tb_Fb_back 13 rfl) ff_Fb_20 ly_100 rfl (fg_lt ly_100 (by decide)) (rh_100_2 R) ?_
  refine fg_iloadn (fg_ft (pc := 26) tb_Fb_back 14 rfl) rfl ?_
  refine fg_zaldV (v := (μ 254 1)) (fg_ft (pc := 27) tb_Fb_back 15 rfl) ly_254 (fg_lt ly_254 (by decide)) (by omega) rfl ?_
  refine fg_if_ne (tgt := 33) (fg_ft (pc := 28) tb_Fb_back 16 rfl) (by decide) (fun c28 => (absurd h1 c28)) (fun c28 => ?_)
  refine fg_iconst (fg_ft (pc := 31) tb_Fb_back 17 rfl) ic_0 ?_
  exact fg_zret (fg_ft (pc := 32) tb_Fb_back 18 rfl) rfl (by decide) rfl (hQ)
theorem ev_Fb_back1_1 {E : fg_E} {d : Nat} {μ : Nat → Nat → Int32} {R : fg_T4} {Q : Option Value → fg_M → Prop} (hfit : ∀ i, i < 600 → fits (fg_aty (11 - 10)) (.int (μ 179 i)) = true) (h1 : ¬ μ 254 1 = 0) (hQ : ∀ μ' : Nat → Nat → Int32, fg_KC μ 178 μ' 101 → Q (some (.int (nI 1))) (μ', fg_rho R, 304)) : fg_Ev E yy_Fb_back (d + 5) [.ref 100, .int (nI 1)] (μ, fg_rho R, 304) 304 Q := by
  refine fg_intro (by decide +kernel) (Nat.le_of_ble_eq_true rfl) (fg_okAs rfl) (Nat.le_refl _) ?_
  refine fg_iloadn (fg_ft (pc := 0) tb_Fb_back 0 rfl) rfl ?_
  refine fg_if_ltN (tgt := 31) (fg_ft (pc := 1) tb_Fb_back 1 rfl) (by decide) (by decide) ?_
  refine fg_iloadn (fg_ft (pc := 4) tb_Fb_back 2 rfl) rfl ?_
  refine fg_aloadn (fg_ft (pc := 5) tb_Fb_back 3 rfl) rfl ?_
  refine fg_getR (fg_ft (pc := 6) tb_Fb_back 4 rfl) ff_Fb_16 ly_100 rfl (fg_lt ly_100 (by decide)) (rh_100_1 R) ?_
  refine fg_alen (fg_ft (pc := 9) tb_Fb_back 5 rfl) ly_139 (by decide) (fg_lt ly_139 (by decide)) ?_
  refine fg_icmp_geN (tgt := 31) (fg_ft (pc := 10) tb_Fb_back 6 rfl) (by decide) (by decide) (by decide) (fun c10 => (absurd c10 (by decide))) (fun c10 => ?_)
  refine fg_aloadn (fg_ft (pc := 13) tb_Fb_back 7 rfl) rfl ?_
  refine fg_getR (fg_ft (pc := 14) tb_Fb_back 8 rfl) ff_Fb_16 ly_100 rfl (fg_lt ly_100 (by decide)) (rh_100_1 R) ?_
  refine fg_iloadn (fg_ft (pc := 17) tb_Fb_back 9 rfl) rfl ?_
  refine fg_aaldN (fg_ft (pc := 18) tb_Fb_back 10 rfl) ly_139 (by decide) (fg_lt ly_139 (by decide)) (by omega) (rh_139_1 R) ?_
  refine fg_ifnull_r (fg_ft (pc := 19) tb_Fb_back 11 rfl) ?_
  refine fg_aloadn (fg_ft (pc := 22) tb_Fb_back 12 rfl) rfl ?_
  refine fg_getR (fg_ft (pc := 23) tb_Fb_back 13 rfl) ff_Fb_20 ly_100 rfl (fg_lt ly_100 (by decide)) (rh_100_2 R) ?_
  refine fg_iloadn (fg_ft (pc := 26) tb_Fb_back 14 rfl) rfl ?_
  refine fg_zaldV (v := (μ 254 1)) (fg_ft (pc := 27) tb_Fb_back 15 rfl) ly_254 (fg_lt ly_254 (by decide)) (by omega) rfl ?_
  refine fg_if_ne (tgt := 33) (fg_ft (pc := 28) tb_Fb_back 16 rfl) (by decide) (fun c28 => ?_) (fun c28 => (absurd c28 h1))
  refine fg_aloadn (fg_ft (pc := 33) tb_Fb_back 19 rfl) rfl ?_
  refine fg_getR (fg_ft (pc := 34) tb_Fb_back 20 rfl) ff_Fb_12 ly_100 rfl (fg_lt ly_100 (by decide)) (rh_100_0 R) ?_
  refine fg_aloadn (fg_ft (pc := 37) tb_Fb_back 21 rfl) rfl ?_
  refine fg_getR (fg_ft (pc := 38) tb_Fb_back 22 rfl) ff_Fb_16 ly_100 rfl (fg_lt ly_100 (by decide)) (rh_100_1 R) ?_
  refine fg_iloadn (fg_ft (pc := 41) tb_Fb_back 23 rfl) rfl ?_
  refine fg_aaldN (fg_ft (pc := 42) tb_Fb_back 24 rfl) ly_139 (by decide) (fg_lt ly_139 (by decide)) (by omega) (rh_139_1 R) ?_
  refine fg_callV (fg_ft (pc := 43) tb_Fb_back 25 rfl) cf_Fb_152 (fg_isOf ly_101 rfl (fg_lt ly_101 (by decide))) (as := [.ref 178]) (st := []) rfl rfl (Nat.le_of_ble_eq_true rfl) (Nat.le_refl _) (Nat.le_refl _) (ev_Told_copy_101_178 hfit ?_)
  intro μ1 hk1
  show fg_wp _ _ _ _ _ _ _ _ _ (μ1, fg_rho R, 304)
  refine fg_iconst (fg_ft (pc := 46) tb_Fb_back 26 rfl) ic_1 ?_
  exact fg_zret (fg_ft (pc := 47) tb_Fb_back 27 rfl) rfl (by decide) rfl (hQ μ1 hk1)
theorem ev_Fb_backN_2 {E : fg_E} {d : Nat} {μ : Nat → Nat → Int32} {R : fg_T4} {Q : Option Value → fg_M → Prop} (h1 : μ 254 2 = 0) (hQ : Q (some (.int (nI 0))) (μ, fg_rho R, 304)) : fg_Ev E yy_Fb_back (d + 5) [.ref 100, .int (nI 2)] (μ, fg_rho R, 304) 304 Q := by
  refine fg_intro (by decide +kernel) (Nat.le_of_ble_eq_true rfl) (fg_okAs rfl) (Nat.le_refl _) ?_
  refine fg_iloadn (fg_ft (pc := 0) tb_Fb_back 0 rfl) rfl ?_
  refine fg_if_ltN (tgt := 31) (fg_ft (pc := 1) tb_Fb_back 1 rfl) (by decide) (by decide) ?_
  refine fg_iloadn (fg_ft (pc := 4) tb_Fb_back 2 rfl) rfl ?_
  refine fg_aloadn (fg_ft (pc := 5) tb_Fb_back 3 rfl) rfl ?_
  refine fg_getR (fg_ft (pc := 6) tb_Fb_back 4 rfl) ff_Fb_16 ly_100 rfl (fg_lt ly_100 (by decide)) (rh_100_1 R) ?_
  refine fg_alen (fg_ft (pc := 9) tb_Fb_back 5 rfl) ly_139 (by decide) (fg_lt ly_139 (by decide)) ?_
  refine fg_icmp_geN (tgt := 31) (fg_ft (pc := 10) tb_Fb_back 6 rfl) (by decide) (by decide) (by decide) (fun c10 => (absurd c10 (by decide))) (fun c10 => ?_)
  refine fg_aloadn (fg_ft (pc := 13) tb_Fb_back 7 rfl) rfl ?_
  refine fg_getR (fg_ft (pc := 14) tb_Fb_back 8 rfl) ff_Fb_16 ly_100 rfl (fg_lt ly_100 (by decide)) (rh_100_1 R) ?_
  refine fg_iloadn (fg_ft (pc := 17) tb_Fb_back 9 rfl) rfl ?_
  refine fg_aaldN (fg_ft (pc := 18) tb_Fb_back 10 rfl) ly_139 (by decide) (fg_lt ly_139 (by decide)) (by omega) (rh_139_2 R) ?_
  refine fg_ifnull_r (fg_ft (pc := 19) tb_Fb_back 11 rfl) ?_
  refine fg_aloadn (fg_ft (pc := 22) tb_Fb_back 12 rfl) rfl ?_
  refine fg_getR (fg_ft (pc := 23) tb_Fb_back 13 rfl) ff_Fb_20 ly_100 rfl (fg_lt ly_100 (by decide)) (rh_100_2 R) ?_
  refine fg_iloadn (fg_ft (pc := 26) tb_Fb_back 14 rfl) rfl ?_
  refine fg_zaldV (v := (μ 254 2)) (fg_ft (pc := 27) tb_Fb_back 15 rfl) ly_254 (fg_lt ly_254 (by decide)) (by omega) rfl ?_
  refine fg_if_ne (tgt := 33) (fg_ft (pc := 28) tb_Fb_back 16 rfl) (by decide) (fun c28 => (absurd h1 c28)) (fun c28 => ?_)
  refine fg_iconst (fg_ft (pc := 31) tb_Fb_back 17 rfl) ic_0 ?_
  exact fg_zret (fg_ft (pc := 32) tb_Fb_back 18 rfl) rfl (by decide) rfl (hQ)
theorem ev_Fb_back1_2 {E : fg_E} {d : Nat} {μ : Nat → Nat → Int32} {R : fg_T4} {Q : Option Value → fg_M → Prop} (hfit : ∀ i, i < 600 → fits (fg_aty (11 - 10)) (.int (μ 217 i)) = true) (h1 : ¬ μ 254 2 = 0) (hQ : ∀ μ' : Nat → Nat → Int32, fg_KC μ 216 μ' 101 → Q (some (.int (nI 1))) (μ', fg_rho R, 304)) : fg_Ev E yy_Fb_back (d + 5) [.ref 100, .int (nI 2)] (μ, fg_rho R, 304) 304 Q := by
  refine fg_intro (by decide +kernel) (Nat.le_of_ble_eq_true rfl) (fg_okAs rfl) (Nat.le_refl _) ?_
  refine fg_iloadn (fg_ft (pc := 0) tb_Fb_back 0 rfl) rfl ?_
  refine fg_if_ltN (tgt := 31) (fg_ft (pc := 1) tb_Fb_back 1 rfl) (by decide) (by decide) ?_
  refine fg_iloadn (fg_ft (pc := 4) tb_Fb_back 2 rfl) rfl ?_
  refine fg_aloadn (fg_ft (pc := 5) tb_Fb_back 3 rfl) rfl ?_
  refine fg_getR (fg_ft (pc := 6) tb_Fb_back 4 rfl) ff_Fb_16 ly_100 rfl (fg_lt ly_100 (by decide)) (rh_100_1 R) ?_
  refine fg_alen (fg_ft (pc := 9) tb_Fb_back 5 rfl) ly_139 (by decide) (fg_lt ly_139 (by decide)) ?_
  refine fg_icmp_geN (tgt := 31) (fg_ft (pc := 10) tb_Fb_back 6 rfl) (by decide) (by decide) (by decide) (fun c10 => (absurd c10 (by decide))) (fun c10 => ?_)
  refine fg_aloadn (fg_ft (pc := 13) tb_Fb_back 7 rfl) rfl ?_
  refine fg_getR (fg_ft (pc := 14) tb_Fb_back 8 rfl) ff_Fb_16 ly_100 rfl (fg_lt ly_100 (by decide)) (rh_100_1 R) ?_
  refine fg_iloadn (fg_ft (pc := 17) tb_Fb_back 9 rfl) rfl ?_
  refine fg_aaldN (fg_ft (pc := 18) tb_Fb_back 10 rfl) ly_139 (by decide) (fg_lt ly_139 (by decide)) (by omega) (rh_139_2 R) ?_
  refine fg_ifnull_r (fg_ft (pc := 19) tb_Fb_back 11 rfl) ?_
  refine fg_aloadn (fg_ft (pc := 22) tb_Fb_back 12 rfl) rfl ?_
  refine fg_getR (fg_ft (pc := 23) tb_Fb_back 13 rfl) ff_Fb_20 ly_100 rfl (fg_lt ly_100 (by decide)) (rh_100_2 R) ?_
  refine fg_iloadn (fg_ft (pc := 26) tb_Fb_back 14 rfl) rfl ?_
  refine fg_zaldV (v := (μ 254 2)) (fg_ft (pc := 27) tb_Fb_back 15 rfl) ly_254 (fg_lt ly_254 (by decide)) (by omega) rfl ?_
  refine fg_if_ne (tgt := 33) (fg_ft (pc := 28) tb_Fb_back 16 rfl) (by decide) (fun c28 => ?_) (fun c28 => (absurd c28 h1))
  refine fg_aloadn (fg_ft (pc := 33) tb_Fb_back 19 rfl) rfl ?_
  refine fg_getR (fg_ft (pc := 34) tb_Fb_back 20 rfl) ff_Fb_12 ly_100 rfl (fg_lt ly_100 (by decide)) (rh_100_0 R) ?_
  refine fg_aloadn (fg_ft (pc := 37) tb_Fb_back 21 rfl) rfl ?_
  refine fg_getR (fg_ft (pc := 38) tb_Fb_back 22 rfl) ff_Fb_16 ly_100 rfl (fg_lt ly_100 (by decide)) (rh_100_1 R) ?_
  refine fg_iloadn (fg_ft (pc := 41) tb_Fb_back 23 rfl) rfl ?_
  refine fg_aaldN (fg_ft (pc := 42) tb_Fb_back 24 rfl) ly_139 (by decide) (fg_lt ly_139 (by decide)) (by omega) (rh_139_2 R) ?_
  refine fg_callV (fg_ft (pc := 43) tb_Fb_back 25 rfl) cf_Fb_152 (fg_isOf ly_101 rfl (fg_lt ly_101 (by decide))) (as := [.ref 216]) (st := []) rfl rfl (Nat.le_of_ble_eq_true rfl) (Nat.le_refl _) (Nat.le_refl _) (ev_Told_copy_101_216 hfit ?_)
  intro μ1 hk1
  show fg_wp _ _ _ _ _ _ _ _ _ (μ1, fg_rho R, 304)
  refine fg_iconst (fg_ft (pc := 46) tb_Fb_back 26 rfl) ic_1 ?_
  exact fg_zret (fg_ft (pc := 47) tb_Fb_back 27 rfl) rfl (by decide) rfl (hQ μ1 hk1)
