theorem ev_Reader_openRow_0 {E : fg_E} {d : Nat} {μ : Nat → Nat → Int32} {R : fg_T4} {Q : Option Value → fg_M → Prop} (hO : ∀ μ' : Nat → Nat → Int32, (∀ a j, (a ≠ 255 ∨ (j ≠ 12 ∧ j ≠ 13 ∧ j ≠ 14)) → μ' a j = μ a j) → μ' 255 12 = nI 0 → μ' 255 13 = -1 → Q none (μ', fg_rho R, 304)) : fg_Ev E yy_Reader_openRow (d + 5) [.ref 255, .ref 0] (μ, fg_rho R, 304) 304 Q := by
  refine fg_intro (by decide +kernel) (Nat.le_of_ble_eq_true rfl) (fg_okAs rfl) (Nat.le_refl _) ?_
  refine fg_aloadn (fg_ft (pc := 0) tb_Reader_openRow 0 rfl) rfl ?_
  refine fg_aloadn (fg_ft (pc := 1) tb_Reader_openRow 1 rfl) rfl ?_
  refine fg_callV (fg_ft (pc := 2) tb_Reader_openRow 2 rfl) cf_Reader_176 (fg_isOf ly_255 rfl (fg_lt ly_255 (by decide))) (as := [.ref 0]) (st := []) rfl rfl (Nat.le_of_ble_eq_true rfl) (Nat.le_refl _) (Nat.le_refl _) (ev_Reader_rowsOf_0 ?_)
  refine fg_astorenN (fg_ft (pc := 5) tb_Reader_openRow 3 rfl) (Nat.le_of_ble_eq_true rfl) ?_
  refine fg_aloadn (fg_ft (pc := 6) tb_Reader_openRow 4 rfl) rfl ?_
  refine fg_iconst (fg_ft (pc := 7) tb_Reader_openRow 5 rfl) ic_m1 ?_
  refine fg_putI (fg_ft (pc := 8) tb_Reader_openRow 6 rfl) ff_Reader_180 ly_255 rfl (fg_lt ly_255 (by decide)) (fg_nokI _) (fun _ _ h => by cases h; rfl) ?_
  show fg_wp _ _ _ _ _ _ _ _ _ (fg_u2 μ 255 14 (-1), fg_rho R, 304)
  refine fg_aloadn (fg_ft (pc := 11) tb_Reader_openRow 7 rfl) rfl ?_
  refine fg_iconst (fg_ft (pc := 12) tb_Reader_openRow 8 rfl) ic_0 ?_
  refine fg_putI (fg_ft (pc := 13) tb_Reader_openRow 9 rfl) ff_Reader_183 ly_255 rfl (fg_lt ly_255 (by decide)) (fg_nokI _) (fun _ _ h => by cases h; rfl) ?_
  show fg_wp _ _ _ _ _ _ _ _ _ (fg_u2 (fg_u2 μ 255 14 (-1)) 255 12 (nI 0), fg_rho R, 304)
  refine fg_aloadn (fg_ft (pc := 16) tb_Reader_openRow 10 rfl) rfl ?_
  refine fg_iconst (fg_ft (pc := 17) tb_Reader_openRow 11 rfl) ic_m1 ?_
  refine fg_putI (fg_ft (pc := 18) tb_Reader_openRow 12 rfl) ff_Reader_186 ly_255 rfl (fg_lt ly_255 (by decide)) (fg_nokI _) (fun _ _ h => by cases h; rfl) ?_
  show fg_wp _ _ _ _ _ _ _ _ _ (fg_u2 (fg_u2 (fg_u2 μ 255 14 (-1)) 255 12 (nI 0)) 255 13 (-1), fg_rho R, 304)
  refine fg_aloadnN (fg_ft (pc := 21) tb_Reader_openRow 13 rfl) rfl ?_
  refine fg_ifnull (tgt := 39) (fg_ft (pc := 22) tb_Reader_openRow 14 rfl) (by decide) ?_
  exact fg_vret (fg_ft (pc := 39) tb_Reader_openRow 21 rfl) rfl rfl (hO _ (fun a j h => (fg_u2nx (by omega)).trans ((fg_u2nx (by omega)).trans (fg_u2nx (by omega)))) ((fg_u2ns (by decide)).trans fg_u2eq) fg_u2eq)
theorem ev_Reader_openRow_1 {E : fg_E} {d : Nat} {μ : Nat → Nat → Int32} {R : fg_T4} {Q : Option Value → fg_M → Prop} {sz F s : Nat} (h9 : μ 255 9 = nI s) (hF : μ 255 2 = nI F) (hF5 : F < 5) (hw0 : μ 257 0 = nI 2) (hs2 : μ 257 2 = nI sz) (hsz : sz ≤ 16) (hR : sz < pz_mx (pz_rt 1) → ∀ μ' : Nat → Nat → Int32, (∀ a j, a ≠ pz_rc (pz_rt 1) → (a ≠ pz_ro (pz_rt 1) ∨ j ≠ 2) → (a ≠ 255 ∨ (j ≠ 12 ∧ j ≠ 13 ∧ j ≠ 14)) → μ' a j = μ a j) → μ' (pz_ro (pz_rt 1)) 2 = nI (sz + 1) → (∀ i, i < pz_wi (pz_rt 1) → μ' (pz_rc (pz_rt 1)) (sz * pz_wi (pz_rt 1) + i) = nI (if 1 < 10 then 0 else if i = 0 then 1 - 10 else 4294967295)) → (∀ i, i < sz * pz_wi (pz_rt 1) → μ' (pz_rc (pz_rt 1)) i = μ (pz_rc (pz_rt 1)) i) → μ' 255 14 = nI sz → μ' 255 12 = nI 0 → μ' 255 13 = -1 → Q none (μ', fg_rho R, 304)) (hN : ¬ sz < pz_mx (pz_rt 1) → ∀ μ' : Nat → Nat → Int32, (∀ a j, (a ≠ 255 ∨ (j ≠ 2 ∧ j ≠ 3 ∧ j ≠ 12 ∧ j ≠ 13 ∧ j ≠ 14)) → μ' a j = μ a j) → (F = 0 → μ' 255 2 = nI 3 ∧ μ' 255 3 = nI s) → (¬ F = 0 → μ' 255 2 = μ 255 2 ∧ μ' 255 3 = μ 255 3) → Q none (μ', fg_rho R, 304)) : fg_Ev E yy_Reader_openRow (d + 5) [.ref 255, .ref 1] (μ, fg_rho R, 304) 304 Q := by
  refine fg_intro (by decide +kernel) (Nat.le_of_ble_eq_true rfl) (fg_okAs rfl) (Nat.le_refl _) ?_
  by_cases hroom : sz < 16
  · refine fg_aloadn (fg_ft (pc := 0) tb_Reader_openRow 0 rfl) rfl ?_
    refine fg_aloadn (fg_ft (pc := 1) tb_Reader_openRow 1 rfl) rfl ?_
    refine fg_callV (fg_ft (pc := 2) tb_Reader_openRow 2 rfl) cf_Reader_176 (fg_isOf ly_255 rfl (fg_lt ly_255 (by decide))) (as := [.ref 1]) (st := []) rfl rfl (Nat.le_of_ble_eq_true rfl) (Nat.le_refl _) (Nat.le_refl _) (ev_Reader_rowsOf_1 ?_)
    refine fg_astoren (fg_ft (pc := 5) tb_Reader_openRow 3 rfl) (Nat.le_of_ble_eq_true rfl) ?_
    refine fg_aloadn (fg_ft (pc := 6) tb_Reader_openRow 4 rfl) rfl ?_
    refine fg_iconst (fg_ft (pc := 7) tb_Reader_openRow 5 rfl) ic_m1 ?_
    refine fg_putI (fg_ft (pc := 8) tb_Reader_openRow 6 rfl) ff_Reader_180 ly_255 rfl (fg_lt ly_255 (by decide)) (fg_nokI _) (fun _ _ h => by cases h; rfl) ?_
    show fg_wp _ _ _ _ _ _ _ _ _ (fg_u2 μ 255 14 (-1), fg_rho R, 304)
    refine fg_aloadn (fg_ft (pc := 11) tb_Reader_openRow 7 rfl) rfl ?_
    refine fg_iconst (fg_ft (pc := 12) tb_Reader_openRow 8 rfl) ic_0 ?_
    refine fg_putI (fg_ft (pc := 13) tb_Reader_openRow 9 rfl) ff_Reader_183 ly_255 rfl (fg_lt ly_255 (by decide)) (fg_nokI _) (fun _ _ h => by cases h; rfl) ?_
    show fg_wp _ _ _ _ _ _ _ _ _ (fg_u2 (fg_u2 μ 255 14 (-1)) 255 12 (nI 0), fg_rho R, 304)
    refine fg_aloadn (fg_ft (pc := 16) tb_Reader_openRow 10 rfl) rfl ?_
    refine fg_iconst (fg_ft (pc := 17) tb_Reader_openRow 11 rfl) ic_m1 ?_
    refine fg_putI (fg_ft (pc := 18) tb_Reader_openRow 12 rfl) ff_Reader_186 ly_255 rfl (fg_lt ly_255 (by decide)) (fg_nokI _) (fun _ _ h => by cases h; rfl) ?_
    show fg_wp _ _ _ _ _ _ _ _ _ (fg_u2 (fg_u2 (fg_u2 μ 255 14 (-1)) 255 12 (nI 0)) 255 13 (-1), fg_rho R, 304)
    refine fg_aloadn (fg_ft (pc := 21) tb_Reader_openRow 13 rfl) rfl ?_
    refine fg_ifnull_r (fg_ft (pc := 22) tb_Reader_openRow 14 rfl) ?_
    refine fg_aloadn (fg_ft (pc := 25) tb_Reader_openRow 15 rfl) rfl ?_
    refine fg_gets (fg_ft (pc := 26) tb_Reader_openRow 16 rfl) fs_Reader_143 ?_
    refine fg_acmp_eq (tgt := 39) (fg_ft (pc := 29) tb_Reader_openRow 17 rfl) (by decide) (by decide) (by decide) (fun h => absurd h (by decide)) (fun _ => ?_)
    refine fg_aloadn (fg_ft (pc := 32) tb_Reader_openRow 18 rfl) rfl ?_
    refine fg_gets (fg_ft (pc := 33) tb_Reader_openRow 19 rfl) fs_Reader_146 ?_
    refine fg_acmp_ne (tgt := 40) (fg_ft (pc := 36) tb_Reader_openRow 20 rfl) (by decide) (by decide) (by decide) (fun _ => ?_) (fun h => absurd h (by decide))
    refine fg_aloadn (fg_ft (pc := 40) tb_Reader_openRow 22 rfl) rfl ?_
    refine fg_aloadn (fg_ft (pc := 41) tb_Reader_openRow 23 rfl) rfl ?_
    refine fg_aloadn (fg_ft (pc := 42) tb_Reader_openRow 24 rfl) rfl ?_
    refine fg_callV (fg_ft (pc := 43) tb_Reader_openRow 25 rfl) cf_Reader_117 (Or.inr (pz_isW (w := 1) (by decide))) (as := []) (st := [.ref 257, .ref 255]) rfl rfl (Nat.le_of_ble_eq_true rfl) (Nat.le_refl _) (Nat.le_refl _) (ev_Word_sort_1 ?_)
    refine fg_iconst (fg_ft (pc := 46) tb_Reader_openRow 26 rfl) ic_1 ?_
    refine fg_icmp_neN (tgt := 54) (fg_ft (pc := 47) tb_Reader_openRow 27 rfl) (by decide) (by decide) (by decide) (fun c47 => ?_) (fun c47 => (absurd c47 (by decide)))
    refine fg_iconst (fg_ft (pc := 54) tb_Reader_openRow 30 rfl) ic_0 ?_
    refine fg_callV (fg_ft (pc := 55) tb_Reader_openRow 31 rfl) cf_Reader_189 (fg_isOf ly_257 rfl (fg_lt ly_257 (by decide))) (as := [.int (nI 0)]) (st := [.ref 255]) rfl rfl (Nat.le_of_ble_eq_true rfl) (Nat.le_refl _) (Nat.le_refl _) (ev_Rows_add (r := 257) (c := 258) (n := 32) (w := 2) (sz := sz) (x := (nI 0)) ⟨ly_257, rh_257_1 R, ly_258⟩ (by decide) (((fg_u2ne (f := (fg_u2 (fg_u2 μ 255 14 (-1)) 255 12 (nI 0))) (a := 255) (k := 13) (b := 257) (j := 0) (x := (-1)) (by decide)).trans ((fg_u2ne (f := (fg_u2 μ 255 14 (-1))) (a := 255) (k := 12) (b := 257) (j := 0) (x := (nI 0)) (by decide)).trans ((fg_u2ne (f := μ) (a := 255) (k := 14) (b := 257) (j := 0) (x := (-1)) (by decide)).trans hw0)))) (((fg_u2ne (f := (fg_u2 (fg_u2 μ 255 14 (-1)) 255 12 (nI 0))) (a := 255) (k := 13) (b := 257) (j := 2) (x := (-1)) (by decide)).trans ((fg_u2ne (f := (fg_u2 μ 255 14 (-1))) (a := 255) (k := 12) (b := 257) (j := 2) (x := (nI 0)) (by decide)).trans ((fg_u2ne (f := μ) (a := 255) (k := 14) (b := 257) (j := 2) (x := (-1)) (by decide)).trans hs2)))) (by omega) (by decide) (by omega) (by omega) (by omega) ?_)
    intro ν hfr hN2 hnew hold
    show fg_wp _ _ _ _ _ _ _ _ _ (ν, fg_rho R, 304)
    refine fg_putI (fg_ft (pc := 58) tb_Reader_openRow 32 rfl) ff_Reader_180 ly_255 rfl (fg_lt ly_255 (by decide)) (fg_nokI _) (fun _ _ h => by cases h; rfl) ?_
    show fg_wp _ _ _ _ _ _ _ _ _ (fg_u2 ν 255 14 (nI sz), fg_rho R, 304)
    refine fg_aloadn (fg_ft (pc := 61) tb_Reader_openRow 33 rfl) rfl ?_
    refine fg_getV (v := (nI sz)) (fg_ft (pc := 62) tb_Reader_openRow 34 rfl) ff_Reader_180 ly_255 rfl (fg_lt ly_255 (by decide)) (show (fg_u2 ν 255 14 (nI sz)) 255 14 = nI sz from fg_u2eq) ?_
    refine fg_iconst (fg_ft (pc := 65) tb_Reader_openRow 35 rfl) ic_m1 ?_
    refine fg_icmp_neM (tgt := 74) (fg_ft (pc := 66) tb_Reader_openRow 36 rfl) (by decide) (Nat.lt_trans (show _ < 2 ^ 31 from by omega) (by decide)) (fun c66 => ?_) (fun c66 => (absurd c66 (by omega)))
    refine fg_aloadn (fg_ft (pc := 74) tb_Reader_openRow 40 rfl) rfl ?_
    refine fg_callV (fg_ft (pc := 75) tb_Reader_openRow 41 rfl) cf_Reader_117 (Or.inr (pz_isW (w := 1) (by decide))) (as := []) (st := []) rfl rfl (Nat.le_of_ble_eq_true rfl) (Nat.le_refl _) (Nat.le_refl _) (ev_Word_sort_1 ?_)
    refine fg_iconst (fg_ft (pc := 78) tb_Reader_openRow 42 rfl) ic_1 ?_
    refine fg_icmp_neN (tgt := 95) (fg_ft (pc := 79) tb_Reader_openRow 43 rfl) (by decide) (by decide) (by decide) (fun c79 => ?_) (fun c79 => (absurd c79 (by decide)))
    exact fg_vret (fg_ft (pc := 95) tb_Reader_openRow 51 rfl) rfl rfl (hR hroom _ (fun a j g1 g2 g3 => (fg_u2nx (by omega)).trans ((hfr a j g1 g2).trans ((fg_u2nx (by omega)).trans ((fg_u2nx (by omega)).trans (fg_u2nx (by omega)))))) ((fg_u2ne (by decide)).trans hN2) (fun i hi => (fg_u2ne (by decide)).trans ((hnew i hi).trans rfl)) (fun i hi => (fg_u2ne (by decide)).trans ((hold i hi).trans ((fg_u2ne (by decide)).trans ((fg_u2ne (by decide)).trans (fg_u2ne (by decide)))))) fg_u2eq ((fg_u2nx (by omega)).trans ((hfr 255 12 (by decide) (Or.inl (by decide))).trans ((fg_u2ns (by decide)).trans fg_u2eq))) ((fg_u2nx (by omega)).trans ((hfr 255 13 (by decide) (Or.inl (by decide))).trans fg_u2eq)))
  · refine fg_aloadn (fg_ft (pc := 0) tb_Reader_openRow 0 rfl) rfl ?_
    refine fg_aloadn (fg_ft (pc := 1) tb_Reader_openRow 1 rfl) rfl ?_
    refine fg_callV (fg_ft (pc := 2) tb_Reader_openRow 2 rfl) cf_Reader_176 (fg_isOf ly_255 rfl (fg_lt ly_255 (by decide))) (as := [.ref 1]) (st := []) rfl rfl (Nat.le_of_ble_eq_true rfl) (Nat.le_refl _) (Nat.le_refl _) (ev_Reader_rowsOf_1 ?_)
    refine fg_astoren (fg_ft (pc := 5) tb_Reader_openRow 3 rfl) (Nat.le_of_ble_eq_true rfl) ?_
    refine fg_aloadn (fg_ft (pc := 6) tb_Reader_openRow 4 rfl) rfl ?_
    refine fg_iconst (fg_ft (pc := 7) tb_Reader_openRow 5 rfl) ic_m1 ?_
    refine fg_putI (fg_ft (pc := 8) tb_Reader_openRow 6 rfl) ff_Reader_180 ly_255 rfl (fg_lt ly_255 (by decide)) (fg_nokI _) (fun _ _ h => by cases h; rfl) ?_
    show fg_wp _ _ _ _ _ _ _ _ _ (fg_u2 μ 255 14 (-1), fg_rho R, 304)
    refine fg_aloadn (fg_ft (pc := 11) tb_Reader_openRow 7 rfl) rfl ?_
    refine fg_iconst (fg_ft (pc := 12) tb_Reader_openRow 8 rfl) ic_0 ?_
    refine fg_putI (fg_ft (pc := 13) tb_Reader_openRow 9 rfl) ff_Reader_183 ly_255 rfl (fg_lt ly_255 (by decide)) (fg_nokI _) (fun _ _ h => by cases h; rfl) ?_
    show fg_wp _ _ _ _ _ _ _ _ _ (fg_u2 (fg_u2 μ 255 14 (-1)) 255 12 (nI 0), fg_rho R, 304)
    refine fg_aloadn (fg_ft (pc := 16) tb_Reader_openRow 10 rfl) rfl ?_
    refine fg_iconst (fg_ft (pc := 17) tb_Reader_openRow 11 rfl) ic_m1 ?_
    refine fg_putI (fg_ft (pc := 18) tb_Reader_openRow 12 rfl) ff_Reader_186 ly_255 rfl (fg_lt ly_255 (by decide)) (fg_nokI _) (fun _ _ h => by cases h; rfl) ?_
    show fg_wp _ _ _ _ _ _ _ _ _ (fg_u2 (fg_u2 (fg_u2 μ 255 14 (-1)) 255 12 (nI 0)) 255 13 (-1), fg_rho R, 304)
    refine fg_aloadn (fg_ft (pc := 21) tb_Reader_openRow 13 rfl) rfl ?_
    refine fg_ifnull_r (fg_ft (pc := 22) tb_Reader_openRow 14 rfl) ?_
    refine fg_aloadn (fg_ft (pc := 25) tb_Reader_openRow 15 rfl) rfl ?_
    refine fg_gets (fg_ft (pc := 26) tb_Reader_openRow 16 rfl) fs_Reader_143 ?_
    refine fg_acmp_eq (tgt := 39) (fg_ft (pc := 29) tb_Reader_openRow 17 rfl) (by decide) (by decide) (by decide) (fun h => absurd h (by decide)) (fun _ => ?_)
    refine fg_aloadn (fg_ft (pc := 32) tb_Reader_openRow 18 rfl) rfl ?_
    refine fg_gets (fg_ft (pc := 33) tb_Reader_openRow 19 rfl) fs_Reader_146 ?_
    refine fg_acmp_ne (tgt := 40) (fg_ft (pc := 36) tb_Reader_openRow 20 rfl) (by decide) (by decide) (by decide) (fun _ => ?_) (fun h => absurd h (by decide))
    refine fg_aloadn (fg_ft (pc := 40) tb_Reader_openRow 22 rfl) rfl ?_
    refine fg_aloadn (fg_ft (pc := 41) tb_Reader_openRow 23 rfl) rfl ?_
    refine fg_aloadn (fg_ft (pc := 42) tb_Reader_openRow 24 rfl) rfl ?_
    refine fg_callV (fg_ft (pc := 43) tb_Reader_openRow 25 rfl) cf_Reader_117 (Or.inr (pz_isW (w := 1) (by decide))) (as := []) (st := [.ref 257, .ref 255]) rfl rfl (Nat.le_of_ble_eq_true rfl) (Nat.le_refl _) (Nat.le_refl _) (ev_Word_sort_1 ?_)
    refine fg_iconst (fg_ft (pc := 46) tb_Reader_openRow 26 rfl) ic_1 ?_
    refine fg_icmp_neN (tgt := 54) (fg_ft (pc := 47) tb_Reader_openRow 27 rfl) (by decide) (by decide) (by decide) (fun c47 => ?_) (fun c47 => (absurd c47 (by decide)))
    refine fg_iconst (fg_ft (pc := 54) tb_Reader_openRow 30 rfl) ic_0 ?_
    refine fg_callV (fg_ft (pc := 55) tb_Reader_openRow 31 rfl) cf_Reader_189 (fg_isOf ly_257 rfl (fg_lt ly_257 (by decide))) (as := [.int (nI 0)]) (st := [.ref 255]) rfl rfl (Nat.le_of_ble_eq_true rfl) (Nat.le_refl _) (Nat.le_refl _) (ev_Rows_addFull (r := 257) (c := 258) (n := 32) (w := 2) (sz := sz) ⟨ly_257, rh_257_1 R, ly_258⟩ (by decide) (((fg_u2ne (f := (fg_u2 (fg_u2 μ 255 14 (-1)) 255 12 (nI 0))) (a := 255) (k := 13) (b := 257) (j := 0) (x := (-1)) (by decide)).trans ((fg_u2ne (f := (fg_u2 μ 255 14 (-1))) (a := 255) (k := 12) (b := 257) (j := 0) (x := (nI 0)) (by decide)).trans ((fg_u2ne (f := μ) (a := 255) (k := 14) (b := 257) (j := 0) (x := (-1)) (by decide)).trans hw0)))) (((fg_u2ne (f := (fg_u2 (fg_u2 μ 255 14 (-1)) 255 12 (nI 0))) (a := 255) (k := 13) (b := 257) (j := 2) (x := (-1)) (by decide)).trans ((fg_u2ne (f := (fg_u2 μ 255 14 (-1))) (a := 255) (k := 12) (b := 257) (j := 2) (x := (nI 0)) (by decide)).trans ((fg_u2ne (f := μ) (a := 255) (k := 14) (b := 257) (j := 2) (x := (-1)) (by decide)).trans hs2)))) (by omega) (by decide) (by omega) (by omega) (by omega) ?_)
    refine fg_putI (fg_ft (pc := 58) tb_Reader_openRow 32 rfl) ff_Reader_180 ly_255 rfl (fg_lt ly_255 (by decide)) (fg_nokI _) (fun _ _ h => by cases h; rfl) ?_
    show fg_wp _ _ _ _ _ _ _ _ _ (fg_u2 (fg_u2 (fg_u2 (fg_u2 μ 255 14 (-1)) 255 12 (nI 0)) 255 13 (-1)) 255 14 (-1), fg_rho R, 304)
    refine fg_aloadn (fg_ft (pc := 61) tb_Reader_openRow 33 rfl) rfl ?_
    refine fg_getV (v := (-1)) (fg_ft (pc := 62) tb_Reader_openRow 34 rfl) ff_Reader_180 ly_255 rfl (fg_lt ly_255 (by decide)) (show (fg_u2 (fg_u2 (fg_u2 (fg_u2 μ 255 14 (-1)) 255 12 (nI 0)) 255 13 (-1)) 255 14 (-1)) 255 14 = -1 from fg_u2eq) ?_
    refine fg_iconst (fg_ft (pc := 65) tb_Reader_openRow 35 rfl) ic_m1 ?_
    refine fg_icmp_ne (tgt := 74) (fg_ft (pc := 66) tb_Reader_openRow 36 rfl) (by decide) (fun c66 => (absurd rfl c66)) (fun c66 => ?_)
    by_cases cF : F = 0
    · refine fg_aloadn (fg_ft (pc := 69) tb_Reader_openRow 37 rfl) rfl ?_
      refine fg_iconst (fg_ft (pc := 70) tb_Reader_openRow 38 rfl) ic_3 ?_
      refine fg_callV (fg_ft (pc := 71) tb_Reader_openRow 39 rfl) cf_Reader_192 (fg_isOf ly_255 rfl (fg_lt ly_255 (by decide))) (as := [.int (nI 3)]) (st := []) rfl rfl (Nat.le_of_ble_eq_true rfl) (Nat.le_refl _) (Nat.le_refl _) (ev_Reader_noteFault0 (s := s) (((fg_u2ns (f := (fg_u2 (fg_u2 (fg_u2 μ 255 14 (-1)) 255 12 (nI 0)) 255 13 (-1))) (a := 255) (k := 14) (b := 255) (j := 2) (x := (-1)) (by decide)).trans ((fg_u2ns (f := (fg_u2 (fg_u2 μ 255 14 (-1)) 255 12 (nI 0))) (a := 255) (k := 13) (b := 255) (j := 2) (x := (-1)) (by decide)).trans ((fg_u2ns (f := (fg_u2 μ 255 14 (-1))) (a := 255) (k := 12) (b := 255) (j := 2) (x := (nI 0)) (by decide)).trans ((fg_u2ns (f := μ) (a := 255) (k := 14) (b := 255) (j := 2) (x := (-1)) (by decide)).trans (hF.trans (congrArg nI cF))))))) (((fg_u2ns (f := (fg_u2 (fg_u2 (fg_u2 μ 255 14 (-1)) 255 12 (nI 0)) 255 13 (-1))) (a := 255) (k := 14) (b := 255) (j := 9) (x := (-1)) (by decide)).trans ((fg_u2ns (f := (fg_u2 (fg_u2 μ 255 14 (-1)) 255 12 (nI 0))) (a := 255) (k := 13) (b := 255) (j := 9) (x := (-1)) (by decide)).trans ((fg_u2ns (f := (fg_u2 μ 255 14 (-1))) (a := 255) (k := 12) (b := 255) (j := 9) (x := (nI 0)) (by decide)).trans ((fg_u2ns (f := μ) (a := 255) (k := 14) (b := 255) (j := 9) (x := (-1)) (by decide)).trans h9))))) ?_)
      show fg_wp _ _ _ _ _ _ _ _ _ (fg_u2 (fg_u2 (fg_u2 (fg_u2 (fg_u2 (fg_u2 μ 255 14 (-1)) 255 12 (nI 0)) 255 13 (-1)) 255 14 (-1)) 255 2 (nI 3)) 255 3 (nI s), fg_rho R, 304)
      refine fg_aloadn (fg_ft (pc := 74) tb_Reader_openRow 40 rfl) rfl ?_
      refine fg_callV (fg_ft (pc := 75) tb_Reader_openRow 41 rfl) cf_Reader_117 (Or.inr (pz_isW (w := 1) (by decide))) (as := []) (st := []) rfl rfl (Nat.le_of_ble_eq_true rfl) (Nat.le_refl _) (Nat.le_refl _) (ev_Word_sort_1 ?_)
      refine fg_iconst (fg_ft (pc := 78) tb_Reader_openRow 42 rfl) ic_1 ?_
      refine fg_icmp_neN (tgt := 95) (fg_ft (pc := 79) tb_Reader_openRow 43 rfl) (by decide) (by decide) (by decide) (fun c79 => ?_) (fun c79 => (absurd c79 (by decide)))
      exact fg_vret (fg_ft (pc := 95) tb_Reader_openRow 51 rfl) rfl rfl (hN hroom _ (fun a j h => ((fg_u2nx (by omega)).trans ((fg_u2nx (by omega)).trans ((fg_u2nx (by omega)).trans ((fg_u2nx (by omega)).trans ((fg_u2nx (by omega)).trans ((fg_u2nx (by omega)).trans rfl))))))) (fun _ => ⟨(fg_u2ns (by decide)).trans fg_u2eq, fg_u2eq⟩) (fun h => absurd cF h))
    · refine fg_aloadn (fg_ft (pc := 69) tb_Reader_openRow 37 rfl) rfl ?_
      refine fg_iconst (fg_ft (pc := 70) tb_Reader_openRow 38 rfl) ic_3 ?_
      refine fg_callV (fg_ft (pc := 71) tb_Reader_openRow 39 rfl) cf_Reader_192 (fg_isOf ly_255 rfl (fg_lt ly_255 (by decide))) (as := [.int (nI 3)]) (st := []) rfl rfl (Nat.le_of_ble_eq_true rfl) (Nat.le_refl _) (Nat.le_refl _) (ev_Reader_noteFault1 (F := F) (((fg_u2ns (f := (fg_u2 (fg_u2 (fg_u2 μ 255 14 (-1)) 255 12 (nI 0)) 255 13 (-1))) (a := 255) (k := 14) (b := 255) (j := 2) (x := (-1)) (by decide)).trans ((fg_u2ns (f := (fg_u2 (fg_u2 μ 255 14 (-1)) 255 12 (nI 0))) (a := 255) (k := 13) (b := 255) (j := 2) (x := (-1)) (by decide)).trans ((fg_u2ns (f := (fg_u2 μ 255 14 (-1))) (a := 255) (k := 12) (b := 255) (j := 2) (x := (nI 0)) (by decide)).trans ((fg_u2ns (f := μ) (a := 255) (k := 14) (b := 255) (j := 2) (x := (-1)) (by decide)).trans hF))))) hF5 cF ?_)
      refine fg_aloadn (fg_ft (pc := 74) tb_Reader_openRow 40 rfl) rfl ?_
      refine fg_callV (fg_ft (pc := 75) tb_Reader_openRow 41 rfl) cf_Reader_117 (Or.inr (pz_isW (w := 1) (by decide))) (as := []) (st := []) rfl rfl (Nat.le_of_ble_eq_true rfl) (Nat.le_refl _) (Nat.le_refl _) (ev_Word_sort_1 ?_)
      refine fg_iconst (fg_ft (pc := 78) tb_Reader_openRow 42 rfl) ic_1 ?_
      refine fg_icmp_neN (tgt := 95) (fg_ft (pc := 79) tb_Reader_openRow 43 rfl) (by decide) (by decide) (by decide) (fun c79 => ?_) (fun c79 => (absurd c79 (by decide)))
      exact fg_vret (fg_ft (pc := 95) tb_Reader_openRow 51 rfl) rfl rfl (hN hroom _ (fun a j h => ((fg_u2nx (by omega)).trans ((fg_u2nx (by omega)).trans ((fg_u2nx (by omega)).trans ((fg_u2nx (by omega)).trans rfl))))) (fun h => absurd h cF) (fun _ => ⟨((fg_u2nx (by decide)).trans ((fg_u2nx (by decide)).trans ((fg_u2nx (by decide)).trans ((fg_u2nx (by decide)).trans rfl)))), ((fg_u2nx (by decide)).trans ((fg_u2nx (by decide)).trans ((fg_u2nx (by decide)).trans ((fg_u2nx (by decide)).trans rfl))))⟩))
theorem ev_Reader_openRow_2 {E : fg_E} {d : Nat} {μ : Nat → Nat → Int32} {R : fg_T4} {Q : Option Value → fg_M → Prop} {sz F s : Nat} (h9 : μ 255 9 = nI s) (hF : μ 255 2 = nI F) (hF5 : F < 5) (hw0 : μ 259 0 = nI 3) (hs2 : μ 259 2 = nI sz) (hsz : sz ≤ 5) (hR : sz < pz_mx (pz_rt 2) → ∀ μ' : Nat → Nat → Int32, (∀ a j, a ≠ pz_rc (pz_rt 2) → (a ≠ pz_ro (pz_rt 2) ∨ j ≠ 2) → (a ≠ 255 ∨ (j ≠ 12 ∧ j ≠ 13 ∧ j ≠ 14)) → μ' a j = μ a j) → μ' (pz_ro (pz_rt 2)) 2 = nI (sz + 1) → (∀ i, i < pz_wi (pz_rt 2) → μ' (pz_rc (pz_rt 2)) (sz * pz_wi (pz_rt 2) + i) = nI (if 2 < 10 then 0 else if i = 0 then 2 - 10 else 4294967295)) → (∀ i, i < sz * pz_wi (pz_rt 2) → μ' (pz_rc (pz_rt 2)) i = μ (pz_rc (pz_rt 2)) i) → μ' 255 14 = nI sz → μ' 255 12 = nI 0 → μ' 255 13 = -1 → Q none (μ', fg_rho R, 304)) (hN : ¬ sz < pz_mx (pz_rt 2) → ∀ μ' : Nat → Nat → Int32, (∀ a j, (a ≠ 255 ∨ (j ≠ 2 ∧ j ≠ 3 ∧ j ≠ 12 ∧ j ≠ 13 ∧ j ≠ 14)) → μ' a j = μ a j) → (F = 0 → μ' 255 2 = nI 3 ∧ μ' 255 3 = nI s) → (¬ F = 0 → μ' 255 2 = μ 255 2 ∧ μ' 255 3 = μ 255 3) → Q none (μ', fg_rho R, 304)) : fg_Ev E yy_Reader_openRow (d + 5) [.ref 255, .ref 2] (μ, fg_rho R, 304) 304 Q := by
  refine fg_intro (by decide +kernel) (Nat.le_of_ble_eq_true rfl) (fg_okAs rfl) (Nat.le_refl _) ?_
  by_cases hroom : sz < 5
  · refine fg_aloadn (fg_ft (pc := 0) tb_Reader_openRow 0 rfl) rfl ?_
    refine fg_aloadn (fg_ft (pc := 1) tb_Reader_openRow 1 rfl) rfl ?_
    refine fg_callV (fg_ft (pc := 2) tb_Reader_openRow 2 rfl) cf_Reader_176 (fg_isOf ly_255 rfl (fg_lt ly_255 (by decide))) (as := [.ref 2]) (st := []) rfl rfl (Nat.le_of_ble_eq_true rfl) (Nat.le_refl _) (Nat.le_refl _) (ev_Reader_rowsOf_2 ?_)
    refine fg_astoren (fg_ft (pc := 5) tb_Reader_openRow 3 rfl) (Nat.le_of_ble_eq_true rfl) ?_
    refine fg_aloadn (fg_ft (pc := 6) tb_Reader_openRow 4 rfl) rfl ?_
    refine fg_iconst (fg_ft (pc := 7) tb_Reader_openRow 5 rfl) ic_m1 ?_
    refine fg_putI (fg_ft (pc := 8) tb_Reader_openRow 6 rfl) ff_Reader_180 ly_255 rfl (fg_lt ly_255 (by decide)) (fg_nokI _) (fun _ _ h => by cases h; rfl) ?_
    show fg_wp _ _ _ _ _ _ _ _ _ (fg_u2 μ 255 14 (-1), fg_rho R, 304)
    refine fg_aloadn (fg_ft (pc := 11) tb_Reader_openRow 7 rfl) rfl ?_
    refine fg_iconst (fg_ft (pc := 12) tb_Reader_openRow 8 rfl) ic_0 ?_
    refine fg_putI (fg_ft (pc := 13) tb_Reader_openRow 9 rfl) ff_Reader_183 ly_255 rfl (fg_lt ly_255 (by decide)) (fg_nokI _) (fun _ _ h => by cases h; rfl) ?_
    show fg_wp _ _ _ _ _ _ _ _ _ (fg_u2 (fg_u2 μ 255 14 (-1)) 255 12 (nI 0), fg_rho R, 304)
    refine fg_aloadn (fg_ft (pc := 16) tb_Reader_openRow 10 rfl) rfl ?_
    refine fg_iconst (fg_ft (pc := 17) tb_Reader_openRow 11 rfl) ic_m1 ?_
    refine fg_putI (fg_ft (pc := 18) tb_Reader_openRow 12 rfl) ff_Reader_186 ly_255 rfl (fg_lt ly_255 (by decide)) (fg_nokI _) (fun _ _ h => by cases h; rfl) ?_
    show fg_wp _ _ _ _ _ _ _ _ _ (fg_u2 (fg_u2 (fg_u2 μ 255 14 (-1)) 255 12 (nI 0)) 255 13 (-1), fg_rho R, 304)
    refine fg_aloadn (fg_ft (pc := 21) tb_Reader_openRow 13 rfl) rfl ?_
    refine fg_ifnull_r (fg_ft (pc := 22) tb_Reader_openRow 14 rfl) ?_
    refine fg_aloadn (fg_ft (pc := 25) tb_Reader_openRow 15 rfl) rfl ?_
    refine fg_gets (fg_ft (pc := 26) tb_Reader_openRow 16 rfl) fs_Reader_143 ?_
    refine fg_acmp_eq (tgt := 39) (fg_ft (pc := 29) tb_Reader_openRow 17 rfl) (by decide) (by decide) (by decide) (fun h => absurd h (by decide)) (fun _ => ?_)
    refine fg_aloadn (fg_ft (pc := 32) tb_Reader_openRow 18 rfl) rfl ?_
    refine fg_gets (fg_ft (pc := 33) tb_Reader_openRow 19 rfl) fs_Reader_146 ?_
    refine fg_acmp_ne (tgt := 40) (fg_ft (pc := 36) tb_Reader_openRow 20 rfl) (by decide) (by decide) (by decide) (fun _ => ?_) (fun h => absurd h (by decide))
    refine fg_aloadn (fg_ft (pc := 40) tb_Reader_openRow 22 rfl) rfl ?_
    refine fg_aloadn (fg_ft (pc := 41) tb_Reader_openRow 23 rfl) rfl ?_
    refine fg_aloadn (fg_ft (pc := 42) tb_Reader_openRow 24 rfl) rfl ?_
    refine fg_callV (fg_ft (pc := 43) tb_Reader_openRow 25 rfl) cf_Reader_117 (Or.inr (pz_isW (w := 2) (by decide))) (as := []) (st := [.ref 259, .ref 255]) rfl rfl (Nat.le_of_ble_eq_true rfl) (Nat.le_refl _) (Nat.le_refl _) (ev_Word_sort_2 ?_)
    refine fg_iconst (fg_ft (pc := 46) tb_Reader_openRow 26 rfl) ic_1 ?_
    refine fg_icmp_neN (tgt := 54) (fg_ft (pc := 47) tb_Reader_openRow 27 rfl) (by decide) (by decide) (by decide) (fun c47 => ?_) (fun c47 => (absurd c47 (by decide)))
    refine fg_iconst (fg_ft (pc := 54) tb_Reader_openRow 30 rfl) ic_0 ?_
    refine fg_callV (fg_ft (pc := 55) tb_Reader_openRow 31 rfl) cf_Reader_189 (fg_isOf ly_259 rfl (fg_lt ly_259 (by decide))) (as := [.int (nI 0)]) (st := [.ref 255]) rfl rfl (Nat.le_of_ble_eq_true rfl) (Nat.le_refl _) (Nat.le_refl _) (ev_Rows_add (r := 259) (c := 260) (n := 15) (w := 3) (sz := sz) (x := (nI 0)) ⟨ly_259, rh_259_1 R, ly_260⟩ (by decide) (((fg_u2ne (f := (fg_u2 (fg_u2 μ 255 14 (-1)) 255 12 (nI 0))) (a := 255) (k := 13) (b := 259) (j := 0) (x := (-1)) (by decide)).trans ((fg_u2ne (f := (fg_u2 μ 255 14 (-1))) (a := 255) (k := 12) (b := 259) (j := 0) (x := (nI 0)) (by decide)).trans ((fg_u2ne (f := μ) (a := 255) (k := 14) (b := 259) (j := 0) (x := (-1)) (by decide)).trans hw0)))) (((fg_u2ne (f := (fg_u2 (fg_u2 μ 255 14 (-1)) 255 12 (nI 0))) (a := 255) (k := 13) (b := 259) (j := 2) (x := (-1)) (by decide)).trans ((fg_u2ne (f := (fg_u2 μ 255 14 (-1))) (a := 255) (k := 12) (b := 259) (j := 2) (x := (nI 0)) (by decide)).trans ((fg_u2ne (f := μ) (a := 255) (k := 14) (b := 259) (j := 2) (x := (-1)) (by decide)).trans hs2)))) (by omega) (by decide) (by omega) (by omega) (by omega) ?_)
    intro ν hfr hN2 hnew hold
    show fg_wp _ _ _ _ _ _ _ _ _ (ν, fg_rho R, 304)
    refine fg_putI (fg_ft (pc := 58) tb_Reader_openRow 32 rfl) ff_Reader_180 ly_255 rfl (fg_lt ly_255 (by decide)) (fg_nokI _) (fun _ _ h => by cases h; rfl) ?_
    show fg_wp _ _ _ _ _ _ _ _ _ (fg_u2 ν 255 14 (nI sz), fg_rho R, 304)
    refine fg_aloadn (fg_ft (pc := 61) tb_Reader_openRow 33 rfl) rfl ?_
    refine fg_getV (v := (nI sz)) (fg_ft (pc := 62) tb_Reader_openRow 34 rfl) ff_Reader_180 ly_255 rfl (fg_lt ly_255 (by decide)) (show (fg_u2 ν 255 14 (nI sz)) 255 14 = nI sz from fg_u2eq) ?_
    refine fg_iconst (fg_ft (pc := 65) tb_Reader_openRow 35 rfl) ic_m1 ?_
    refine fg_icmp_neM (tgt := 74) (fg_ft (pc := 66) tb_Reader_openRow 36 rfl) (by decide) (Nat.lt_trans (show _ < 2 ^ 31 from by omega) (by decide)) (fun c66 => ?_) (fun c66 => (absurd c66 (by omega)))
    refine fg_aloadn (fg_ft (pc := 74) tb_Reader_openRow 40 rfl) rfl ?_
    refine fg_callV (fg_ft (pc := 75) tb_Reader_openRow 41 rfl) cf_Reader_117 (Or.inr (pz_isW (w := 2) (by decide))) (as := []) (st := []) rfl rfl (Nat.le_of_ble_eq_true rfl) (Nat.le_refl _) (Nat.le_refl _) (ev_Word_sort_2 ?_)
    refine fg_iconst (fg_ft (pc := 78) tb_Reader_openRow 42 rfl) ic_1 ?_
    refine fg_icmp_neN (tgt := 95) (fg_ft (pc := 79) tb_Reader_openRow 43 rfl) (by decide) (by decide) (by decide) (fun c79 => ?_) (fun c79 => (absurd c79 (by decide)))
    exact fg_vret (fg_ft (pc := 95) tb_Reader_openRow 51 rfl) rfl rfl (hR hroom _ (fun a j g1 g2 g3 => (fg_u2nx (by omega)).trans ((hfr a j g1 g2).trans ((fg_u2nx (by omega)).trans ((fg_u2nx (by omega)).trans (fg_u2nx (by omega)))))) ((fg_u2ne (by decide)).trans hN2) (fun i hi => (fg_u2ne (by decide)).trans ((hnew i hi).trans rfl)) (fun i hi => (fg_u2ne (by decide)).trans ((hold i hi).trans ((fg_u2ne (by decide)).trans ((fg_u2ne (by decide)).trans (fg_u2ne (by decide)))))) fg_u2eq ((fg_u2nx (by omega)).trans ((hfr 255 12 (by decide) (Or.inl (by decide))).trans ((fg_u2ns (by decide)).trans fg_u2eq))) ((fg_u2nx (by omega)).trans ((hfr 255 13 (by decide) (Or.inl (by decide))).trans fg_u2eq)))
  · refine fg_aloadn (fg_ft (pc := 0) tb_Reader_openRow 0 rfl) rfl ?_
    refine fg_aloadn (fg_ft (pc := 1) tb_Reader_openRow 1 rfl) rfl ?_
    refine fg_callV (fg_ft (pc := 2) tb_Reader_openRow 2 rfl) cf_Reader_176 (fg_isOf ly_255 rfl (fg_lt ly_255 (by decide))) (as := [.ref 2]) (st := []) rfl rfl (Nat.le_of_ble_eq_true rfl) (Nat.le_refl _) (Nat.le_refl _) (ev_Reader_rowsOf_2 ?_)
    refine fg_astoren (fg_ft (pc := 5) tb_Reader_openRow 3 rfl) (Nat.le_of_ble_eq_true rfl) ?_
    refine fg_aloadn (fg_ft (pc := 6) tb_Reader_openRow 4 rfl) rfl ?_
    refine fg_iconst (fg_ft (pc := 7) tb_Reader_openRow 5 rfl) ic_m1 ?_
    refine fg_putI (fg_ft (pc := 8) tb_Reader_openRow 6 rfl) ff_Reader_180 ly_255 rfl (fg_lt ly_255 (by decide)) (fg_nokI _) (fun _ _ h => by cases h; rfl) ?_
    show fg_wp _ _ _ _ _ _ _ _ _ (fg_u2 μ 255 14 (-1), fg_rho R, 304)
    refine fg_aloadn (fg_ft (pc := 11) tb_Reader_openRow 7 rfl) rfl ?_
    refine fg_iconst (fg_ft (pc := 12) tb_Reader_openRow 8 rfl) ic_0 ?_
    refine fg_putI (fg_ft (pc := 13) tb_Reader_openRow 9 rfl) ff_Reader_183 ly_255 rfl (fg_lt ly_255 (by decide)) (fg_nokI _) (fun _ _ h => by cases h; rfl) ?_
    show fg_wp _ _ _ _ _ _ _ _ _ (fg_u2 (fg_u2 μ 255 14 (-1)) 255 12 (nI 0), fg_rho R, 304)
    refine fg_aloadn (fg_ft (pc := 16) tb_Reader_openRow 10 rfl) rfl ?_
    refine fg_iconst (fg_ft (pc := 17) tb_Reader_openRow 11 rfl) ic_m1 ?_
    refine fg_putI (fg_ft (pc := 18) tb_Reader_openRow 12 rfl) ff_Reader_186 ly_255 rfl (fg_lt ly_255 (by decide)) (fg_nokI _) (fun _ _ h => by cases h; rfl) ?_
    show fg_wp _ _ _ _ _ _ _ _ _ (fg_u2 (fg_u2 (fg_u2 μ 255 14 (-1)) 255 12 (nI 0)) 255 13 (-1), fg_rho R, 304)
    refine fg_aloadn (fg_ft (pc := 21) tb_Reader_openRow 13 rfl) rfl ?_
    refine fg_ifnull_r (fg_ft (pc := 22) tb_Reader_openRow 14 rfl) ?_
    refine fg_aloadn (fg_ft (pc := 25) tb_Reader_openRow 15 rfl) rfl ?_
    refine fg_gets (fg_ft (pc := 26) tb_Reader_openRow 16 rfl) fs_Reader_143 ?_
    refine fg_acmp_eq (tgt := 39) (fg_ft (pc := 29) tb_Reader_openRow 17 rfl) (by decide) (by decide) (by decide) (fun h => absurd h (by decide)) (fun _ => ?_)
    refine fg_aloadn (fg_ft (pc := 32) tb_Reader_openRow 18 rfl) rfl ?_
    refine fg_gets (fg_ft (pc := 33) tb_Reader_openRow 19 rfl) fs_Reader_146 ?_
    refine fg_acmp_ne (tgt := 40) (fg_ft (pc := 36) tb_Reader_openRow 20 rfl) (by decide) (by decide) (by decide) (fun _ => ?_) (fun h => absurd h (by decide))
    refine fg_aloadn (fg_ft (pc := 40) tb_Reader_openRow 22 rfl) rfl ?_
    refine fg_aloadn (fg_ft (pc := 41) tb_Reader_openRow 23 rfl) rfl ?_
    refine fg_aloadn (fg_ft (pc := 42) tb_Reader_openRow 24 rfl) rfl ?_
    refine fg_callV (fg_ft (pc := 43) tb_Reader_openRow 25 rfl) cf_Reader_117 (Or.inr (pz_isW (w := 2) (by decide))) (as := []) (st := [.ref 259, .ref 255]) rfl rfl (Nat.le_of_ble_eq_true rfl) (Nat.le_refl _) (Nat.le_refl _) (ev_Word_sort_2 ?_)
    refine fg_iconst (fg_ft (pc := 46) tb_Reader_openRow 26 rfl) ic_1 ?_
    refine fg_icmp_neN (tgt := 54) (fg_ft (pc := 47) tb_Reader_openRow 27 rfl) (by decide) (by decide) (by decide) (fun c47 => ?_) (fun c47 => (absurd c47 (by decide)))
    refine fg_iconst (fg_ft (pc := 54) tb_Reader_openRow 30 rfl) ic_0 ?_
    refine fg_callV (fg_ft (pc := 55) tb_Reader_openRow 31 rfl) cf_Reader_189 (fg_isOf ly_259 rfl (fg_lt ly_259 (by decide))) (as := [.int (nI 0)]) (st := [.ref 255]) rfl rfl (Nat.le_of_ble_eq_true rfl) (Nat.le_refl _) (Nat.le_refl _) (ev_Rows_addFull (r := 259) (c := 260) (n := 15) (w := 3) (sz := sz) ⟨ly_259, rh_259_1 R, ly_260⟩ (by decide) (((fg_u2ne (f := (fg_u2 (fg_u2 μ 255 14 (-1)) 255 12 (nI 0))) (a := 255) (k := 13) (b := 259) (j := 0) (x := (-1)) (by decide)).trans ((fg_u2ne (f := (fg_u2 μ 255 14 (-1))) (a := 255) (k := 12) (b := 259) (j := 0) (x := (nI 0)) (by decide)).trans ((fg_u2ne (f := μ) (a := 255) (k := 14) (b := 259) (j := 0) (x := (-1)) (by decide)).trans hw0)))) (((fg_u2ne (f := (fg_u2 (fg_u2 μ 255 14 (-1)) 255 12 (nI 0))) (a := 255) (k := 13) (b := 259) (j := 2) (x := (-1)) (by decide)).trans ((fg_u2ne (f := (fg_u2 μ 255 14 (-1))) (a := 255) (k := 12) (b := 259) (j := 2) (x := (nI 0)) (by decide)).trans ((fg_u2ne (f := μ) (a := 255) (k := 14) (b := 259) (j := 2) (x := (-1)) (by decide)).trans hs2)))) (by omega) (by decide) (by omega) (by omega) (by omega) ?_)
    refine fg_putI (fg_ft (pc := 58) tb_Reader_openRow 32 rfl) ff_Reader_180 ly_255 rfl (fg_lt ly_255 (by decide)) (fg_nokI _) (fun _ _ h => by cases h; rfl) ?_
    show fg_wp _ _ _ _ _ _ _ _ _ (fg_u2 (fg_u2 (fg_u2 (fg_u2 μ 255 14 (-1)) 255 12 (nI 0)) 255 13 (-1)) 255 14 (-1), fg_rho R, 304)
    refine fg_aloadn (fg_ft (pc := 61) tb_Reader_openRow 33 rfl) rfl ?_
    refine fg_getV (v := (-1)) (fg_ft (pc := 62) tb_Reader_openRow 34 rfl) ff_Reader_180 ly_255 rfl (fg_lt ly_255 (by decide)) (show (fg_u2 (fg_u2 (fg_u2 (fg_u2 μ 255 14 (-1)) 255 12 (nI 0)) 255 13 (-1)) 255 14 (-1)) 255 14 = -1 from fg_u2eq) ?_
    refine fg_iconst (fg_ft (pc := 65) tb_Reader_openRow 35 rfl) ic_m1 ?_
    refine fg_icmp_ne (tgt := 74) (fg_ft (pc := 66) tb_Reader_openRow 36 rfl) (by decide) (fun c66 => (absurd rfl c66)) (fun c66 => ?_)
    by_cases cF : F = 0
    · refine fg_aloadn (fg_ft (pc := 69) tb_Reader_openRow 37 rfl) rfl ?_
      refine fg_iconst (fg_ft (pc := 70) tb_Reader_openRow 38 rfl) ic_3 ?_
      refine fg_callV (fg_ft (pc := 71) tb_Reader_openRow 39 rfl) cf_Reader_192 (fg_isOf ly_255 rfl (fg_lt ly_255 (by decide))) (as := [.int (nI 3)]) (st := []) rfl rfl (Nat.le_of_ble_eq_true rfl) (Nat.le_refl _) (Nat.le_refl _) (ev_Reader_noteFault0 (s := s) (((fg_u2ns (f := (fg_u2 (fg_u2 (fg_u2 μ 255 14 (-1)) 255 12 (nI 0)) 255 13 (-1))) (a := 255) (k := 14) (b := 255) (j := 2) (x := (-1)) (by decide)).trans ((fg_u2ns (f := (fg_u2 (fg_u2 μ 255 14 (-1)) 255 12 (nI 0))) (a := 255) (k := 13) (b := 255) (j := 2) (x := (-1)) (by decide)).trans ((fg_u2ns (f := (fg_u2 μ 255 14 (-1))) (a := 255) (k := 12) (b := 255) (j := 2) (x := (nI 0)) (by decide)).trans ((fg_u2ns (f := μ) (a := 255) (k := 14) (b := 255) (j := 2) (x := (-1)) (by decide)).trans (hF.trans (congrArg nI cF))))))) (((fg_u2ns (f := (fg_u2 (fg_u2 (fg_u2 μ 255 14 (-1)) 255 12 (nI 0)) 255 13 (-1))) (a := 255) (k := 14) (b := 255) (j := 9) (x := (-1)) (by decide)).trans ((fg_u2ns (f := (fg_u2 (fg_u2 μ 255 14 (-1)) 255 12 (nI 0))) (a := 255) (k := 13) (b := 255) (j := 9) (x := (-1)) (by decide)).trans ((fg_u2ns (f := (fg_u2 μ 255 14 (-1))) (a := 255) (k := 12) (b := 255) (j := 9) (x := (nI 0)) (by decide)).trans ((fg_u2ns (f := μ) (a := 255) (k := 14) (b := 255) (j := 9) (x := (-1)) (by decide)).trans h9))))) ?_)
      show fg_wp _ _ _ _ _ _ _ _ _ (fg_u2 (fg_u2 (fg_u2 (fg_u2 (fg_u2 (fg_u2 μ 255 14 (-1)) 255 12 (nI 0)) 255 13 (-1)) 255 14 (-1)) 255 2 (nI 3)) 255 3 (nI s), fg_rho R, 304)
      refine fg_aloadn (fg_ft (pc := 74) tb_Reader_openRow 40 rfl) rfl ?_
      refine fg_callV (fg_ft (pc := 75) tb_Reader_openRow 41 rfl) cf_Reader_117 (Or.inr (pz_isW (w := 2) (by decide))) (as := []) (st := []) rfl rfl (Nat.le_of_ble_eq_true rfl) (Nat.le_refl _) (Nat.le_refl _) (ev_Word_sort_2 ?_)
      refine fg_iconst (fg_ft (pc := 78) tb_Reader_openRow 42 rfl) ic_1 ?_
      refine fg_icmp_neN (tgt := 95) (fg_ft (pc := 79) tb_Reader_openRow 43 rfl) (by decide) (by decide) (by decide) (fun c79 => ?_) (fun c79 => (absurd c79 (by decide)))
      exact fg_vret (fg_ft (pc := 95) tb_Reader_openRow 51 rfl) rfl rfl (hN hroom _ (fun a j h => ((fg_u2nx (by omega)).trans ((fg_u2nx (by omega)).trans ((fg_u2nx (by omega)).trans ((fg_u2nx (by omega)).trans ((fg_u2nx (by omega)).trans ((fg_u2nx (by omega)).trans rfl))))))) (fun _ => ⟨(fg_u2ns (by decide)).trans fg_u2eq, fg_u2eq⟩) (fun h => absurd cF h))
    · refine fg_aloadn (fg_ft (pc := 69) tb_Reader_openRow 37 rfl) rfl ?_
      refine fg_iconst (fg_ft (pc := 70) tb_Reader_openRow 38 rfl) ic_3 ?_
      refine fg_callV (fg_ft (pc := 71) tb_Reader_openRow 39 rfl) cf_Reader_192 (fg_isOf ly_255 rfl (fg_lt ly_255 (by decide))) (as := [.int (nI 3)]) (st := []) rfl rfl (Nat.le_of_ble_eq_true rfl) (Nat.le_refl _) (Nat.le_refl _) (ev_Reader_noteFault1 (F := F) (((fg_u2ns (f := (fg_u2 (fg_u2 (fg_u2 μ 255 14 (-1)) 255 12 (nI 0)) 255 13 (-1))) (a := 255) (k := 14) (b := 255) (j := 2) (x := (-1)) (by decide)).trans ((fg_u2ns (f := (fg_u2 (fg_u2 μ 255 14 (-1)) 255 12 (nI 0))) (a := 255) (k := 13) (b := 255) (j := 2) (x := (-1)) (by decide)).trans ((fg_u2ns (f := (fg_u2 μ 255 14 (-1))) (a := 255) (k := 12) (b := 255) (j := 2) (x := (nI 0)) (by decide)).trans ((fg_u2ns (f := μ) (a := 255) (k := 14) (b := 255) (j := 2) (x := (-1)) (by decide)).trans hF))))) hF5 cF ?_)
      refine fg_aloadn (fg_ft (pc := 74) tb_Reader_openRow 40 rfl) rfl ?_
      refine fg_callV (fg_ft (pc := 75) tb_Reader_openRow 41 rfl) cf_Reader_117 (Or.inr (pz_isW (w := 2) (by decide))) (as := []) (st := []) rfl rfl (Nat.le_of_ble_eq_true rfl) (Nat.le_refl _) (Nat.le_refl _) (ev_Word_sort_2 ?_)
      refine fg_iconst (fg_ft (pc := 78) tb_Reader_openRow 42 rfl) ic_1 ?_
      refine fg_icmp_neN (tgt := 95) (fg_ft (pc := 79) tb_Reader_openRow 43 rfl) (by decide) (by decide) (by decide) (fun c79 => ?_) (fun c79 => (absurd c79 (by decide)))
      exact fg_vret (fg_ft (pc := 95) tb_Reader_openRow 51 rfl) rfl rfl (hN hroom _ (fun a j h => ((fg_u2nx (by omega)).trans ((fg_u2nx (by omega)).trans ((fg_u2nx (by omega)).trans ((fg_u2nx (by omega)).trans rfl))))) (fun h => absurd h cF) (fun _ => ⟨((fg_u2nx (by decide)).trans ((fg_u2nx (by decide)).trans ((fg_u2nx (by decide)).trans ((fg_u2nx (by decide)).trans rfl)))), ((fg_u2nx (by decide)).trans ((fg_u2nx (by decide)).trans ((fg_u2nx (by decide)).trans ((fg_u2nx (by decide)).trans rfl))))⟩))
theorem ev_Reader_openRow_3 {E : fg_E} {d : Nat} {μ : Nat → Nat → Int32} {R : fg_T4} {Q : Option Value → fg_M → Prop} (hO : ∀ μ' : Nat → Nat → Int32, (∀ a j, (a ≠ 255 ∨ (j ≠ 12 ∧ j ≠ 13 ∧ j ≠ 14)) → μ' a j = μ a j) → μ' 255 12 = nI 0 → μ' 255 13 = -1 → Q none (μ', fg_rho R, 304)) : fg_Ev E yy_Reader_openRow (d + 5) [.ref 255, .ref 3] (μ, fg_rho R, 304) 304 Q := by
  refine fg_intro (by decide +kernel) (Nat.le_of_ble_eq_true rfl) (fg_okAs rfl) (Nat.le_refl _) ?_
  refine fg_aloadn (fg_ft (pc := 0) tb_Reader_openRow 0 rfl) rfl ?_
  refine fg_aloadn (fg_ft (pc := 1) tb_Reader_openRow 1 rfl) rfl ?_
  refine fg_callV (fg_ft (pc := 2) tb_Reader_openRow 2 rfl) cf_Reader_176 (fg_isOf ly_255 rfl (fg_lt ly_255 (by decide))) (as := [.ref 3]) (st := []) rfl rfl (Nat.le_of_ble_eq_true rfl) (Nat.le_refl _) (Nat.le_refl _) (ev_Reader_rowsOf_3 ?_)
  refine fg_astoren (fg_ft (pc := 5) tb_Reader_openRow 3 rfl) (Nat.le_of_ble_eq_true rfl) ?_
  refine fg_aloadn (fg_ft (pc := 6) tb_Reader_openRow 4 rfl) rfl ?_
  refine fg_iconst (fg_ft (pc := 7) tb_Reader_openRow 5 rfl) ic_m1 ?_
  refine fg_putI (fg_ft (pc := 8) tb_Reader_openRow 6 rfl) ff_Reader_180 ly_255 rfl (fg_lt ly_255 (by decide)) (fg_nokI _) (fun _ _ h => by cases h; rfl) ?_
  show fg_wp _ _ _ _ _ _ _ _ _ (fg_u2 μ 255 14 (-1), fg_rho R, 304)
  refine fg_aloadn (fg_ft (pc := 11) tb_Reader_openRow 7 rfl) rfl ?_
  refine fg_iconst (fg_ft (pc := 12) tb_Reader_openRow 8 rfl) ic_0 ?_
  refine fg_putI (fg_ft (pc := 13) tb_Reader_openRow 9 rfl) ff_Reader_183 ly_255 rfl (fg_lt ly_255 (by decide)) (fg_nokI _) (fun _ _ h => by cases h; rfl) ?_
  show fg_wp _ _ _ _ _ _ _ _ _ (fg_u2 (fg_u2 μ 255 14 (-1)) 255 12 (nI 0), fg_rho R, 304)
  refine fg_aloadn (fg_ft (pc := 16) tb_Reader_openRow 10 rfl) rfl ?_
  refine fg_iconst (fg_ft (pc := 17) tb_Reader_openRow 11 rfl) ic_m1 ?_
  refine fg_putI (fg_ft (pc := 18) tb_Reader_openRow 12 rfl) ff_Reader_186 ly_255 rfl (fg_lt ly_255 (by decide)) (fg_nokI _) (fun _ _ h => by cases h; rfl) ?_
  show fg_wp _ _ _ _ _ _ _ _ _ (fg_u2 (fg_u2 (fg_u2 μ 255 14 (-1)) 255 12 (nI 0)) 255 13 (-1), fg_rho R, 304)
  refine fg_aloadn (fg_ft (pc := 21) tb_Reader_openRow 13 rfl) rfl ?_
  refine fg_ifnull_r (fg_ft (pc := 22) tb_Reader_openRow 14 rfl) ?_
  refine fg_aloadn (fg_ft (pc := 25) tb_Reader_openRow 15 rfl) rfl ?_
  refine fg_gets (fg_ft (pc := 26) tb_Reader_openRow 16 rfl) fs_Reader_143 ?_
  refine fg_acmp_eq (tgt := 39) (fg_ft (pc := 29) tb_Reader_openRow 17 rfl) (by decide) (by decide) (by decide) (fun _ => ?_) (fun h => absurd rfl h)
  exact fg_vret (fg_ft (pc := 39) tb_Reader_openRow 21 rfl) rfl rfl (hO _ (fun a j h => (fg_u2nx (by omega)).trans ((fg_u2nx (by omega)).trans (fg_u2nx (by omega)))) ((fg_u2ns (by decide)).trans fg_u2eq) fg_u2eq)
theorem ev_Reader_openRow_4 {E : fg_E} {d : Nat} {μ : Nat → Nat → Int32} {R : fg_T4} {Q : Option Value → fg_M → Prop} (hO : ∀ μ' : Nat → Nat → Int32, (∀ a j, (a ≠ 255 ∨ (j ≠ 12 ∧ j ≠ 13 ∧ j ≠ 14)) → μ' a j = μ a j) → μ' 255 12 = nI 0 → μ' 255 13 = -1 → Q none (μ', fg_rho R, 304)) : fg_Ev E yy_Reader_openRow (d + 5) [.ref 255, .ref 4] (μ, fg_rho R, 304) 304 Q := by
  refine fg_intro (by decide +kernel) (Nat.le_of_ble_eq_true rfl) (fg_okAs rfl) (Nat.le_refl _) ?_
  refine fg_aloadn (fg_ft (pc := 0) tb_Reader_openRow 0 rfl) rfl ?_
  refine fg_aloadn (fg_ft (pc := 1) tb_Reader_openRow 1 rfl) rfl ?_
  refine fg_callV (fg_ft (pc := 2) tb_Reader_openRow 2 rfl) cf_Reader_176 (fg_isOf ly_255 rfl (fg_lt ly_255 (by decide))) (as := [.ref 4]) (st := []) rfl rfl (Nat.le_of_ble_eq_true rfl) (Nat.le_refl _) (Nat.le_refl _) (ev_Reader_rowsOf_4 ?_)
  refine fg_astoren (fg_ft (pc := 5) tb_Reader_openRow 3 rfl) (Nat.le_of_ble_eq_true rfl) ?_
  refine fg_aloadn (fg_ft (pc := 6) tb_Reader_openRow 4 rfl) rfl ?_
  refine fg_iconst (fg_ft (pc := 7) tb_Reader_openRow 5 rfl) ic_m1 ?_
  refine fg_putI (fg_ft (pc := 8) tb_Reader_openRow 6 rfl) ff_Reader_180 ly_255 rfl (fg_lt ly_255 (by decide)) (fg_nokI _) (fun _ _ h => by cases h; rfl) ?_
  show fg_wp _ _ _ _ _ _ _ _ _ (fg_u2 μ 255 14 (-1), fg_rho R, 304)
  refine fg_aloadn (fg_ft (pc := 11) tb_Reader_openRow 7 rfl) rfl ?_
  refine fg_iconst (fg_ft (pc := 12) tb_Reader_openRow 8 rfl) ic_0 ?_
  refine fg_putI (fg_ft (pc := 13) tb_Reader_openRow 9 rfl) ff_Reader_183 ly_255 rfl (fg_lt ly_255 (by decide)) (fg_nokI _) (fun _ _ h => by cases h; rfl) ?_
  show fg_wp _ _ _ _ _ _ _ _ _ (fg_u2 (fg_u2 μ 255 14 (-1)) 255 12 (nI 0), fg_rho R, 304)
  refine fg_aloadn (fg_ft (pc := 16) tb_Reader_openRow 10 rfl) rfl ?_
  refine fg_iconst (fg_ft (pc := 17) tb_Reader_openRow 11 rfl) ic_m1 ?_
  refine fg_putI (fg_ft (pc := 18) tb_Reader_openRow 12 rfl) ff_Reader_186 ly_255 rfl (fg_lt ly_255 (by decide)) (fg_nokI _) (fun _ _ h => by cases h; rfl) ?_
  show fg_wp _ _ _ _ _ _ _ _ _ (fg_u2 (fg_u2 (fg_u2 μ 255 14 (-1)) 255 12 (nI 0)) 255 13 (-1), fg_rho R, 304)
  refine fg_aloadn (fg_ft (pc := 21) tb_Reader_openRow 13 rfl) rfl ?_
  refine fg_ifnull_r (fg_ft (pc := 22) tb_Reader_openRow 14 rfl) ?_
  refine fg_aloadn (fg_ft (pc := 25) tb_Reader_openRow 15 rfl) rfl ?_
  refine fg_gets (fg_ft (pc := 26) tb_Reader_openRow 16 rfl) fs_Reader_143 ?_
  refine fg_acmp_eq (tgt := 39) (fg_ft (pc := 29) tb_Reader_openRow 17 rfl) (by decide) (by decide) (by decide) (fun h => absurd h (by decide)) (fun _ => ?_)
  refine fg_aloadn (fg_ft (pc := 32) tb_Reader_openRow 18 rfl) rfl ?_
  refine fg_gets (fg_ft (pc := 33) tb_Reader_openRow 19 rfl) fs_Reader_146 ?_
  refine fg_acmp_ne (tgt := 40) (fg_ft (pc := 36) tb_Reader_openRow 20 rfl) (by decide) (by decide) (by decide) (fun h => absurd rfl h) (fun _ => ?_)
  exact fg_vret (fg_ft (pc := 39) tb_Reader_openRow 21 rfl) rfl rfl (hO _ (fun a j h => (fg_u2nx (by omega)).trans ((fg_u2nx (by omega)).trans (fg_u2nx (by omega)))) ((fg_u2ns (by decide)).trans fg_u2eq) fg_u2eq)
theorem ev_Reader_openRow_5 {E : fg_E} {d : Nat} {μ : Nat → Nat → Int32} {R : fg_T4} {Q : Option Value → fg_M → Prop} {sz F s : Nat} (h9 : μ 255 9 = nI s) (hF : μ 255 2 = nI F) (hF5 : F < 5) (hw0 : μ 261 0 = nI 2) (hs2 : μ 261 2 = nI sz) (hsz : sz ≤ 12) (hR : sz < pz_mx (pz_rt 5) → ∀ μ' : Nat → Nat → Int32, (∀ a j, a ≠ pz_rc (pz_rt 5) → (a ≠ pz_ro (pz_rt 5) ∨ j ≠ 2) → (a ≠ 255 ∨ (j ≠ 12 ∧ j ≠ 13 ∧ j ≠ 14)) → μ' a j = μ a j) → μ' (pz_ro (pz_rt 5)) 2 = nI (sz + 1) → (∀ i, i < pz_wi (pz_rt 5) → μ' (pz_rc (pz_rt 5)) (sz * pz_wi (pz_rt 5) + i) = nI (if 5 < 10 then 0 else if i = 0 then 5 - 10 else 4294967295)) → (∀ i, i < sz * pz_wi (pz_rt 5) → μ' (pz_rc (pz_rt 5)) i = μ (pz_rc (pz_rt 5)) i) → μ' 255 14 = nI sz → μ' 255 12 = nI 0 → μ' 255 13 = -1 → Q none (μ', fg_rho R, 304)) (hN : ¬ sz < pz_mx (pz_rt 5) → ∀ μ' : Nat → Nat → Int32, (∀ a j, (a ≠ 255 ∨ (j ≠ 2 ∧ j ≠ 3 ∧ j ≠ 12 ∧ j ≠ 13 ∧ j ≠ 14)) → μ' a j = μ a j) → (F = 0 → μ' 255 2 = nI 3 ∧ μ' 255 3 = nI s) → (¬ F = 0 → μ' 255 2 = μ 255 2 ∧ μ' 255 3 = μ 255 3) → Q none (μ', fg_rho R, 304)) : fg_Ev E yy_Reader_openRow (d + 5) [.ref 255, .ref 5] (μ, fg_rho R, 304) 304 Q := by
  refine fg_intro (by decide +kernel) (Nat.le_of_ble_eq_true rfl) (fg_okAs rfl) (Nat.le_refl _) ?_
  by_cases hroom : sz < 12
  · refine fg_aloadn (fg_ft (pc := 0) tb_Reader_openRow 0 rfl) rfl ?_
    refine fg_aloadn (fg_ft (pc := 1) tb_Reader_openRow 1 rfl) rfl ?_
    refine fg_callV (fg_ft (pc := 2) tb_Reader_openRow 2 rfl) cf_Reader_176 (fg_isOf ly_255 rfl (fg_lt ly_255 (by decide))) (as := [.ref 5]) (st := []) rfl rfl (Nat.le_of_ble_eq_true rfl) (Nat.le_refl _) (Nat.le_refl _) (ev_Reader_rowsOf_5 ?_)
    refine fg_astoren (fg_ft (pc := 5) tb_Reader_openRow 3 rfl) (Nat.le_of_ble_eq_true rfl) ?_
    refine fg_aloadn (fg_ft (pc := 6) tb_Reader_openRow 4 rfl) rfl ?_
    refine fg_iconst (fg_ft (pc := 7) tb_Reader_openRow 5 rfl) ic_m1 ?_
    refine fg_putI (fg_ft (pc := 8) tb_Reader_openRow 6 rfl) ff_Reader_180 ly_255 rfl (fg_lt ly_255 (by decide)) (fg_nokI _) (fun _ _ h => by cases h; rfl) ?_
    show fg_wp _ _ _ _ _ _ _ _ _ (fg_u2 μ 255 14 (-1), fg_rho R, 304)
    refine fg_aloadn (fg_ft (pc := 11) tb_Reader_openRow 7 rfl) rfl ?_
    refine fg_iconst (fg_ft (pc := 12) tb_Reader_openRow 8 rfl) ic_0 ?_
    refine fg_putI (fg_ft (pc := 13) tb_Reader_openRow 9 rfl) ff_Reader_183 ly_255 rfl (fg_lt ly_255 (by decide)) (fg_nokI _) (fun _ _ h => by cases h; rfl) ?_
    show fg_wp _ _ _ _ _ _ _ _ _ (fg_u2 (fg_u2 μ 255 14 (-1)) 255 12 (nI 0), fg_rho R, 304)
    refine fg_aloadn (fg_ft (pc := 16) tb_Reader_openRow 10 rfl) rfl ?_
    refine fg_iconst (fg_ft (pc := 17) tb_Reader_openRow 11 rfl) ic_m1 ?_
    refine fg_putI (fg_ft (pc := 18) tb_Reader_openRow 12 rfl) ff_Reader_186 ly_255 rfl (fg_lt ly_255 (by decide)) (fg_nokI _) (fun _ _ h => by cases h; rfl) ?_
    show fg_wp _ _ _ _ _ _ _ _ _ (fg_u2 (fg_u2 (fg_u2 μ 255 14 (-1)) 255 12 (nI 0)) 255 13 (-1), fg_rho R, 304)
    refine fg_aloadn (fg_ft (pc := 21) tb_Reader_openRow 13 rfl) rfl ?_
    refine fg_ifnull_r (fg_ft (pc := 22) tb_Reader_openRow 14 rfl) ?_
    refine fg_aloadn (fg_ft (pc := 25) tb_Reader_openRow 15 rfl) rfl ?_
    refine fg_gets (fg_ft (pc := 26) tb_Reader_openRow 16 rfl) fs_Reader_143 ?_
    refine fg_acmp_eq (tgt := 39) (fg_ft (pc := 29) tb_Reader_openRow 17 rfl) (by decide) (by decide) (by decide) (fun h => absurd h (by decide)) (fun _ => ?_)
    refine fg_aloadn (fg_ft (pc := 32) tb_Reader_openRow 18 rfl) rfl ?_
    refine fg_gets (fg_ft (pc := 33) tb_Reader_openRow 19 rfl) fs_Reader_146 ?_
    refine fg_acmp_ne (tgt := 40) (fg_ft (pc := 36) tb_Reader_openRow 20 rfl) (by decide) (by decide) (by decide) (fun _ => ?_) (fun h => absurd h (by decide))
    refine fg_aloadn (fg_ft (pc := 40) tb_Reader_openRow 22 rfl) rfl ?_
    refine fg_aloadn (fg_ft (pc := 41) tb_Reader_openRow 23 rfl) rfl ?_
    refine fg_aloadn (fg_ft (pc := 42) tb_Reader_openRow 24 rfl) rfl ?_
    refine fg_callV (fg_ft (pc := 43) tb_Reader_openRow 25 rfl) cf_Reader_117 (Or.inr (pz_isW (w := 5) (by decide))) (as := []) (st := [.ref 261, .ref 255]) rfl rfl (Nat.le_of_ble_eq_true rfl) (Nat.le_refl _) (Nat.le_refl _) (ev_Word_sort_5 ?_)
    refine fg_iconst (fg_ft (pc := 46) tb_Reader_openRow 26 rfl) ic_1 ?_
    refine fg_icmp_neN (tgt := 54) (fg_ft (pc := 47) tb_Reader_openRow 27 rfl) (by decide) (by decide) (by decide) (fun c47 => ?_) (fun c47 => (absurd c47 (by decide)))
    refine fg_iconst (fg_ft (pc := 54) tb_Reader_openRow 30 rfl) ic_0 ?_
    refine fg_callV (fg_ft (pc := 55) tb_Reader_openRow 31 rfl) cf_Reader_189 (fg_isOf ly_261 rfl (fg_lt ly_261 (by decide))) (as := [.int (nI 0)]) (st := [.ref 255]) rfl rfl (Nat.le_of_ble_eq_true rfl) (Nat.le_refl _) (Nat.le_refl _) (ev_Rows_add (r := 261) (c := 262) (n := 24) (w := 2) (sz := sz) (x := (nI 0)) ⟨ly_261, rh_261_1 R, ly_262⟩ (by decide) (((fg_u2ne (f := (fg_u2 (fg_u2 μ 255 14 (-1)) 255 12 (nI 0))) (a := 255) (k := 13) (b := 261) (j := 0) (x := (-1)) (by decide)).trans ((fg_u2ne (f := (fg_u2 μ 255 14 (-1))) (a := 255) (k := 12) (b := 261) (j := 0) (x := (nI 0)) (by decide)).trans ((fg_u2ne (f := μ) (a := 255) (k := 14) (b := 261) (j := 0) (x := (-1)) (by decide)).trans hw0)))) (((fg_u2ne (f := (fg_u2 (fg_u2 μ 255 14 (-1)) 255 12 (nI 0))) (a := 255) (k := 13) (b := 261) (j := 2) (x := (-1)) (by decide)).trans ((fg_u2ne (f := (fg_u2 μ 255 14 (-1))) (a := 255) (k := 12) (b := 261) (j := 2) (x := (nI 0)) (by decide)).trans ((fg_u2ne (f := μ) (a := 255) (k := 14) (b := 261) (j := 2) (x := (-1)) (by decide)).trans hs2)))) (by omega) (by decide) (by omega) (by omega) (by omega) ?_)
    intro ν hfr hN2 hnew hold
    show fg_wp _ _ _ _ _ _ _ _ _ (ν, fg_rho R, 304)
    refine fg_putI (fg_ft (pc := 58) tb_Reader_openRow 32 rfl) ff_Reader_180 ly_255 rfl (fg_lt ly_255 (by decide)) (fg_nokI _) (fun _ _ h => by cases h; rfl) ?_
    show fg_wp _ _ _ _ _ _ _ _ _ (fg_u2 ν 255 14 (nI sz), fg_rho R, 304)
    refine fg_aloadn (fg_ft (pc := 61) tb_Reader_openRow 33 rfl) rfl ?_
    refine fg_getV (v := (nI sz)) (fg_ft (pc := 62) tb_Reader_openRow 34 rfl) ff_Reader_180 ly_255 rfl (fg_lt ly_255 (by decide)) (show (fg_u2 ν 255 14 (nI sz)) 255 14 = nI sz from fg_u2eq) ?_
    refine fg_iconst (fg_ft (pc := 65) tb_Reader_openRow 35 rfl) ic_m1 ?_
    refine fg_icmp_neM (tgt := 74) (fg_ft (pc := 66) tb_Reader_openRow 36 rfl) (by decide) (Nat.lt_trans (show _ < 2 ^ 31 from by omega) (by decide)) (fun c66 => ?_) (fun c66 => (absurd c66 (by omega)))
    refine fg_aloadn (fg_ft (pc := 74) tb_Reader_openRow 40 rfl) rfl ?_
    refine fg_callV (fg_ft (pc := 75) tb_Reader_openRow 41 rfl) cf_Reader_117 (Or.inr (pz_isW (w := 5) (by decide))) (as := []) (st := []) rfl rfl (Nat.le_of_ble_eq_true rfl) (Nat.le_refl _) (Nat.le_refl _) (ev_Word_sort_5 ?_)
    refine fg_iconst (fg_ft (pc := 78) tb_Reader_openRow 42 rfl) ic_1 ?_
    refine fg_icmp_neN (tgt := 95) (fg_ft (pc := 79) tb_Reader_openRow 43 rfl) (by decide) (by decide) (by decide) (fun c79 => ?_) (fun c79 => (absurd c79 (by decide)))
    exact fg_vret (fg_ft (pc := 95) tb_Reader_openRow 51 rfl) rfl rfl (hR hroom _ (fun a j g1 g2 g3 => (fg_u2nx (by omega)).trans ((hfr a j g1 g2).trans ((fg_u2nx (by omega)).trans ((fg_u2nx (by omega)).trans (fg_u2nx (by omega)))))) ((fg_u2ne (by decide)).trans hN2) (fun i hi => (fg_u2ne (by decide)).trans ((hnew i hi).trans rfl)) (fun i hi => (fg_u2ne (by decide)).trans ((hold i hi).trans ((fg_u2ne (by decide)).trans ((fg_u2ne (by decide)).trans (fg_u2ne (by decide)))))) fg_u2eq ((fg_u2nx (by omega)).trans ((hfr 255 12 (by decide) (Or.inl (by decide))).trans ((fg_u2ns (by decide)).trans fg_u2eq))) ((fg_u2nx (by omega)).trans ((hfr 255 13 (by decide) (Or.inl (by decide))).trans fg_u2eq)))
  · refine fg_aloadn (fg_ft (pc := 0) tb_Reader_openRow 0 rfl) rfl ?_
    refine fg_aloadn (fg_ft (pc := 1) tb_Reader_openRow 1 rfl) rfl ?_
    refine fg_callV (fg_ft (pc := 2) tb_Reader_openRow 2 rfl) cf_Reader_176 (fg_isOf ly_255 rfl (fg_lt ly_255 (by decide))) (as := [.ref 5]) (st := []) rfl rfl (Nat.le_of_ble_eq_true rfl) (Nat.le_refl _) (Nat.le_refl _) (ev_Reader_rowsOf_5 ?_)
    refine fg_astoren (fg_ft (pc := 5) tb_Reader_openRow 3 rfl) (Nat.le_of_ble_eq_true rfl) ?_
    refine fg_aloadn (fg_ft (pc := 6) tb_Reader_openRow 4 rfl) rfl ?_
    refine fg_iconst (fg_ft (pc := 7) tb_Reader_openRow 5 rfl) ic_m1 ?_
    refine fg_putI (fg_ft (pc := 8) tb_Reader_openRow 6 rfl) ff_Reader_180 ly_255 rfl (fg_lt ly_255 (by decide)) (fg_nokI _) (fun _ _ h => by cases h; rfl) ?_
    show fg_wp _ _ _ _ _ _ _ _ _ (fg_u2 μ 255 14 (-1), fg_rho R, 304)
    refine fg_aloadn (fg_ft (pc := 11) tb_Reader_openRow 7 rfl) rfl ?_
    refine fg_iconst (fg_ft (pc := 12) tb_Reader_openRow 8 rfl) ic_0 ?_
    refine fg_putI (fg_ft (pc := 13) tb_Reader_openRow 9 rfl) ff_Reader_183 ly_255 rfl (fg_lt ly_255 (by decide)) (fg_nokI _) (fun _ _ h => by cases h; rfl) ?_
    show fg_wp _ _ _ _ _ _ _ _ _ (fg_u2 (fg_u2 μ 255 14 (-1)) 255 12 (nI 0), fg_rho R, 304)
    refine fg_aloadn (fg_ft (pc := 16) tb_Reader_openRow 10 rfl) rfl ?_
    refine fg_iconst (fg_ft (pc := 17) tb_Reader_openRow 11 rfl) ic_m1 ?_
    refine fg_putI (fg_ft (pc := 18) tb_Reader_openRow 12 rfl) ff_Reader_186 ly_255 rfl (fg_lt ly_255 (by decide)) (fg_nokI _) (fun _ _ h => by cases h; rfl) ?_
    show fg_wp _ _ _ _ _ _ _ _ _ (fg_u2 (fg_u2 (fg_u2 μ 255 14 (-1)) 255 12 (nI 0)) 255 13 (-1), fg_rho R, 304)
    refine fg_aloadn (fg_ft (pc := 21) tb_Reader_openRow 13 rfl) rfl ?_
    refine fg_ifnull_r (fg_ft (pc := 22) tb_Reader_openRow 14 rfl) ?_
    refine fg_aloadn (fg_ft (pc := 25) tb_Reader_openRow 15 rfl) rfl ?_
    refine fg_gets (fg_ft (pc := 26) tb_Reader_openRow 16 rfl) fs_Reader_143 ?_
    refine fg_acmp_eq (tgt := 39) (fg_ft (pc := 29) tb_Reader_openRow 17 rfl) (by decide) (by decide) (by decide) (fun h => absurd h (by decide)) (fun _ => ?_)
    refine fg_aloadn (fg_ft (pc := 32) tb_Reader_openRow 18 rfl) rfl ?_
    refine fg_gets (fg_ft (pc := 33) tb_Reader_openRow 19 rfl) fs_Reader_146 ?_
    refine fg_acmp_ne (tgt := 40) (fg_ft (pc := 36) tb_Reader_openRow 20 rfl) (by decide) (by decide) (by decide) (fun _ => ?_) (fun h => absurd h (by decide))
    refine fg_aloadn (fg_ft (pc := 40) tb_Reader_openRow 22 rfl) rfl ?_
    refine fg_aloadn (fg_ft (pc := 41) tb_Reader_openRow 23 rfl) rfl ?_
    refine fg_aloadn (fg_ft (pc := 42) tb_Reader_openRow 24 rfl) rfl ?_
    refine fg_callV (fg_ft (pc := 43) tb_Reader_openRow 25 rfl) cf_Reader_117 (Or.inr (pz_isW (w := 5) (by decide))) (as := []) (st := [.ref 261, .ref 255]) rfl rfl (Nat.le_of_ble_eq_true rfl) (Nat.le_refl _) (Nat.le_refl _) (ev_Word_sort_5 ?_)
    refine fg_iconst (fg_ft (pc := 46) tb_Reader_openRow 26 rfl) ic_1 ?_
    refine fg_icmp_neN (tgt := 54) (fg_ft (pc := 47) tb_Reader_openRow 27 rfl) (by decide) (by decide) (by decide) (fun c47 => ?_) (fun c47 => (absurd c47 (by decide)))
    refine fg_iconst (fg_ft (pc := 54) tb_Reader_openRow 30 rfl) ic_0 ?_
    refine fg_callV (fg_ft (pc := 55) tb_Reader_openRow 31 rfl) cf_Reader_189 (fg_isOf ly_261 rfl (fg_lt ly_261 (by decide))) (as := [.int (nI 0)]) (st := [.ref 255]) rfl rfl (Nat.le_of_ble_eq_true rfl) (Nat.le_refl _) (Nat.le_refl _) (ev_Rows_addFull (r := 261) (c := 262) (n := 24) (w := 2) (sz := sz) ⟨ly_261, rh_261_1 R, ly_262⟩ (by decide) (((fg_u2ne (f := (fg_u2 (fg_u2 μ 255 14 (-1)) 255 12 (nI 0))) (a := 255) (k := 13) (b := 261) (j := 0) (x := (-1)) (by decide)).trans ((fg_u2ne (f := (fg_u2 μ 255 14 (-1))) (a := 255) (k := 12) (b := 261) (j := 0) (x := (nI 0)) (by decide)).trans ((fg_u2ne (f := μ) (a := 255) (k := 14) (b := 261) (j := 0) (x := (-1)) (by decide)).trans hw0)))) (((fg_u2ne (f := (fg_u2 (fg_u2 μ 255 14 (-1)) 255 12 (nI 0))) (a := 255) (k := 13) (b := 261) (j := 2) (x := (-1)) (by decide)).trans ((fg_u2ne (f := (fg_u2 μ 255 14 (-1))) (a := 255) (k := 12) (b := 261) (j := 2) (x := (nI 0)) (by decide)).trans ((fg_u2ne (f := μ) (a := 255) (k := 14) (b := 261) (j := 2) (x := (-1)) (by decide)).trans hs2)))) (by omega) (by decide) (by omega) (by omega) (by omega) ?_)
    refine fg_putI (fg_ft (pc := 58) tb_Reader_openRow 32 rfl) ff_Reader_180 ly_255 rfl (fg_lt ly_255 (by decide)) (fg_nokI _) (fun _ _ h => by cases h; rfl) ?_
    show fg_wp _ _ _ _ _ _ _ _ _ (fg_u2 (fg_u2 (fg_u2 (fg_u2 μ 255 14 (-1)) 255 12 (nI 0)) 255 13 (-1)) 255 14 (-1), fg_rho R, 304)
    refine fg_aloadn (fg_ft (pc := 61) tb_Reader_openRow 33 rfl) rfl ?_
    refine fg_getV (v := (-1)) (fg_ft (pc := 62) tb_Reader_openRow 34 rfl) ff_Reader_180 ly_255 rfl (fg_lt ly_255 (by decide)) (show (fg_u2 (fg_u2 (fg_u2 (fg_u2 μ 255 14 (-1)) 255 12 (nI 0)) 255 13 (-1)) 255 14 (-1)) 255 14 = -1 from fg_u2eq) ?_
    refine fg_iconst (fg_ft (pc := 65) tb_Reader_openRow 35 rfl) ic_m1 ?_
    refine fg_icmp_ne (tgt := 74) (fg_ft (pc := 66) tb_Reader_openRow 36 rfl) (by decide) (fun c66 => (absurd rfl c66)) (fun c66 => ?_)
    by_cases cF : F = 0
    · refine fg_aloadn (fg_ft (pc := 69) tb_Reader_openRow 37 rfl) rfl ?_
      refine fg_iconst (fg_ft (pc := 70) tb_Reader_openRow 38 rfl) ic_3 ?_
      refine fg_callV (fg_ft (pc := 71) tb_Reader_openRow 39 rfl) cf_Reader_192 (fg_isOf ly_255 rfl (fg_lt ly_255 (by decide))) (as := [.int (nI 3)]) (st := []) rfl rfl (Nat.le_of_ble_eq_true rfl) (Nat.le_refl _) (Nat.le_refl _) (ev_Reader_noteFault0 (s := s) (((fg_u2ns (f := (fg_u2 (fg_u2 (fg_u2 μ 255 14 (-1)) 255 12 (nI 0)) 255 13 (-1))) (a := 255) (k := 14) (b := 255) (j := 2) (x := (-1)) (by decide)).trans ((fg_u2ns (f := (fg_u2 (fg_u2 μ 255 14 (-1)) 255 12 (nI 0))) (a := 255) (k := 13) (b := 255) (j := 2) (x := (-1)) (by decide)).trans ((fg_u2ns (f := (fg_u2 μ 255 14 (-1))) (a := 255) (k := 12) (b := 255) (j := 2) (x := (nI 0)) (by decide)).trans ((fg_u2ns (f := μ) (a := 255) (k := 14) (b := 255) (j := 2) (x := (-1)) (by decide)).trans (hF.trans (congrArg nI cF))))))) (((fg_u2ns (f := (fg_u2 (fg_u2 (fg_u2 μ 255 14 (-1)) 255 12 (nI 0)) 255 13 (-1))) (a := 255) (k := 14) (b := 255) (j := 9) (x := (-1)) (by decide)).trans ((fg_u2ns (f := (fg_u2 (fg_u2 μ 255 14 (-1)) 255 12 (nI 0))) (a := 255) (k := 13) (b := 255) (j := 9) (x := (-1)) (by decide)).trans ((fg_u2ns (f := (fg_u2 μ 255 14 (-1))) (a := 255) (k := 12) (b := 255) (j := 9) (x := (nI 0)) (by decide)).trans ((fg_u2ns (f := μ) (a := 255) (k := 14) (b := 255) (j := 9) (x := (-1)) (by decide)).trans h9))))) ?_)
      show fg_wp _ _ _ _ _ _ _ _ _ (fg_u2 (fg_u2 (fg_u2 (fg_u2 (fg_u2 (fg_u2 μ 255 14 (-1)) 255 12 (nI 0)) 255 13 (-1)) 255 14 (-1)) 255 2 (nI 3)) 255 3 (nI s), fg_rho R, 304)
      refine fg_aloadn (fg_ft (pc := 74) tb_Reader_openRow 40 rfl) rfl ?_
      refine fg_callV (fg_ft (pc := 75) tb_Reader_openRow 41 rfl) cf_Reader_117 (Or.inr (pz_isW (w := 5) (by decide))) (as := []) (st := []) rfl rfl (Nat.le_of_ble_eq_true rfl) (Nat.le_refl _) (Nat.le_refl _) (ev_Word_sort_5 ?_)
      refine fg_iconst (fg_ft (pc := 78) tb_Reader_openRow 42 rfl) ic_1 ?_
      refine fg_icmp_neN (tgt := 95) (fg_ft (pc := 79) tb_Reader_openRow 43 rfl) (by decide) (by decide) (by decide) (fun c79 => ?_) (fun c79 => (absurd c79 (by decide)))
      exact fg_vret (fg_ft (pc := 95) tb_Reader_openRow 51 rfl) rfl rfl (hN hroom _ (fun a j h => ((fg_u2nx (by omega)).trans ((fg_u2nx (by omega)).trans ((fg_u2nx (by omega)).trans ((fg_u2nx (by omega)).trans ((fg_u2nx (by omega)).trans ((fg_u2nx (by omega)).trans rfl))))))) (fun _ => ⟨(fg_u2ns (by decide)).trans fg_u2eq, fg_u2eq⟩) (fun h => absurd cF h))
    · refine fg_aloadn (fg_ft (pc := 69) tb_Reader_openRow 37 rfl) rfl ?_
      refine fg_iconst (fg_ft (pc := 70) tb_Reader_openRow 38 rfl) ic_3 ?_
      refine fg_callV (fg_ft (pc := 71) tb_Reader_openRow 39 rfl) cf_Reader_192 (fg_isOf ly_255 rfl (fg_lt ly_255 (by decide))) (as := [.int (nI 3)]) (st := []) rfl rfl (Nat.le_of_ble_eq_true rfl) (Nat.le_refl _) (Nat.le_refl _) (ev_Reader_noteFault1 (F := F) (((fg_u2ns (f := (fg_u2 (fg_u2 (fg_u2 μ 255 14 (-1)) 255 12 (nI 0)) 255 13 (-1))) (a := 255) (k := 14) (b := 255) (j := 2) (x := (-1)) (by decide)).trans ((fg_u2ns (f := (fg_u2 (fg_u2 μ 255 14 (-1)) 255 12 (nI 0))) (a := 255) (k := 13) (b := 255) (j := 2) (x := (-1)) (by decide)).trans ((fg_u2ns (f := (fg_u2 μ 255 14 (-1))) (a := 255) (k := 12) (b := 255) (j := 2) (x := (nI 0)) (by decide)).trans ((fg_u2ns (f := μ) (a := 255) (k := 14) (b := 255) (j := 2) (x := (-1)) (by decide)).trans hF))))) hF5 cF ?_)
      refine fg_aloadn (fg_ft (pc := 74) tb_Reader_openRow 40 rfl) rfl ?_
      refine fg_callV (fg_ft (pc := 75) tb_Reader_openRow 41 rfl) cf_Reader_117 (Or.inr (pz_isW (w := 5) (by decide))) (as := []) (st := []) rfl rfl (Nat.le_of_ble_eq_true rfl) (Nat.le_refl _) (Nat.le_refl _) (ev_Word_sort_5 ?_)
      refine fg_iconst (fg_ft (pc := 78) tb_Reader_openRow 42 rfl) ic_1 ?_
      refine fg_icmp_neN (tgt := 95) (fg_ft (pc := 79) tb_Reader_openRow 43 rfl) (by decide) (by decide) (by decide) (fun c79 => ?_) (fun c79 => (absurd c79 (by decide)))
      exact fg_vret (fg_ft (pc := 95) tb_Reader_openRow 51 rfl) rfl rfl (hN hroom _ (fun a j h => ((fg_u2nx (by omega)).trans ((fg_u2nx (by omega)).trans ((fg_u2nx (by omega)).trans ((fg_u2nx (by omega)).trans rfl))))) (fun h => absurd h cF) (fun _ => ⟨((fg_u2nx (by decide)).trans ((fg_u2nx (by decide)).trans ((fg_u2nx (by decide)).trans ((fg_u2nx (by decide)).trans rfl)))), ((fg_u2nx (by decide)).trans ((fg_u2nx (by decide)).trans ((fg_u2nx (by decide)).trans ((fg_u2nx (by decide)).trans rfl))))⟩))
theorem ev_Reader_openRow_6 {E : fg_E} {d : Nat} {μ : Nat → Nat → Int32} {R : fg_T4} {Q : Option Value → fg_M → Prop} {sz F s : Nat} (h9 : μ 255 9 = nI s) (hF : μ 255 2 = nI F) (hF5 : F < 5) (hw0 : μ 263 0 = nI 4) (hs2 : μ 263 2 = nI sz) (hsz : sz ≤ 12) (hR : sz < pz_mx (pz_rt 6) → ∀ μ' : Nat → Nat → Int32, (∀ a j, a ≠ pz_rc (pz_rt 6) → (a ≠ pz_ro (pz_rt 6) ∨ j ≠ 2) → (a ≠ 255 ∨ (j ≠ 12 ∧ j ≠ 13 ∧ j ≠ 14)) → μ' a j = μ a j) → μ' (pz_ro (pz_rt 6)) 2 = nI (sz + 1) → (∀ i, i < pz_wi (pz_rt 6) → μ' (pz_rc (pz_rt 6)) (sz * pz_wi (pz_rt 6) + i) = nI (if 6 < 10 then 0 else if i = 0 then 6 - 10 else 4294967295)) → (∀ i, i < sz * pz_wi (pz_rt 6) → μ' (pz_rc (pz_rt 6)) i = μ (pz_rc (pz_rt 6)) i) → μ' 255 14 = nI sz → μ' 255 12 = nI 0 → μ' 255 13 = -1 → Q none (μ', fg_rho R, 304)) (hN : ¬ sz < pz_mx (pz_rt 6) → ∀ μ' : Nat → Nat → Int32, (∀ a j, (a ≠ 255 ∨ (j ≠ 2 ∧ j ≠ 3 ∧ j ≠ 12 ∧ j ≠ 13 ∧ j ≠ 14)) → μ' a j = μ a j) → (F = 0 → μ' 255 2 = nI 3 ∧ μ' 255 3 = nI s) → (¬ F = 0 → μ' 255 2 = μ 255 2 ∧ μ' 255 3 = μ 255 3) → Q none (μ', fg_rho R, 304)) : fg_Ev E yy_Reader_openRow (d + 5) [.ref 255, .ref 6] (μ, fg_rho R, 304) 304 Q := by
  refine fg_intro (by decide +kernel) (Nat.le_of_ble_eq_true rfl) (fg_okAs rfl) (Nat.le_refl _) ?_
  by_cases hroom : sz < 12
  · refine fg_aloadn (fg_ft (pc := 0) tb_Reader_openRow 0 rfl) rfl ?_
    refine fg_aloadn (fg_ft (pc := 1) tb_Reader_openRow 1 rfl) rfl ?_
    refine fg_callV (fg_ft (pc := 2) tb_Reader_openRow 2 rfl) cf_Reader_176 (fg_isOf ly_255 rfl (fg_lt ly_255 (by decide))) (as := [.ref 6]) (st := []) rfl rfl (Nat.le_of_ble_eq_true rfl) (Nat.le_refl _) (Nat.le_refl _) (ev_Reader_rowsOf_6 ?_)
    refine fg_astoren (fg_ft (pc := 5) tb_Reader_openRow 3 rfl) (Nat.le_of_ble_eq_true rfl) ?_
    refine fg_aloadn (fg_ft (pc := 6) tb_Reader_openRow 4 rfl) rfl ?_
    refine fg_iconst (fg_ft (pc := 7) tb_Reader_openRow 5 rfl) ic_m1 ?_
    refine fg_putI (fg_ft (pc := 8) tb_Reader_openRow 6 rfl) ff_Reader_180 ly_255 rfl (fg_lt ly_255 (by decide)) (fg_nokI _) (fun _ _ h => by cases h; rfl) ?_
    show fg_wp _ _ _ _ _ _ _ _ _ (fg_u2 μ 255 14 (-1), fg_rho R, 304)
    refine fg_aloadn (fg_ft (pc := 11) tb_Reader_openRow 7 rfl) rfl ?_
    refine fg_iconst (fg_ft (pc := 12) tb_Reader_openRow 8 rfl) ic_0 ?_
    refine fg_putI (fg_ft (pc := 13) tb_Reader_openRow 9 rfl) ff_Reader_183 ly_255 rfl (fg_lt ly_255 (by decide)) (fg_nokI _) (fun _ _ h => by cases h; rfl) ?_
    show fg_wp _ _ _ _ _ _ _ _ _ (fg_u2 (fg_u2 μ 255 14 (-1)) 255 12 (nI 0), fg_rho R, 304)
    refine fg_aloadn (fg_ft (pc := 16) tb_Reader_openRow 10 rfl) rfl ?_
    refine fg_iconst (fg_ft (pc := 17) tb_Reader_openRow 11 rfl) ic_m1 ?_
    refine fg_putI (fg_ft (pc := 18) tb_Reader_openRow 12 rfl) ff_Reader_186 ly_255 rfl (fg_lt ly_255 (by decide)) (fg_nokI _) (fun _ _ h => by cases h; rfl) ?_
    show fg_wp _ _ _ _ _ _ _ _ _ (fg_u2 (fg_u2 (fg_u2 μ 255 14 (-1)) 255 12 (nI 0)) 255 13 (-1), fg_rho R, 304)
    refine fg_aloadn (fg_ft (pc := 21) tb_Reader_openRow 13 rfl) rfl ?_
    refine fg_ifnull_r (fg_ft (pc := 22) tb_Reader_openRow 14 rfl) ?_
    refine fg_aloadn (fg_ft (pc := 25) tb_Reader_openRow 15 rfl) rfl ?_
    refine fg_gets (fg_ft (pc := 26) tb_Reader_openRow 16 rfl) fs_Reader_143 ?_
    refine fg_acmp_eq (tgt := 39) (fg_ft (pc := 29) tb_Reader_openRow 17 rfl) (by decide) (by decide) (by decide) (fun h => absurd h (by decide)) (fun _ => ?_)
    refine fg_aloadn (fg_ft (pc := 32) tb_Reader_openRow 18 rfl) rfl ?_
    refine fg_gets (fg_ft (pc := 33) tb_Reader_openRow 19 rfl) fs_Reader_146 ?_
    refine fg_acmp_ne (tgt := 40) (fg_ft (pc := 36) tb_Reader_openRow 20 rfl) (by decide) (by decide) (by decide) (fun _ => ?_) (fun h => absurd h (by decide))
    refine fg_aloadn (fg_ft (pc := 40) tb_Reader_openRow 22 rfl) rfl ?_
    refine fg_aloadn (fg_ft (pc := 41) tb_Reader_openRow 23 rfl) rfl ?_
    refine fg_aloadn (fg_ft (pc := 42) tb_Reader_openRow 24 rfl) rfl ?_
    refine fg_callV (fg_ft (pc := 43) tb_Reader_openRow 25 rfl) cf_Reader_117 (Or.inr (pz_isW (w := 6) (by decide))) (as := []) (st := [.ref 263, .ref 255]) rfl rfl (Nat.le_of_ble_eq_true rfl) (Nat.le_refl _) (Nat.le_refl _) (ev_Word_sort_6 ?_)
    refine fg_iconst (fg_ft (pc := 46) tb_Reader_openRow 26 rfl) ic_1 ?_
    refine fg_icmp_neN (tgt := 54) (fg_ft (pc := 47) tb_Reader_openRow 27 rfl) (by decide) (by decide) (by decide) (fun c47 => ?_) (fun c47 => (absurd c47 (by decide)))
    refine fg_iconst (fg_ft (pc := 54) tb_Reader_openRow 30 rfl) ic_0 ?_
    refine fg_callV (fg_ft (pc := 55) tb_Reader_openRow 31 rfl) cf_Reader_189 (fg_isOf ly_263 rfl (fg_lt ly_263 (by decide))) (as := [.int (nI 0)]) (st := [.ref 255]) rfl rfl (Nat.le_of_ble_eq_true rfl) (Nat.le_refl _) (Nat.le_refl _) (ev_Rows_add (r := 263) (c := 264) (n := 48) (w := 4) (sz := sz) (x := (nI 0)) ⟨ly_263, rh_263_1 R, ly_264⟩ (by decide) (((fg_u2ne (f := (fg_u2 (fg_u2 μ 255 14 (-1)) 255 12 (nI 0))) (a := 255) (k := 13) (b := 263) (j := 0) (x := (-1)) (by decide)).trans ((fg_u2ne (f := (fg_u2 μ 255 14 (-1))) (a := 255) (k := 12) (b := 263) (j := 0) (x := (nI 0)) (by decide)).trans ((fg_u2ne (f := μ) (a := 255) (k := 14) (b := 263) (j := 0) (x := (-1)) (by decide)).trans hw0)))) (((fg_u2ne (f := (fg_u2 (fg_u2 μ 255 14 (-1)) 255 12 (nI 0))) (a := 255) (k := 13) (b := 263) (j := 2) (x := (-1)) (by decide)).trans ((fg_u2ne (f := (fg_u2 μ 255 14 (-1))) (a := 255) (k := 12) (b := 263) (j := 2) (x := (nI 0)) (by decide)).trans ((fg_u2ne (f := μ) (a := 255) (k := 14) (b := 263) (j := 2) (x := (-1)) (by decide)).trans hs2)))) (by omega) (by decide) (by omega) (by omega) (by omega) ?_)
    intro ν hfr hN2 hnew hold
    show fg_wp _ _ _ _ _ _ _ _ _ (ν, fg_rho R, 304)
    refine fg_putI (fg_ft (pc := 58) tb_Reader_openRow 32 rfl) ff_Reader_180 ly_255 rfl (fg_lt ly_255 (by decide)) (fg_nokI _) (fun _ _ h => by cases h; rfl) ?_
    show fg_wp _ _ _ _ _ _ _ _ _ (fg_u2 ν 255 14 (nI sz), fg_rho R, 304)
    refine fg_aloadn (fg_ft (pc := 61) tb_Reader_openRow 33 rfl) rfl ?_
    refine fg_getV (v := (nI sz)) (fg_ft (pc := 62) tb_Reader_openRow 34 rfl) ff_Reader_180 ly_255 rfl (fg_lt ly_255 (by decide)) (show (fg_u2 ν 255 14 (nI sz)) 255 14 = nI sz from fg_u2eq) ?_
    refine fg_iconst (fg_ft (pc := 65) tb_Reader_openRow 35 rfl) ic_m1 ?_
    refine fg_icmp_neM (tgt := 74) (fg_ft (pc := 66) tb_Reader_openRow 36 rfl) (by decide) (Nat.lt_trans (show _ < 2 ^ 31 from by omega) (by decide)) (fun c66 => ?_) (fun c66 => (absurd c66 (by omega)))
    refine fg_aloadn (fg_ft (pc := 74) tb_Reader_openRow 40 rfl) rfl ?_
    refine fg_callV (fg_ft (pc := 75) tb_Reader_openRow 41 rfl) cf_Reader_117 (Or.inr (pz_isW (w := 6) (by decide))) (as := []) (st := []) rfl rfl (Nat.le_of_ble_eq_true rfl) (Nat.le_refl _) (Nat.le_refl _) (ev_Word_sort_6 ?_)
    refine fg_iconst (fg_ft (pc := 78) tb_Reader_openRow 42 rfl) ic_1 ?_
    refine fg_icmp_neN (tgt := 95) (fg_ft (pc := 79) tb_Reader_openRow 43 rfl) (by decide) (by decide) (by decide) (fun c79 => ?_) (fun c79 => (absurd c79 (by decide)))
    exact fg_vret (fg_ft (pc := 95) tb_Reader_openRow 51 rfl) rfl rfl (hR hroom _ (fun a j g1 g2 g3 => (fg_u2nx (by omega)).trans ((hfr a j g1 g2).trans ((fg_u2nx (by omega)).trans ((fg_u2nx (by omega)).trans (fg_u2nx (by omega)))))) ((fg_u2ne (by decide)).trans hN2) (fun i hi => (fg_u2ne (by decide)).trans ((hnew i hi).trans rfl)) (fun i hi => (fg_u2ne (by decide)).trans ((hold i hi).trans ((fg_u2ne (by decide)).trans ((fg_u2ne (by decide)).trans (fg_u2ne (by decide)))))) fg_u2eq ((fg_u2nx (by omega)).trans ((hfr 255 12 (by decide) (Or.inl (by decide))).trans ((fg_u2ns (by decide)).trans fg_u2eq))) ((fg_u2nx (by omega)).trans ((hfr 255 13 (by decide) (Or.inl (by decide))).trans fg_u2eq)))
  · refine fg_aloadn (fg_ft (pc := 0) tb_Reader_openRow 0 rfl) rfl ?_
    refine fg_aloadn (fg_ft (pc := 1) tb_Reader_openRow 1 rfl) rfl ?_
    refine fg_callV (fg_ft (pc := 2) tb_Reader_openRow 2 rfl) cf_Reader_176 (fg_isOf ly_255 rfl (fg_lt ly_255 (by decide))) (as := [.ref 6]) (st := []) rfl rfl (Nat.le_of_ble_eq_true rfl) (Nat.le_refl _) (Nat.le_refl _) (ev_Reader_rowsOf_6 ?_)
    refine fg_astoren (fg_ft (pc := 5) tb_Reader_openRow 3 rfl) (Nat.le_of_ble_eq_true rfl) ?_
    refine fg_aloadn (fg_ft (pc := 6) tb_Reader_openRow 4 rfl) rfl ?_
    refine fg_iconst (fg_ft (pc := 7) tb_Reader_openRow 5 rfl) ic_m1 ?_
    refine fg_putI (fg_ft (pc := 8) tb_Reader_openRow 6 rfl) ff_Reader_180 ly_255 rfl (fg_lt ly_255 (by decide)) (fg_nokI _) (fun _ _ h => by cases h; rfl) ?_
    show fg_wp _ _ _ _ _ _ _ _ _ (fg_u2 μ 255 14 (-1), fg_rho R, 304)
    refine fg_aloadn (fg_ft (pc := 11) tb_Reader_openRow 7 rfl) rfl ?_
    refine fg_iconst (fg_ft (pc := 12) tb_Reader_openRow 8 rfl) ic_0 ?_
    refine fg_putI (fg_ft (pc := 13) tb_Reader_openRow 9 rfl) ff_Reader_183 ly_255 rfl (fg_lt ly_255 (by decide)) (fg_nokI _) (fun _ _ h => by cases h; rfl) ?_
    show fg_wp _ _ _ _ _ _ _ _ _ (fg_u2 (fg_u2 μ 255 14 (-1)) 255 12 (nI 0), fg_rho R, 304)
    refine fg_aloadn (fg_ft (pc := 16) tb_Reader_openRow 10 rfl) rfl ?_
    refine fg_iconst (fg_ft (pc := 17) tb_Reader_openRow 11 rfl) ic_m1 ?_
    refine fg_putI (fg_ft (pc := 18) tb_Reader_openRow 12 rfl) ff_Reader_186 ly_255 rfl (fg_lt ly_255 (by decide)) (fg_nokI _) (fun _ _ h => by cases h; rfl) ?_
    show fg_wp _ _ _ _ _ _ _ _ _ (fg_u2 (fg_u2 (fg_u2 μ 255 14 (-1)) 255 12 (nI 0)) 255 13 (-1), fg_rho R, 304)
    refine fg_aloadn (fg_ft (pc := 21) tb_Reader_openRow 13 rfl) rfl ?_
    refine fg_ifnull_r (fg_ft (pc := 22) tb_Reader_openRow 14 rfl) ?_
    refine fg_aloadn (fg_ft (pc := 25) tb_Reader_openRow 15 rfl) rfl ?_
    refine fg_gets (fg_ft (pc := 26) tb_Reader_openRow 16 rfl) fs_Reader_143 ?_
    refine fg_acmp_eq (tgt := 39) (fg_ft (pc := 29) tb_Reader_openRow 17 rfl) (by decide) (by decide) (by decide) (fun h => absurd h (by decide)) (fun _ => ?_)
    refine fg_aloadn (fg_ft (pc := 32) tb_Reader_openRow 18 rfl) rfl ?_
    refine fg_gets (fg_ft (pc := 33) tb_Reader_openRow 19 rfl) fs_Reader_146 ?_
    refine fg_acmp_ne (tgt := 40) (fg_ft (pc := 36) tb_Reader_openRow 20 rfl) (by decide) (by decide) (by decide) (fun _ => ?_) (fun h => absurd h (by decide))
    refine fg_aloadn (fg_ft (pc := 40) tb_Reader_openRow 22 rfl) rfl ?_
    refine fg_aloadn (fg_ft (pc := 41) tb_Reader_openRow 23 rfl) rfl ?_
    refine fg_aloadn (fg_ft (pc := 42) tb_Reader_openRow 24 rfl) rfl ?_
    refine fg_callV (fg_ft (pc := 43) tb_Reader_openRow 25 rfl) cf_Reader_117 (Or.inr (pz_isW (w := 6) (by decide))) (as := []) (st := [.ref 263, .ref 255]) rfl rfl (Nat.le_of_ble_eq_true rfl) (Nat.le_refl _) (Nat.le_refl _) (ev_Word_sort_6 ?_)
    refine fg_iconst (fg_ft (pc := 46) tb_Reader_openRow 26 rfl) ic_1 ?_
    refine fg_icmp_neN (tgt := 54) (fg_ft (pc := 47) tb_Reader_openRow 27 rfl) (by decide) (by decide) (by decide) (fun c47 => ?_) (fun c47 => (absurd c47 (by decide)))
    refine fg_iconst (fg_ft (pc := 54) tb_Reader_openRow 30 rfl) ic_0 ?_
    refine fg_callV (fg_ft (pc := 55) tb_Reader_openRow 31 rfl) cf_Reader_189 (fg_isOf ly_263 rfl (fg_lt ly_263 (by decide))) (as := [.int (nI 0)]) (st := [.ref 255]) rfl rfl (Nat.le_of_ble_eq_true rfl) (Nat.le_refl _) (Nat.le_refl _) (ev_Rows_addFull (r := 263) (c := 264) (n := 48) (w := 4) (sz := sz) ⟨ly_263, rh_263_1 R, ly_264⟩ (by decide) (((fg_u2ne (f := (fg_u2 (fg_u2 μ 255 14 (-1)) 255 12 (nI 0))) (a := 255) (k := 13) (b := 263) (j := 0) (x := (-1)) (by decide)).trans ((fg_u2ne (f := (fg_u2 μ 255 14 (-1))) (a := 255) (k := 12) (b := 263) (j := 0) (x := (nI 0)) (by decide)).trans ((fg_u2ne (f := μ) (a := 255) (k := 14) (b := 263) (j := 0) (x := (-1)) (by decide)).trans hw0)))) (((fg_u2ne (f := (fg_u2 (fg_u2 μ 255 14 (-1)) 255 12 (nI 0))) (a := 255) (k := 13) (b := 263) (j := 2) (x := (-1)) (by decide)).trans ((fg_u2ne (f := (fg_u2 μ 255 14 (-1))) (a := 255) (k := 12) (b := 263) (j := 2) (x := (nI 0)) (by decide)).trans ((fg_u2ne (f := μ) (a := 255) (k := 14) (b := 263) (j := 2) (x := (-1)) (by decide)).trans hs2)))) (by omega) (by decide) (by omega) (by omega) (by omega) ?_)
    refine fg_putI (fg_ft (pc := 58) tb_Reader_openRow 32 rfl) ff_Reader_180 ly_255 rfl (fg_lt ly_255 (by decide)) (fg_nokI _) (fun _ _ h => by cases h; rfl) ?_
    show fg_wp _ _ _ _ _ _ _ _ _ (fg_u2 (fg_u2 (fg_u2 (fg_u2 μ 255 14 (-1)) 255 12 (nI 0)) 255 13 (-1)) 255 14 (-1), fg_rho R, 304)
    refine fg_aloadn (fg_ft (pc := 61) tb_Reader_openRow 33 rfl) rfl ?_
    refine fg_getV (v := (-1)) (fg_ft (pc := 62) tb_Reader_openRow 34 rfl) ff_Reader_180 ly_255 rfl (fg_lt ly_255 (by decide)) (show (fg_u2 (fg_u2 (fg_u2 (fg_u2 μ 255 14 (-1)) 255 12 (nI 0)) 255 13 (-1)) 255 14 (-1)) 255 14 = -1 from fg_u2eq) ?_
    refine fg_iconst (fg_ft (pc := 65) tb_Reader_openRow 35 rfl) ic_m1 ?_
    refine fg_icmp_ne (tgt := 74) (fg_ft (pc := 66) tb_Reader_openRow 36 rfl) (by decide) (fun c66 => (absurd rfl c66)) (fun c66 => ?_)
    by_cases cF : F = 0
    · refine fg_aloadn (fg_ft (pc := 69) tb_Reader_openRow 37 rfl) rfl ?_
      refine fg_iconst (fg_ft (pc := 70) tb_Reader_openRow 38 rfl) ic_3 ?_
      refine fg_callV (fg_ft (pc := 71) tb_Reader_openRow 39 rfl) cf_Reader_192 (fg_isOf ly_255 rfl (fg_lt ly_255 (by decide))) (as := [.int (nI 3)]) (st := []) rfl rfl (Nat.le_of_ble_eq_true rfl) (Nat.le_refl _) (Nat.le_refl _) (ev_Reader_noteFault0 (s := s) (((fg_u2ns (f := (fg_u2 (fg_u2 (fg_u2 μ 255 14 (-1)) 255 12 (nI 0)) 255 13 (-1))) (a := 255) (k := 14) (b := 255) (j := 2) (x := (-1)) (by decide)).trans ((fg_u2ns (f := (fg_u2 (fg_u2 μ 255 14 (-1)) 255 12 (nI 0))) (a := 255) (k := 13) (b := 255) (j := 2) (x := (-1)) (by decide)).trans ((fg_u2ns (f := (fg_u2 μ 255 14 (-1))) (a := 255) (k := 12) (b := 255) (j := 2) (x := (nI 0)) (by decide)).trans ((fg_u2ns (f := μ) (a := 255) (k := 14) (b := 255) (j := 2) (x := (-1)) (by decide)).trans (hF.trans (congrArg nI cF))))))) (((fg_u2ns (f := (fg_u2 (fg_u2 (fg_u2 μ 255 14 (-1)) 255 12 (nI 0)) 255 13 (-1))) (a := 255) (k := 14) (b := 255) (j := 9) (x := (-1)) (by decide)).trans ((fg_u2ns (f := (fg_u2 (fg_u2 μ 255 14 (-1)) 255 12 (nI 0))) (a := 255) (k := 13) (b := 255) (j := 9) (x := (-1)) (by decide)).trans ((fg_u2ns (f := (fg_u2 μ 255 14 (-1))) (a := 255) (k := 12) (b := 255) (j := 9) (x := (nI 0)) (by decide)).trans ((fg_u2ns (f := μ) (a := 255) (k := 14) (b := 255) (j := 9) (x := (-1)) (by decide)).trans h9))))) ?_)
      show fg_wp _ _ _ _ _ _ _ _ _ (fg_u2 (fg_u2 (fg_u2 (fg_u2 (fg_u2 (fg_u2 μ 255 14 (-1)) 255 12 (nI 0)) 255 13 (-1)) 255 14 (-1)) 255 2 (nI 3)) 255 3 (nI s), fg_rho R, 304)
      refine fg_aloadn (fg_ft (pc := 74) tb_Reader_openRow 40 rfl) rfl ?_
      refine fg_callV (fg_ft (pc := 75) tb_Reader_openRow 41 rfl) cf_Reader_117 (Or.inr (pz_isW (w := 6) (by decide))) (as := []) (st := []) rfl rfl (Nat.le_of_ble_eq_true rfl) (Nat.le_refl _) (Nat.le_refl _) (ev_Word_sort_6 ?_)
      refine fg_iconst (fg_ft (pc := 78) tb_Reader_openRow 42 rfl) ic_1 ?_
      refine fg_icmp_neN (tgt := 95) (fg_ft (pc := 79) tb_Reader_openRow 43 rfl) (by decide) (by decide) (by decide) (fun c79 => ?_) (fun c79 => (absurd c79 (by decide)))
      exact fg_vret (fg_ft (pc := 95) tb_Reader_openRow 51 rfl) rfl rfl (hN hroom _ (fun a j h => ((fg_u2nx (by omega)).trans ((fg_u2nx (by omega)).trans ((fg_u2nx (by omega)).trans ((fg_u2nx (by omega)).trans ((fg_u2nx (by omega)).trans ((fg_u2nx (by omega)).trans rfl))))))) (fun _ => ⟨(fg_u2ns (by decide)).trans fg_u2eq, fg_u2eq⟩) (fun h => absurd cF h))
    · refine fg_aloadn (fg_ft (pc := 69) tb_Reader_openRow 37 rfl) rfl ?_
      refine fg_iconst (fg_ft (pc := 70) tb_Reader_openRow 38 rfl) ic_3 ?_
      refine fg_callV (fg_ft (pc := 71) tb_Reader_openRow 39 rfl) cf_Reader_192 (fg_isOf ly_255 rfl (fg_lt ly_255 (by decide))) (as := [.int (nI 3)]) (st := []) rfl rfl (Nat.le_of_ble_eq_true rfl) (Nat.le_refl _) (Nat.le_refl _) (ev_Reader_noteFault1 (F := F) (((fg_u2ns (f := (fg_u2 (fg_u2 (fg_u2 μ 255 14 (-1)) 255 12 (nI 0)) 255 13 (-1))) (a := 255) (k := 14) (b := 255) (j := 2) (x := (-1)) (by decide)).trans ((fg_u2ns (f := (fg_u2 (fg_u2 μ 255 14 (-1)) 255 12 (nI 0))) (a := 255) (k := 13) (b := 255) (j := 2) (x := (-1)) (by decide)).trans ((fg_u2ns (f := (fg_u2 μ 255 14 (-1))) (a := 255) (k := 12) (b := 255) (j := 2) (x := (nI 0)) (by decide)).trans ((fg_u2ns (f := μ) (a := 255) (k := 14) (b := 255) (j := 2) (x := (-1)) (by decide)).trans hF))))) hF5 cF ?_)
      refine fg_aloadn (fg_ft (pc := 74) tb_Reader_openRow 40 rfl) rfl ?_
      refine fg_callV (fg_ft (pc := 75) tb_Reader_openRow 41 rfl) cf_Reader_117 (Or.inr (pz_isW (w := 6) (by decide))) (as := []) (st := []) rfl rfl (Nat.le_of_ble_eq_true rfl) (Nat.le_refl _) (Nat.le_refl _) (ev_Word_sort_6 ?_)
      refine fg_iconst (fg_ft (pc := 78) tb_Reader_openRow 42 rfl) ic_1 ?_
      refine fg_icmp_neN (tgt := 95) (fg_ft (pc := 79) tb_Reader_openRow 43 rfl) (by decide) (by decide) (by decide) (fun c79 => ?_) (fun c79 => (absurd c79 (by decide)))
      exact fg_vret (fg_ft (pc := 95) tb_Reader_openRow 51 rfl) rfl rfl (hN hroom _ (fun a j h => ((fg_u2nx (by omega)).trans ((fg_u2nx (by omega)).trans ((fg_u2nx (by omega)).trans ((fg_u2nx (by omega)).trans rfl))))) (fun h => absurd h cF) (fun _ => ⟨((fg_u2nx (by decide)).trans ((fg_u2nx (by decide)).trans ((fg_u2nx (by decide)).trans ((fg_u2nx (by decide)).trans rfl)))), ((fg_u2nx (by decide)).trans ((fg_u2nx (by decide)).trans ((fg_u2nx (by decide)).trans ((fg_u2nx (by decide)).trans rfl))))⟩))
theorem ev_Reader_openRow_7 {E : fg_E} {d : Nat} {μ : Nat → Nat → Int32} {R : fg_T4} {Q : Option Value → fg_M → Prop} {sz F s : Nat} (h9 : μ 255 9 = nI s) (hF : μ 255 2 = nI F) (hF5 : F < 5) (hw0 : μ 265 0 = nI 2) (hs2 : μ 265 2 = nI sz) (hsz : sz ≤ 6) (hR : sz < pz_mx (pz_rt 7) → ∀ μ' : Nat → Nat → Int32, (∀ a j, a ≠ pz_rc (pz_rt 7) → (a ≠ pz_ro (pz_rt 7) ∨ j ≠ 2) → (a ≠ 255 ∨ (j ≠ 12 ∧ j ≠ 13 ∧ j ≠ 14)) → μ' a j = μ a j) → μ' (pz_ro (pz_rt 7)) 2 = nI (sz + 1) → (∀ i, i < pz_wi (pz_rt 7) → μ' (pz_rc (pz_rt 7)) (sz * pz_wi (pz_rt 7) + i) = nI (if 7 < 10 then 0 else if i = 0 then 7 - 10 else 4294967295)) → (∀ i, i < sz * pz_wi (pz_rt 7) → μ' (pz_rc (pz_rt 7)) i = μ (pz_rc (pz_rt 7)) i) → μ' 255 14 = nI sz → μ' 255 12 = nI 0 → μ' 255 13 = -1 → Q none (μ', fg_rho R, 304)) (hN : ¬ sz < pz_mx (pz_rt 7) → ∀ μ' : Nat → Nat → Int32, (∀ a j, (a ≠ 255 ∨ (j ≠ 2 ∧ j ≠ 3 ∧ j ≠ 12 ∧ j ≠ 13 ∧ j ≠ 14)) → μ' a j = μ a j) → (F = 0 → μ' 255 2 = nI 3 ∧ μ' 255 3 = nI s) → (¬ F = 0 → μ' 255 2 = μ 255 2 ∧ μ' 255 3 = μ 255 3) → Q none (μ', fg_rho R, 304)) : fg_Ev E yy_Reader_openRow (d + 5) [.ref 255, .ref 7] (μ, fg_rho R, 304) 304 Q := by
  refine fg_intro (by decide +kernel) (Nat.le_of_ble_eq_true rfl) (fg_okAs rfl) (Nat.le_refl _) ?_
  by_cases hroom : sz < 6
  · refine fg_aloadn (fg_ft (pc := 0) tb_Reader_openRow 0 rfl) rfl ?_
    refine fg_aloadn (fg_ft (pc := 1) tb_Reader_openRow 1 rfl) rfl ?_
    refine fg_callV (fg_ft (pc := 2) tb_Reader_openRow 2 rfl) cf_Reader_176 (fg_isOf ly_255 rfl (fg_lt ly_255 (by decide))) (as := [.ref 7]) (st := []) rfl rfl (Nat.le_of_ble_eq_true rfl) (Nat.le_refl _) (Nat.le_refl _) (ev_Reader_rowsOf_7 ?_)
    refine fg_astoren (fg_ft (pc := 5) tb_Reader_openRow 3 rfl) (Nat.le_of_ble_eq_true rfl) ?_
    refine fg_aloadn (fg_ft (pc := 6) tb_Reader_openRow 4 rfl) rfl ?_
    refine fg_iconst (fg_ft (pc := 7) tb_Reader_openRow 5 rfl) ic_m1 ?_
    refine fg_putI (fg_ft (pc := 8) tb_Reader_openRow 6 rfl) ff_Reader_180 ly_255 rfl (fg_lt ly_255 (by decide)) (fg_nokI _) (fun _ _ h => by cases h; rfl) ?_
    show fg_wp _ _ _ _ _ _ _ _ _ (fg_u2 μ 255 14 (-1), fg_rho R, 304)
    refine fg_aloadn (fg_ft (pc := 11) tb_Reader_openRow 7 rfl) rfl ?_
    refine fg_iconst (fg_ft (pc := 12) tb_Reader_openRow 8 rfl) ic_0 ?_
    refine fg_putI (fg_ft (pc := 13) tb_Reader_openRow 9 rfl) ff_Reader_183 ly_255 rfl (fg_lt ly_255 (by decide)) (fg_nokI _) (fun _ _ h => by cases h; rfl) ?_
    show fg_wp _ _ _ _ _ _ _ _ _ (fg_u2 (fg_u2 μ 255 14 (-1)) 255 12 (nI 0), fg_rho R, 304)
    refine fg_aloadn (fg_ft (pc := 16) tb_Reader_openRow 10 rfl) rfl ?_
    refine fg_iconst (fg_ft (pc := 17) tb_Reader_openRow 11 rfl) ic_m1 ?_
    refine fg_putI (fg_ft (pc := 18) tb_Reader_openRow 12 rfl) ff_Reader_186 ly_255 rfl (fg_lt ly_255 (by decide)) (fg_nokI _) (fun _ _ h => by cases h; rfl) ?_
    show fg_wp _ _ _ _ _ _ _ _ _ (fg_u2 (fg_u2 (fg_u2 μ 255 14 (-1)) 255 12 (nI 0)) 255 13 (-1), fg_rho R, 304)
    refine fg_aloadn (fg_ft (pc := 21) tb_Reader_openRow 13 rfl) rfl ?_
    refine fg_ifnull_r (fg_ft (pc := 22) tb_Reader_openRow 14 rfl) ?_
    refine fg_aloadn (fg_ft (pc := 25) tb_Reader_openRow 15 rfl) rfl ?_
    refine fg_gets (fg_ft (pc := 26) tb_Reader_openRow 16 rfl) fs_Reader_143 ?_
    refine fg_acmp_eq (tgt := 39) (fg_ft (pc := 29) tb_Reader_openRow 17 rfl) (by decide) (by decide) (by decide) (fun h => absurd h (by decide)) (fun _ => ?_)
    refine fg_aloadn (fg_ft (pc := 32) tb_Reader_openRow 18 rfl) rfl ?_
    refine fg_gets (fg_ft (pc := 33) tb_Reader_openRow 19 rfl) fs_Reader_146 ?_
    refine fg_acmp_ne (tgt := 40) (fg_ft (pc := 36) tb_Reader_openRow 20 rfl) (by decide) (by decide) (by decide) (fun _ => ?_) (fun h => absurd h (by decide))
    refine fg_aloadn (fg_ft (pc := 40) tb_Reader_openRow 22 rfl) rfl ?_
    refine fg_aloadn (fg_ft (pc := 41) tb_Reader_openRow 23 rfl) rfl ?_
    refine fg_aloadn (fg_ft (pc := 42) tb_Reader_openRow 24 rfl) rfl ?_
    refine fg_callV (fg_ft (pc := 43) tb_Reader_openRow 25 rfl) cf_Reader_117 (Or.inr (pz_isW (w := 7) (by decide))) (as := []) (st := [.ref 265, .ref 255]) rfl rfl (Nat.le_of_ble_eq_true rfl) (Nat.le_refl _) (Nat.le_refl _) (ev_Word_sort_7 ?_)
    refine fg_iconst (fg_ft (pc := 46) tb_Reader_openRow 26 rfl) ic_1 ?_
    refine fg_icmp_neN (tgt := 54) (fg_ft (pc := 47) tb_Reader_openRow 27 rfl) (by decide) (by decide) (by decide) (fun c47 => ?_) (fun c47 => (absurd c47 (by decide)))
    refine fg_iconst (fg_ft (pc := 54) tb_Reader_openRow 30 rfl) ic_0 ?_
    refine fg_callV (fg_ft (pc := 55) tb_Reader_openRow 31 rfl) cf_Reader_189 (fg_isOf ly_265 rfl (fg_lt ly_265 (by decide))) (as := [.int (nI 0)]) (st := [.ref 255]) rfl rfl (Nat.le_of_ble_eq_true rfl) (Nat.le_refl _) (Nat.le_refl _) (ev_Rows_add (r := 265) (c := 266) (n := 12) (w := 2) (sz := sz) (x := (nI 0)) ⟨ly_265, rh_265_1 R, ly_266⟩ (by decide) (((fg_u2ne (f := (fg_u2 (fg_u2 μ 255 14 (-1)) 255 12 (nI 0))) (a := 255) (k := 13) (b := 265) (j := 0) (x := (-1)) (by decide)).trans ((fg_u2ne (f := (fg_u2 μ 255 14 (-1))) (a := 255) (k := 12) (b := 265) (j := 0) (x := (nI 0)) (by decide)).trans ((fg_u2ne (f := μ) (a := 255) (k := 14) (b := 265) (j := 0) (x := (-1)) (by decide)).trans hw0)))) (((fg_u2ne (f := (fg_u2 (fg_u2 μ 255 14 (-1)) 255 12 (nI 0))) (a := 255) (k := 13) (b := 265) (j := 2) (x := (-1)) (by decide)).trans ((fg_u2ne (f := (fg_u2 μ 255 14 (-1))) (a := 255) (k := 12) (b := 265) (j := 2) (x := (nI 0)) (by decide)).trans ((fg_u2ne (f := μ) (a := 255) (k := 14) (b := 265) (j := 2) (x := (-1)) (by decide)).trans hs2)))) (by omega) (by decide) (by omega) (by omega) (by omega) ?_)
    intro ν hfr hN2 hnew hold
    show fg_wp _ _ _ _ _ _ _ _ _ (ν, fg_rho R, 304)
    refine fg_putI (fg_ft (pc := 58) tb_Reader_openRow 32 rfl) ff_Reader_180 ly_255 rfl (fg_lt ly_255 (by decide)) (fg_nokI _) (fun _ _ h => by cases h; rfl) ?_
    show fg_wp _ _ _ _ _ _ _ _ _ (fg_u2 ν 255 14 (nI sz), fg_rho R, 304)
    refine fg_aloadn (fg_ft (pc := 61) tb_Reader_openRow 33 rfl) rfl ?_
    refine fg_getV (v := (nI sz)) (fg_ft (pc := 62) tb_Reader_openRow 34 rfl) ff_Reader_180 ly_255 rfl (fg_lt ly_255 (by decide)) (show (fg_u2 ν 255 14 (nI sz)) 255 14 = nI sz from fg_u2eq) ?_
    refine fg_iconst (fg_ft (pc := 65) tb_Reader_openRow 35 rfl) ic_m1 ?_
    refine fg_icmp_neM (tgt := 74) (fg_ft (pc := 66) tb_Reader_openRow 36 rfl) (by decide) (Nat.lt_trans (show _ < 2 ^ 31 from by omega) (by decide)) (fun c66 => ?_) (fun c66 => (absurd c66 (by omega)))
    refine fg_aloadn (fg_ft (pc := 74) tb_Reader_openRow 40 rfl) rfl ?_
    refine fg_callV (fg_ft (pc := 75) tb_Reader_openRow 41 rfl) cf_Reader_117 (Or.inr (pz_isW (w := 7) (by decide))) (as := []) (st := []) rfl rfl (Nat.le_of_ble_eq_true rfl) (Nat.le_refl _) (Nat.le_refl _) (ev_Word_sort_7 ?_)
    refine fg_iconst (fg_ft (pc := 78) tb_Reader_openRow 42 rfl) ic_1 ?_
    refine fg_icmp_neN (tgt := 95) (fg_ft (pc := 79) tb_Reader_openRow 43 rfl) (by decide) (by decide) (by decide) (fun c79 => ?_) (fun c79 => (absurd c79 (by decide)))
    exact fg_vret (fg_ft (pc := 95) tb_Reader_openRow 51 rfl) rfl rfl (hR hroom _ (fun a j g1 g2 g3 => (fg_u2nx (by omega)).trans ((hfr a j g1 g2).trans ((fg_u2nx (by omega)).trans ((fg_u2nx (by omega)).trans (fg_u2nx (by omega)))))) ((fg_u2ne (by decide)).trans hN2) (fun i hi => (fg_u2ne (by decide)).trans ((hnew i hi).trans rfl)) (fun i hi => (fg_u2ne (by decide)).trans ((hold i hi).trans ((fg_u2ne (by decide)).trans ((fg_u2ne (by decide)).trans (fg_u2ne (by decide)))))) fg_u2eq ((fg_u2nx (by omega)).trans ((hfr 255 12 (by decide) (Or.inl (by decide))).trans ((fg_u2ns (by decide)).trans fg_u2eq))) ((fg_u2nx (by omega)).trans ((hfr 255 13 (by decide) (Or.inl (by decide))).trans fg_u2eq)))
  · refine fg_aloadn (fg_ft (pc := 0) tb_Reader_openRow 0 rfl) rfl ?_
    refine fg_aloadn (fg_ft (pc := 1) tb_Reader_openRow 1 rfl) rfl ?_
    refine fg_callV (fg_ft (pc := 2) tb_Reader_openRow 2 rfl) cf_Reader_176 (fg_isOf ly_255 rfl (fg_lt ly_255 (by decide))) (as := [.ref 7]) (st := []) rfl rfl (Nat.le_of_ble_eq_true rfl) (Nat.le_refl _) (Nat.le_refl _) (ev_Reader_rowsOf_7 ?_)
    refine fg_astoren (fg_ft (pc := 5) tb_Reader_openRow 3 rfl) (Nat.le_of_ble_eq_true rfl) ?_
    refine fg_aloadn (fg_ft (pc := 6) tb_Reader_openRow 4 rfl) rfl ?_
    refine fg_iconst (fg_ft (pc := 7) tb_Reader_openRow 5 rfl) ic_m1 ?_
    refine fg_putI (fg_ft (pc := 8) tb_Reader_openRow 6 rfl) ff_Reader_180 ly_255 rfl (fg_lt ly_255 (by decide)) (fg_nokI _) (fun _ _ h => by cases h; rfl) ?_
    show fg_wp _ _ _ _ _ _ _ _ _ (fg_u2 μ 255 14 (-1), fg_rho R, 304)
    refine fg_aloadn (fg_ft (pc := 11) tb_Reader_openRow 7 rfl) rfl ?_
    refine fg_iconst (fg_ft (pc := 12) tb_Reader_openRow 8 rfl) ic_0 ?_
    refine fg_putI (fg_ft (pc := 13) tb_Reader_openRow 9 rfl) ff_Reader_183 ly_255 rfl (fg_lt ly_255 (by decide)) (fg_nokI _) (fun _ _ h => by cases h; rfl) ?_
    show fg_wp _ _ _ _ _ _ _ _ _ (fg_u2 (fg_u2 μ 255 14 (-1)) 255 12 (nI 0), fg_rho R, 304)
    refine fg_aloadn (fg_ft (pc := 16) tb_Reader_openRow 10 rfl) rfl ?_
    refine fg_iconst (fg_ft (pc := 17) tb_Reader_openRow 11 rfl) ic_m1 ?_
    refine fg_putI (fg_ft (pc := 18) tb_Reader_openRow 12 rfl) ff_Reader_186 ly_255 rfl (fg_lt ly_255 (by decide)) (fg_nokI _) (fun _ _ h => by cases h; rfl) ?_
    show fg_wp _ _ _ _ _ _ _ _ _ (fg_u2 (fg_u2 (fg_u2 μ 255 14 (-1)) 255 12 (nI 0)) 255 13 (-1), fg_rho R, 304)
    refine fg_aloadn (fg_ft (pc := 21) tb_Reader_openRow 13 rfl) rfl ?_
    refine fg_ifnull_r (fg_ft (pc := 22) tb_Reader_openRow 14 rfl) ?_
    refine fg_aloadn (fg_ft (pc := 25) tb_Reader_openRow 15 rfl) rfl ?_
    refine fg_gets (fg_ft (pc := 26) tb_Reader_openRow 16 rfl) fs_Reader_143 ?_
    refine fg_acmp_eq (tgt := 39) (fg_ft (pc := 29) tb_Reader_openRow 17 rfl) (by decide) (by decide) (by decide) (fun h => absurd h (by decide)) (fun _ => ?_)
    refine fg_aloadn (fg_ft (pc := 32) tb_Reader_openRow 18 rfl) rfl ?_
    refine fg_gets (fg_ft (pc := 33) tb_Reader_openRow 19 rfl) fs_Reader_146 ?_
    refine fg_acmp_ne (tgt := 40) (fg_ft (pc := 36) tb_Reader_openRow 20 rfl) (by decide) (by decide) (by decide) (fun _ => ?_) (fun h => absurd h (by decide))
    refine fg_aloadn (fg_ft (pc := 40) tb_Reader_openRow 22 rfl) rfl ?_
    refine fg_aloadn (fg_ft (pc := 41) tb_Reader_openRow 23 rfl) rfl ?_
    refine fg_aloadn (fg_ft (pc := 42) tb_Reader_openRow 24 rfl) rfl ?_
    refine fg_callV (fg_ft (pc := 43) tb_Reader_openRow 25 rfl) cf_Reader_117 (Or.inr (pz_isW (w := 7) (by decide))) (as := []) (st := [.ref 265, .ref 255]) rfl rfl (Nat.le_of_ble_eq_true rfl) (Nat.le_refl _) (Nat.le_refl _) (ev_Word_sort_7 ?_)
    refine fg_iconst (fg_ft (pc := 46) tb_Reader_openRow 26 rfl) ic_1 ?_
    refine fg_icmp_neN (tgt := 54) (fg_ft (pc := 47) tb_Reader_openRow 27 rfl) (by decide) (by decide) (by decide) (fun c47 => ?_) (fun c47 => (absurd c47 (by decide)))
    refine fg_iconst (fg_ft (pc := 54) tb_Reader_openRow 30 rfl) ic_0 ?_
    refine fg_callV (fg_ft (pc := 55) tb_Reader_openRow 31 rfl) cf_Reader_189 (fg_isOf ly_265 rfl (fg_lt ly_265 (by decide))) (as := [.int (nI 0)]) (st := [.ref 255]) rfl rfl (Nat.le_of_ble_eq_true rfl) (Nat.le_refl _) (Nat.le_refl _) (ev_Rows_addFull (r := 265) (c := 266) (n := 12) (w := 2) (sz := sz) ⟨ly_265, rh_265_1 R, ly_266⟩ (by decide) (((fg_u2ne (f := (fg_u2 (fg_u2 μ 255 14 (-1)) 255 12 (nI 0))) (a := 255) (k := 13) (b := 265) (j := 0) (x := (-1)) (by decide)).trans ((fg_u2ne (f := (fg_u2 μ 255 14 (-1))) (a := 255) (k := 12) (b := 265) (j := 0) (x := (nI 0)) (by decide)).trans ((fg_u2ne (f := μ) (a := 255) (k := 14) (b := 265) (j := 0) (x := (-1)) (by decide)).trans hw0)))) (((fg_u2ne (f := (fg_u2 (fg_u2 μ 255 14 (-1)) 255 12 (nI 0))) (a := 255) (k := 13) (b := 265) (j := 2) (x := (-1)) (by decide)).trans ((fg_u2ne (f := (fg_u2 μ 255 14 (-1))) (a := 255) (k := 12) (b := 265) (j := 2) (x := (nI 0)) (by decide)).trans ((fg_u2ne (f := μ) (a := 255) (k := 14) (b := 265) (j := 2) (x := (-1)) (by decide)).trans hs2)))) (by omega) (by decide) (by omega) (by omega) (by omega) ?_)
    refine fg_putI (fg_ft (pc := 58) tb_Reader_openRow 32 rfl) ff_Reader_180 ly_255 rfl (fg_lt ly_255 (by decide)) (fg_nokI _) (fun _ _ h => by cases h; rfl) ?_
    show fg_wp _ _ _ _ _ _ _ _ _ (fg_u2 (fg_u2 (fg_u2 (fg_u2 μ 255 14 (-1)) 255 12 (nI 0)) 255 13 (-1)) 255 14 (-1), fg_rho R, 304)
    refine fg_aloadn (fg_ft (pc := 61) tb_Reader_openRow 33 rfl) rfl ?_
    refine fg_getV (v := (-1)) (fg_ft (pc := 62) tb_Reader_openRow 34 rfl) ff_Reader_180 ly_255 rfl (fg_lt ly_255 (by decide)) (show (fg_u2 (fg_u2 (fg_u2 (fg_u2 μ 255 14 (-1)) 255 12 (nI 0)) 255 13 (-1)) 255 14 (-1)) 255 14 = -1 from fg_u2eq) ?_
    refine fg_iconst (fg_ft (pc := 65) tb_Reader_openRow 35 rfl) ic_m1 ?_
    refine fg_icmp_ne (tgt := 74) (fg_ft (pc := 66) tb_Reader_openRow 36 rfl) (by decide) (fun c66 => (absurd rfl c66)) (fun c66 => ?_)
    by_cases cF : F = 0
    · refine fg_aloadn (fg_ft (pc := 69) tb_Reader_openRow 37 rfl) rfl ?_
      refine fg_iconst (fg_ft (pc := 70) tb_Reader_openRow 38 rfl) ic_3 ?_
      refine fg_callV (fg_ft (pc := 71) tb_Reader_openRow 39 rfl) cf_Reader_192 (fg_isOf ly_255 rfl (fg_lt ly_255 (by decide))) (as := [.int (nI 3)]) (st := []) rfl rfl (Nat.le_of_ble_eq_true rfl) (Nat.le_refl _) (Nat.le_refl _) (ev_Reader_noteFault0 (s := s) (((fg_u2ns (f := (fg_u2 (fg_u2 (fg_u2 μ 255 14 (-1)) 255 12 (nI 0)) 255 13 (-1))) (a := 255) (k := 14) (b := 255) (j := 2) (x := (-1)) (by decide)).trans ((fg_u2ns (f := (fg_u2 (fg_u2 μ 255 14 (-1)) 255 12 (nI 0))) (a := 255) (k := 13) (b := 255) (j := 2) (x := (-1)) (by decide)).trans ((fg_u2ns (f := (fg_u2 μ 255 14 (-1))) (a := 255) (k := 12) (b := 255) (j := 2) (x := (nI 0)) (by decide)).trans ((fg_u2ns (f := μ) (a := 255) (k := 14) (b := 255) (j := 2) (x := (-1)) (by decide)).trans (hF.trans (congrArg nI cF))))))) (((fg_u2ns (f := (fg_u2 (fg_u2 (fg_u2 μ 255 14 (-1)) 255 12 (nI 0)) 255 13 (-1))) (a := 255) (k := 14) (b := 255) (j := 9) (x := (-1)) (by decide)).trans ((fg_u2ns (f := (fg_u2 (fg_u2 μ 255 14 (-1)) 255 12 (nI 0))) (a := 255) (k := 13) (b := 255) (j := 9) (x := (-1)) (by decide)).trans ((fg_u2ns (f := (fg_u2 μ 255 14 (-1))) (a := 255) (k := 12) (b := 255) (j := 9) (x := (nI 0)) (by decide)).trans ((fg_u2ns (f := μ) (a := 255) (k := 14) (b := 255) (j := 9) (x := (-1)) (by decide)).trans h9))))) ?_)
      show fg_wp _ _ _ _ _ _ _ _ _ (fg_u2 (fg_u2 (fg_u2 (fg_u2 (fg_u2 (fg_u2 μ 255 14 (-1)) 255 12 (nI 0)) 255 13 (-1)) 255 14 (-1)) 255 2 (nI 3)) 255 3 (nI s), fg_rho R, 304)
      refine fg_aloadn (fg_ft (pc := 74) tb_Reader_openRow 40 rfl) rfl ?_
      refine fg_callV (fg_ft (pc := 75) tb_Reader_openRow 41 rfl) cf_Reader_117 (Or.inr (pz_isW (w := 7) (by decide))) (as := []) (st := []) rfl rfl (Nat.le_of_ble_eq_true rfl) (Nat.le_refl _) (Nat.le_refl _) (ev_Word_sort_7 ?_)
      refine fg_iconst (fg_ft (pc := 78) tb_Reader_openRow 42 rfl) ic_1 ?_
      refine fg_icmp_neN (tgt := 95) (fg_ft (pc := 79) tb_Reader_openRow 43 rfl) (by decide) (by decide) (by decide) (fun c79 => ?_) (fun c79 => (absurd c79 (by decide)))
      exact fg_vret (fg_ft (pc := 95) tb_Reader_openRow 51 rfl) rfl rfl (hN hroom _ (fun a j h => ((fg_u2nx (by omega)).trans ((fg_u2nx (by omega)).trans ((fg_u2nx (by omega)).trans ((fg_u2nx (by omega)).trans ((fg_u2nx (by omega)).trans ((fg_u2nx (by omega)).trans rfl))))))) (fun _ => ⟨(fg_u2ns (by decide)).trans fg_u2eq, fg_u2eq⟩) (fun h => absurd cF h))
    · refine fg_aloadn (fg_ft (pc := 69) tb_Reader_openRow 37 rfl) rfl ?_
      refine fg_iconst (fg_ft (pc := 70) tb_Reader_openRow 38 rfl) ic_3 ?_
      refine fg_callV (fg_ft (pc := 71) tb_Reader_openRow 39 rfl) cf_Reader_192 (fg_isOf ly_255 rfl (fg_lt ly_255 (by decide))) (as := [.int (nI 3)]) (st := []) rfl rfl (Nat.le_of_ble_eq_true rfl) (Nat.le_refl _) (Nat.le_refl _) (ev_Reader_noteFault1 (F := F) (((fg_u2ns (f := (fg_u2 (fg_u2 (fg_u2 μ 255 14 (-1)) 255 12 (nI 0)) 255 13 (-1))) (a := 255) (k := 14) (b := 255) (j := 2) (x := (-1)) (by decide)).trans ((fg_u2ns (f := (fg_u2 (fg_u2 μ 255 14 (-1)) 255 12 (nI 0))) (a := 255) (k := 13) (b := 255) (j := 2) (x := (-1)) (by decide)).trans ((fg_u2ns (f := (fg_u2 μ 255 14 (-1))) (a := 255) (k := 12) (b := 255) (j := 2) (x := (nI 0)) (by decide)).trans ((fg_u2ns (f := μ) (a := 255) (k := 14) (b := 255) (j := 2) (x := (-1)) (by decide)).trans hF))))) hF5 cF ?_)
      refine fg_aloadn (fg_ft (pc := 74) tb_Reader_openRow 40 rfl) rfl ?_
      refine fg_callV (fg_ft (pc := 75) tb_Reader_openRow 41 rfl) cf_Reader_117 (Or.inr (pz_isW (w := 7) (by decide))) (as := []) (st := []) rfl rfl (Nat.le_of_ble_eq_true rfl) (Nat.le_refl _) (Nat.le_refl _) (ev_Word_sort_7 ?_)
      refine fg_iconst (fg_ft (pc := 78) tb_Reader_openRow 42 rfl) ic_1 ?_
      refine fg_icmp_neN (tgt := 95) (fg_ft (pc := 79) tb_Reader_openRow 43 rfl) (by decide) (by decide) (by decide) (fun c79 => ?_) (fun c79 => (absurd c79 (by decide)))
      exact fg_vret (fg_ft (pc := 95) tb_Reader_openRow 51 rfl) rfl rfl (hN hroom _ (fun a j h => ((fg_u2nx (by omega)).trans ((fg_u2nx (by omega)).trans ((fg_u2nx (by omega)).trans ((fg_u2nx (by omega)).trans rfl))))) (fun h => absurd h cF) (fun _ => ⟨((fg_u2nx (by decide)).trans ((fg_u2nx (by decide)).trans ((fg_u2nx (by decide)).trans ((fg_u2nx (by decide)).trans rfl)))), ((fg_u2nx (by decide)).trans ((fg_u2nx (by decide)).trans ((fg_u2nx (by decide)).trans ((fg_u2nx (by decide)).trans rfl))))⟩))
theorem ev_Reader_openRow_8 {E : fg_E} {d : Nat} {μ : Nat → Nat → Int32} {R : fg_T4} {Q : Option Value → fg_M → Prop} {sz F s : Nat} (h9 : μ 255 9 = nI s) (hF : μ 255 2 = nI F) (hF5 : F < 5) (hw0 : μ 267 0 = nI 2) (hs2 : μ 267 2 = nI sz) (hsz : sz ≤ 6) (hR : sz < pz_mx (pz_rt 8) → ∀ μ' : Nat → Nat → Int32, (∀ a j, a ≠ pz_rc (pz_rt 8) → (a ≠ pz_ro (pz_rt 8) ∨ j ≠ 2) → (a ≠ 255 ∨ (j ≠ 12 ∧ j ≠ 13 ∧ j ≠ 14)) → μ' a j = μ a j) → μ' (pz_ro (pz_rt 8)) 2 = nI (sz + 1) → (∀ i, i < pz_wi (pz_rt 8) → μ' (pz_rc (pz_rt 8)) (sz * pz_wi (pz_rt 8) + i) = nI (if 8 < 10 then 0 else if i = 0 then 8 - 10 else 4294967295)) → (∀ i, i < sz * pz_wi (pz_rt 8) → μ' (pz_rc (pz_rt 8)) i = μ (pz_rc (pz_rt 8)) i) → μ' 255 14 = nI sz → μ' 255 12 = nI 0 → μ' 255 13 = -1 → Q none (μ', fg_rho R, 304)) (hN : ¬ sz < pz_mx (pz_rt 8) → ∀ μ' : Nat → Nat → Int32, (∀ a j, (a ≠ 255 ∨ (j ≠ 2 ∧ j ≠ 3 ∧ j ≠ 12 ∧ j ≠ 13 ∧ j ≠ 14)) → μ' a j = μ a j) → (F = 0 → μ' 255 2 = nI 3 ∧ μ' 255 3 = nI s) → (¬ F = 0 → μ' 255 2 = μ 255 2 ∧ μ' 255 3 = μ 255 3) → Q none (μ', fg_rho R, 304)) : fg_Ev E yy_Reader_openRow (d + 5) [.ref 255, .ref 8] (μ, fg_rho R, 304) 304 Q := by
  refine fg_intro (by decide +kernel) (Nat.le_of_ble_eq_true rfl) (fg_okAs rfl) (Nat.le_refl _) ?_
  by_cases hroom : sz < 6
  · refine fg_aloadn (fg_ft (pc := 0) tb_Reader_openRow 0 rfl) rfl ?_
    refine fg_aloadn (fg_ft (pc := 1) tb_Reader_openRow 1 rfl) rfl ?_
    refine fg_callV (fg_ft (pc := 2) tb_Reader_openRow 2 rfl) cf_Reader_176 (fg_isOf ly_255 rfl (fg_lt ly_255 (by decide))) (as := [.ref 8]) (st := []) rfl rfl (Nat.le_of_ble_eq_true rfl) (Nat.le_refl _) (Nat.le_refl _) (ev_Reader_rowsOf_8 ?_)
    refine fg_astoren (fg_ft (pc := 5) tb_Reader_openRow 3 rfl) (Nat.le_of_ble_eq_true rfl) ?_
    refine fg_aloadn (fg_ft (pc := 6) tb_Reader_openRow 4 rfl) rfl ?_
    refine fg_iconst (fg_ft (pc := 7) tb_Reader_openRow 5 rfl) ic_m1 ?_
    refine fg_putI (fg_ft (pc := 8) tb_Reader_openRow 6 rfl) ff_Reader_180 ly_255 rfl (fg_lt ly_255 (by decide)) (fg_nokI _) (fun _ _ h => by cases h; rfl) ?_
    show fg_wp _ _ _ _ _ _ _ _ _ (fg_u2 μ 255 14 (-1), fg_rho R, 304)
    refine fg_aloadn (fg_ft (pc := 11) tb_Reader_openRow 7 rfl) rfl ?_
    refine fg_iconst (fg_ft (pc := 12) tb_Reader_openRow 8 rfl) ic_0 ?_
    refine fg_putI (fg_ft (pc := 13) tb_Reader_openRow 9 rfl) ff_Reader_183 ly_255 rfl (fg_lt ly_255 (by decide)) (fg_nokI _) (fun _ _ h => by cases h; rfl) ?_
    show fg_wp _ _ _ _ _ _ _ _ _ (fg_u2 (fg_u2 μ 255 14 (-1)) 255 12 (nI 0), fg_rho R, 304)
    refine fg_aloadn (fg_ft (pc := 16) tb_Reader_openRow 10 rfl) rfl ?_
    refine fg_iconst (fg_ft (pc := 17) tb_Reader_openRow 11 rfl) ic_m1 ?_
    refine fg_putI (fg_ft (pc := 18) tb_Reader_openRow 12 rfl) ff_Reader_186 ly_255 rfl (fg_lt ly_255 (by decide)) (fg_nokI _) (fun _ _ h => by cases h; rfl) ?_
    show fg_wp _ _ _ _ _ _ _ _ _ (fg_u2 (fg_u2 (fg_u2 μ 255 14 (-1)) 255 12 (nI 0)) 255 13 (-1), fg_rho R, 304)
    refine fg_aloadn (fg_ft (pc := 21) tb_Reader_openRow 13 rfl) rfl ?_
    refine fg_ifnull_r (fg_ft (pc := 22) tb_Reader_openRow 14 rfl) ?_
    refine fg_aloadn (fg_ft (pc := 25) tb_Reader_openRow 15 rfl) rfl ?_
    refine fg_gets (fg_ft (pc := 26) tb_Reader_openRow 16 rfl) fs_Reader_143 ?_
    refine fg_acmp_eq (tgt := 39) (fg_ft (pc := 29) tb_Reader_openRow 17 rfl) (by decide) (by decide) (by decide) (fun h => absurd h (by decide)) (fun _ => ?_)
    refine fg_aloadn (fg_ft (pc := 32) tb_Reader_openRow 18 rfl) rfl ?_
    refine fg_gets (fg_ft (pc := 33) tb_Reader_openRow 19 rfl) fs_Reader_146 ?_
    refine fg_acmp_ne (tgt := 40) (fg_ft (pc := 36) tb_Reader_openRow 20 rfl) (by decide) (by decide) (by decide) (fun _ => ?_) (fun h => absurd h (by decide))
    refine fg_aloadn (fg_ft (pc := 40) tb_Reader_openRow 22 rfl) rfl ?_
    refine fg_aloadn (fg_ft (pc := 41) tb_Reader_openRow 23 rfl) rfl ?_
    refine fg_aloadn (fg_ft (pc := 42) tb_Reader_openRow 24 rfl) rfl ?_
    refine fg_callV (fg_ft (pc := 43) tb_Reader_openRow 25 rfl) cf_Reader_117 (Or.inr (pz_isW (w := 8) (by decide))) (as := []) (st := [.ref 267, .ref 255]) rfl rfl (Nat.le_of_ble_eq_true rfl) (Nat.le_refl _) (Nat.le_refl _) (ev_Word_sort_8 ?_)
    refine fg_iconst (fg_ft (pc := 46) tb_Reader_openRow 26 rfl) ic_1 ?_
    refine fg_icmp_neN (tgt := 54) (fg_ft (pc := 47) tb_Reader_openRow 27 rfl) (by decide) (by decide) (by decide) (fun c47 => ?_) (fun c47 => (absurd c47 (by decide)))
    refine fg_iconst (fg_ft (pc := 54) tb_Reader_openRow 30 rfl) ic_0 ?_
    refine fg_callV (fg_ft (pc := 55) tb_Reader_openRow 31 rfl) cf_Reader_189 (fg_isOf ly_267 rfl (fg_lt ly_267 (by decide))) (as := [.int (nI 0)]) (st := [.ref 255]) rfl rfl (Nat.le_of_ble_eq_true rfl) (Nat.le_refl _) (Nat.le_refl _) (ev_Rows_add (r := 267) (c := 268) (n := 12) (w := 2) (sz := sz) (x := (nI 0)) ⟨ly_267, rh_267_1 R, ly_268⟩ (by decide) (((fg_u2ne (f := (fg_u2 (fg_u2 μ 255 14 (-1)) 255 12 (nI 0))) (a := 255) (k := 13) (b := 267) (j := 0) (x := (-1)) (by decide)).trans ((fg_u2ne (f := (fg_u2 μ 255 14 (-1))) (a := 255) (k := 12) (b := 267) (j := 0) (x := (nI 0)) (by decide)).trans ((fg_u2ne (f := μ) (a := 255) (k := 14) (b := 267) (j := 0) (x := (-1)) (by decide)).trans hw0)))) (((fg_u2ne (f := (fg_u2 (fg_u2 μ 255 14 (-1)) 255 12 (nI 0))) (a := 255) (k := 13) (b := 267) (j := 2) (x := (-1)) (by decide)).trans ((fg_u2ne (f := (fg_u2 μ 255 14 (-1))) (a := 255) (k := 12) (b := 267) (j := 2) (x := (nI 0)) (by decide)).trans ((fg_u2ne (f := μ) (a := 255) (k := 14) (b := 267) (j := 2) (x := (-1)) (by decide)).trans hs2)))) (by omega) (by decide) (by omega) (by omega) (by omega) ?_)
    intro ν hfr hN2 hnew hold
    show fg_wp _ _ _ _ _ _ _ _ _ (ν, fg_rho R, 304)
    refine fg_putI (fg_ft (pc := 58) tb_Reader_openRow 32 rfl) ff_Reader_180 ly_255 rfl (fg_lt ly_255 (by decide)) (fg_nokI _) (fun _ _ h => by cases h; rfl) ?_
    show fg_wp _ _ _ _ _ _ _ _ _ (fg_u2 ν 255 14 (nI sz), fg_rho R, 304)
    refine fg_aloadn (fg_ft (pc := 61) tb_Reader_openRow 33 rfl) rfl ?_
    refine fg_getV (v := (nI sz)) (fg_ft (pc := 62) tb_Reader_openRow 34 rfl) ff_Reader_180 ly_255 rfl (fg_lt ly_255 (by decide)) (show (fg_u2 ν 255 14 (nI sz)) 255 14 = nI sz from fg_u2eq) ?_
    refine fg_iconst (fg_ft (pc := 65) tb_Reader_openRow 35 rfl) ic_m1 ?_
    refine fg_icmp_neM (tgt := 74) (fg_ft (pc := 66) tb_Reader_openRow 36 rfl) (by decide) (Nat.lt_trans (show _ < 2 ^ 31 from by omega) (by decide)) (fun c66 => ?_) (fun c66 => (absurd c66 (by omega)))
    refine fg_aloadn (fg_ft (pc := 74) tb_Reader_openRow 40 rfl) rfl ?_
    refine fg_callV (fg_ft (pc := 75) tb_Reader_openRow 41 rfl) cf_Reader_117 (Or.inr (pz_isW (w := 8) (by decide))) (as := []) (st := []) rfl rfl (Nat.le_of_ble_eq_true rfl) (Nat.le_refl _) (Nat.le_refl _) (ev_Word_sort_8 ?_)
    refine fg_iconst (fg_ft (pc := 78) tb_Reader_openRow 42 rfl) ic_1 ?_
    refine fg_icmp_neN (tgt := 95) (fg_ft (pc := 79) tb_Reader_openRow 43 rfl) (by decide) (by decide) (by decide) (fun c79 => ?_) (fun c79 => (absurd c79 (by decide)))
    exact fg_vret (fg_ft (pc := 95) tb_Reader_openRow 51 rfl) rfl rfl (hR hroom _ (fun a j g1 g2 g3 => (fg_u2nx (by omega)).trans ((hfr a j g1 g2).trans ((fg_u2nx (by omega)).trans ((fg_u2nx (by omega)).trans (fg_u2nx (by omega)))))) ((fg_u2ne (by decide)).trans hN2) (fun i hi => (fg_u2ne (by decide)).trans ((hnew i hi).trans rfl)) (fun i hi => (fg_u2ne (by decide)).trans ((hold i hi).trans ((fg_u2ne (by decide)).trans ((fg_u2ne (by decide)).trans (fg_u2ne (by decide)))))) fg_u2eq ((fg_u2nx (by omega)).trans ((hfr 255 12 (by decide) (Or.inl (by decide))).trans ((fg_u2ns (by decide)).trans fg_u2eq))) ((fg_u2nx (by omega)).trans ((hfr 255 13 (by decide) (Or.inl (by decide))).trans fg_u2eq)))
  · refine fg_aloadn (fg_ft (pc := 0) tb_Reader_openRow 0 rfl) rfl ?_
    refine fg_aloadn (fg_ft (pc := 1) tb_Reader_openRow 1 rfl) rfl ?_
    refine fg_callV (fg_ft (pc := 2) tb_Reader_openRow 2 rfl) cf_Reader_176 (fg_isOf ly_255 rfl (fg_lt ly_255 (by decide))) (as := [.ref 8]) (st := []) rfl rfl (Nat.le_of_ble_eq_true rfl) (Nat.le_refl _) (Nat.le_refl _) (ev_Reader_rowsOf_8 ?_)
    refine fg_astoren (fg_ft (pc := 5) tb_Reader_openRow 3 rfl) (Nat.le_of_ble_eq_true rfl) ?_
    refine fg_aloadn (fg_ft (pc := 6) tb_Reader_openRow 4 rfl) rfl ?_
    refine fg_iconst (fg_ft (pc := 7) tb_Reader_openRow 5 rfl) ic_m1 ?_
    refine fg_putI (fg_ft (pc := 8) tb_Reader_openRow 6 rfl) ff_Reader_180 ly_255 rfl (fg_lt ly_255 (by decide)) (fg_nokI _) (fun _ _ h => by cases h; rfl) ?_
    show fg_wp _ _ _ _ _ _ _ _ _ (fg_u2 μ 255 14 (-1), fg_rho R, 304)
    refine fg_aloadn (fg_ft (pc := 11) tb_Reader_openRow 7 rfl) rfl ?_
    refine fg_iconst (fg_ft (pc := 12) tb_Reader_openRow 8 rfl) ic_0 ?_
    refine fg_putI (fg_ft (pc := 13) tb_Reader_openRow 9 rfl) ff_Reader_183 ly_255 rfl (fg_lt ly_255 (by decide)) (fg_nokI _) (fun _ _ h => by cases h; rfl) ?_
    show fg_wp _ _ _ _ _ _ _ _ _ (fg_u2 (fg_u2 μ 255 14 (-1)) 255 12 (nI 0), fg_rho R, 304)
    refine fg_aloadn (fg_ft (pc := 16) tb_Reader_openRow 10 rfl) rfl ?_
    refine fg_iconst (fg_ft (pc := 17) tb_Reader_openRow 11 rfl) ic_m1 ?_
    refine fg_putI (fg_ft (pc := 18) tb_Reader_openRow 12 rfl) ff_Reader_186 ly_255 rfl (fg_lt ly_255 (by decide)) (fg_nokI _) (fun _ _ h => by cases h; rfl) ?_
    show fg_wp _ _ _ _ _ _ _ _ _ (fg_u2 (fg_u2 (fg_u2 μ 255 14 (-1)) 255 12 (nI 0)) 255 13 (-1), fg_rho R, 304)
    refine fg_aloadn (fg_ft (pc := 21) tb_Reader_openRow 13 rfl) rfl ?_
    refine fg_ifnull_r (fg_ft (pc := 22) tb_Reader_openRow 14 rfl) ?_
    refine fg_aloadn (fg_ft (pc := 25) tb_Reader_openRow 15 rfl) rfl ?_
    refine fg_gets (fg_ft (pc := 26) tb_Reader_openRow 16 rfl) fs_Reader_143 ?_
    refine fg_acmp_eq (tgt := 39) (fg_ft (pc := 29) tb_Reader_openRow 17 rfl) (by decide) (by decide) (by decide) (fun h => absurd h (by decide)) (fun _ => ?_)
    refine fg_aloadn (fg_ft (pc := 32) tb_Reader_openRow 18 rfl) rfl ?_
    refine fg_gets (fg_ft (pc := 33) tb_Reader_openRow 19 rfl) fs_Reader_146 ?_
    refine fg_acmp_ne (tgt := 40) (fg_ft (pc := 36) tb_Reader_openRow 20 rfl) (by decide) (by decide) (by decide) (fun _ => ?_) (fun h => absurd h (by decide))
    refine fg_aloadn (fg_ft (pc := 40) tb_Reader_openRow 22 rfl) rfl ?_
    refine fg_aloadn (fg_ft (pc := 41) tb_Reader_openRow 23 rfl) rfl ?_
    refine fg_aloadn (fg_ft (pc := 42) tb_Reader_openRow 24 rfl) rfl ?_
    refine fg_callV (fg_ft (pc := 43) tb_Reader_openRow 25 rfl) cf_Reader_117 (Or.inr (pz_isW (w := 8) (by decide))) (as := []) (st := [.ref 267, .ref 255]) rfl rfl (Nat.le_of_ble_eq_true rfl) (Nat.le_refl _) (Nat.le_refl _) (ev_Word_sort_8 ?_)
    refine fg_iconst (fg_ft (pc := 46) tb_Reader_openRow 26 rfl) ic_1 ?_
    refine fg_icmp_neN (tgt := 54) (fg_ft (pc := 47) tb_Reader_openRow 27 rfl) (by decide) (by decide) (by decide) (fun c47 => ?_) (fun c47 => (absurd c47 (by decide)))
    refine fg_iconst (fg_ft (pc := 54) tb_Reader_openRow 30 rfl) ic_0 ?_
    refine fg_callV (fg_ft (pc := 55) tb_Reader_openRow 31 rfl) cf_Reader_189 (fg_isOf ly_267 rfl (fg_lt ly_267 (by decide))) (as := [.int (nI 0)]) (st := [.ref 255]) rfl rfl (Nat.le_of_ble_eq_true rfl) (Nat.le_refl _) (Nat.le_refl _) (ev_Rows_addFull (r := 267) (c := 268) (n := 12) (w := 2) (sz := sz) ⟨ly_267, rh_267_1 R, ly_268⟩ (by decide) (((fg_u2ne (f := (fg_u2 (fg_u2 μ 255 14 (-1)) 255 12 (nI 0))) (a := 255) (k := 13) (b := 267) (j := 0) (x := (-1)) (by decide)).trans ((fg_u2ne (f := (fg_u2 μ 255 14 (-1))) (a := 255) (k := 12) (b := 267) (j := 0) (x := (nI 0)) (by decide)).trans ((fg_u2ne (f := μ) (a := 255) (k := 14) (b := 267) (j := 0) (x := (-1)) (by decide)).trans hw0)))) (((fg_u2ne (f := (fg_u2 (fg_u2 μ 255 14 (-1)) 255 12 (nI 0))) (a := 255) (k := 13) (b := 267) (j := 2) (x := (-1)) (by decide)).trans ((fg_u2ne (f := (fg_u2 μ 255 14 (-1))) (a := 255) (k := 12) (b := 267) (j := 2) (x := (nI 0)) (by decide)).trans ((fg_u2ne (f := μ) (a := 255) (k := 14) (b := 267) (j := 2) (x := (-1)) (by decide)).trans hs2)))) (by omega) (by decide) (by omega) (by omega) (by omega) ?_)
    refine fg_putI (fg_ft (pc := 58) tb_Reader_openRow 32 rfl) ff_Reader_180 ly_255 rfl (fg_lt ly_255 (by decide)) (fg_nokI _) (fun _ _ h => by cases h; rfl) ?_
    show fg_wp _ _ _ _ _ _ _ _ _ (fg_u2 (fg_u2 (fg_u2 (fg_u2 μ 255 14 (-1)) 255 12 (nI 0)) 255 13 (-1)) 255 14 (-1), fg_rho R, 304)
    refine fg_aloadn (fg_ft (pc := 61) tb_Reader_openRow 33 rfl) rfl ?_
    refine fg_getV (v := (-1)) (fg_ft (pc := 62) tb_Reader_openRow 34 rfl) ff_Reader_180 ly_255 rfl (fg_lt ly_255 (by decide)) (show (fg_u2 (fg_u2 (fg_u2 (fg_u2 μ 255 14 (-1)) 255 12 (nI 0)) 255 13 (-1)) 255 14 (-1)) 255 14 = -1 from fg_u2eq) ?_
    refine fg_iconst (fg_ft (pc := 65) tb_Reader_openRow 35 rfl) ic_m1 ?_
    refine fg_icmp_ne (tgt := 74) (fg_ft (pc := 66) tb_Reader_openRow 36 rfl) (by decide) (fun c66 => (absurd rfl c66)) (fun c66 => ?_)
    by_cases cF : F = 0
    · refine fg_aloadn (fg_ft (pc := 69) tb_Reader_openRow 37 rfl) rfl ?_
      refine fg_iconst (fg_ft (pc := 70) tb_Reader_openRow 38 rfl) ic_3 ?_
      refine fg_callV (fg_ft (pc := 71) tb_Reader_openRow 39 rfl) cf_Reader_192 (fg_isOf ly_255 rfl (fg_lt ly_255 (by decide))) (as := [.int (nI 3)]) (st := []) rfl rfl (Nat.le_of_ble_eq_true rfl) (Nat.le_refl _) (Nat.le_refl _) (ev_Reader_noteFault0 (s := s) (((fg_u2ns (f := (fg_u2 (fg_u2 (fg_u2 μ 255 14 (-1)) 255 12 (nI 0)) 255 13 (-1))) (a := 255) (k := 14) (b := 255) (j := 2) (x := (-1)) (by decide)).trans ((fg_u2ns (f := (fg_u2 (fg_u2 μ 255 14 (-1)) 255 12 (nI 0))) (a := 255) (k := 13) (b := 255) (j := 2) (x := (-1)) (by decide)).trans ((fg_u2ns (f := (fg_u2 μ 255 14 (-1))) (a := 255) (k := 12) (b := 255) (j := 2) (x := (nI 0)) (by decide)).trans ((fg_u2ns (f := μ) (a := 255) (k := 14) (b := 255) (j := 2) (x := (-1)) (by decide)).trans (hF.trans (congrArg nI cF))))))) (((fg_u2ns (f := (fg_u2 (fg_u2 (fg_u2 μ 255 14 (-1)) 255 12 (nI 0)) 255 13 (-1))) (a := 255) (k := 14) (b := 255) (j := 9) (x := (-1)) (by decide)).trans ((fg_u2ns (f := (fg_u2 (fg_u2 μ 255 14 (-1)) 255 12 (nI 0))) (a := 255) (k := 13) (b := 255) (j := 9) (x := (-1)) (by decide)).trans ((fg_u2ns (f := (fg_u2 μ 255 14 (-1))) (a := 255) (k := 12) (b := 255) (j := 9) (x := (nI 0)) (by decide)).trans ((fg_u2ns (f := μ) (a := 255) (k := 14) (b := 255) (j := 9) (x := (-1)) (by decide)).trans h9))))) ?_)
      show fg_wp _ _ _ _ _ _ _ _ _ (fg_u2 (fg_u2 (fg_u2 (fg_u2 (fg_u2 (fg_u2 μ 255 14 (-1)) 255 12 (nI 0)) 255 13 (-1)) 255 14 (-1)) 255 2 (nI 3)) 255 3 (nI s), fg_rho R, 304)
      refine fg_aloadn (fg_ft (pc := 74) tb_Reader_openRow 40 rfl) rfl ?_
      refine fg_callV (fg_ft (pc := 75) tb_Reader_openRow 41 rfl) cf_Reader_117 (Or.inr (pz_isW (w := 8) (by decide))) (as := []) (st := []) rfl rfl (Nat.le_of_ble_eq_true rfl) (Nat.le_refl _) (Nat.le_refl _) (ev_Word_sort_8 ?_)
      refine fg_iconst (fg_ft (pc := 78) tb_Reader_openRow 42 rfl) ic_1 ?_
      refine fg_icmp_neN (tgt := 95) (fg_ft (pc := 79) tb_Reader_openRow 43 rfl) (by decide) (by decide) (by decide) (fun c79 => ?_) (fun c79 => (absurd c79 (by decide)))
      exact fg_vret (fg_ft (pc := 95) tb_Reader_openRow 51 rfl) rfl rfl (hN hroom _ (fun a j h => ((fg_u2nx (by omega)).trans ((fg_u2nx (by omega)).trans ((fg_u2nx (by omega)).trans ((fg_u2nx (by omega)).trans ((fg_u2nx (by omega)).trans ((fg_u2nx (by omega)).trans rfl))))))) (fun _ => ⟨(fg_u2ns (by decide)).trans fg_u2eq, fg_u2eq⟩) (fun h => absurd cF h))
    · refine fg_aloadn (fg_ft (pc := 69) tb_Reader_openRow 37 rfl) rfl ?_
      refine fg_iconst (fg_ft (pc := 70) tb_Reader_openRow 38 rfl) ic_3 ?_
      refine fg_callV (fg_ft (pc := 71) tb_Reader_openRow 39 rfl) cf_Reader_192 (fg_isOf ly_255 rfl (fg_lt ly_255 (by decide))) (as := [.int (nI 3)]) (st := []) rfl rfl (Nat.le_of_ble_eq_true rfl) (Nat.le_refl _) (Nat.le_refl _) (ev_Reader_noteFault1 (F := F) (((fg_u2ns (f := (fg_u2 (fg_u2 (fg_u2 μ 255 14 (-1)) 255 12 (nI 0)) 255 13 (-1))) (a := 255) (k := 14) (b := 255) (j := 2) (x := (-1)) (by decide)).trans ((fg_u2ns (f := (fg_u2 (fg_u2 μ 255 14 (-1)) 255 12 (nI 0))) (a := 255) (k := 13) (b := 255) (j := 2) (x := (-1)) (by decide)).trans ((fg_u2ns (f := (fg_u2 μ 255 14 (-1))) (a := 255) (k := 12) (b := 255) (j := 2) (x := (nI 0)) (by decide)).trans ((fg_u2ns (f := μ) (a := 255) (k := 14) (b := 255) (j := 2) (x := (-1)) (by decide)).trans hF))))) hF5 cF ?_)
      refine fg_aloadn (fg_ft (pc := 74) tb_Reader_openRow 40 rfl) rfl ?_
      refine fg_callV (fg_ft (pc := 75) tb_Reader_openRow 41 rfl) cf_Reader_117 (Or.inr (pz_isW (w := 8) (by decide))) (as := []) (st := []) rfl rfl (Nat.le_of_ble_eq_true rfl) (Nat.le_refl _) (Nat.le_refl _) (ev_Word_sort_8 ?_)
      refine fg_iconst (fg_ft (pc := 78) tb_Reader_openRow 42 rfl) ic_1 ?_
      refine fg_icmp_neN (tgt := 95) (fg_ft (pc := 79) tb_Reader_openRow 43 rfl) (by decide) (by decide) (by decide) (fun c79 => ?_) (fun c79 => (absurd c79 (by decide)))
      exact fg_vret (fg_ft (pc := 95) tb_Reader_openRow 51 rfl) rfl rfl (hN hroom _ (fun a j h => ((fg_u2nx (by omega)).trans ((fg_u2nx (by omega)).trans ((fg_u2nx (by omega)).trans ((fg_u2nx (by omega)).trans rfl))))) (fun h => absurd h cF) (fun _ => ⟨((fg_u2nx (by decide)).trans ((fg_u2nx (by decide)).trans ((fg_u2nx (by decide)).trans ((fg_u2nx (by decide)).trans rfl)))), ((fg_u2nx (by decide)).trans ((fg_u2nx (by decide)).trans ((fg_u2nx (by decide)).trans ((fg_u2nx (by decide)).trans rfl))))⟩))
theorem ev_Reader_openRow_9 {E : fg_E} {d : Nat} {μ : Nat → Nat → Int32} {R : fg_T4} {Q : Option Value → fg_M → Prop} (hO : ∀ μ' : Nat → Nat → Int32, (∀ a j, (a ≠ 255 ∨ (j ≠ 12 ∧ j ≠ 13 ∧ j ≠ 14)) → μ' a j = μ a j) → μ' 255 12 = nI 0 → μ' 255 13 = -1 → Q none (μ', fg_rho R, 304)) : fg_Ev E yy_Reader_openRow (d + 5) [.ref 255, .ref 9] (μ, fg_rho R, 304) 304 Q := by
  refine fg_intro (by decide +kernel) (Nat.le_of_ble_eq_true rfl) (fg_okAs rfl) (Nat.le_refl _) ?_
  refine fg_aloadn (fg_ft (pc := 0) tb_Reader_openRow 0 rfl) rfl ?_
  refine fg_aloadn (fg_ft (pc := 1) tb_Reader_openRow 1 rfl) rfl ?_
  refine fg_callV (fg_ft (pc := 2) tb_Reader_openRow 2 rfl) cf_Reader_176 (fg_isOf ly_255 rfl (fg_lt ly_255 (by decide))) (as := [.ref 9]) (st := []) rfl rfl (Nat.le_of_ble_eq_true rfl) (Nat.le_refl _) (Nat.le_refl _) (ev_Reader_rowsOf_9 ?_)
  refine fg_astorenN (fg_ft (pc := 5) tb_Reader_openRow 3 rfl) (Nat.le_of_ble_eq_true rfl) ?_
  refine fg_aloadn (fg_ft (pc := 6) tb_Reader_openRow 4 rfl) rfl ?_
  refine fg_iconst (fg_ft (pc := 7) tb_Reader_openRow 5 rfl) ic_m1 ?_
  refine fg_putI (fg_ft (pc := 8) tb_Reader_openRow 6 rfl) ff_Reader_180 ly_255 rfl (fg_lt ly_255 (by decide)) (fg_nokI _) (fun _ _ h => by cases h; rfl) ?_
  show fg_wp _ _ _ _ _ _ _ _ _ (fg_u2 μ 255 14 (-1), fg_rho R, 304)
  refine fg_aloadn (fg_ft (pc := 11) tb_Reader_openRow 7 rfl) rfl ?_
  refine fg_iconst (fg_ft (pc := 12) tb_Reader_openRow 8 rfl) ic_0 ?_
  refine fg_putI (fg_ft (pc := 13) tb_Reader_openRow 9 rfl) ff_Reader_183 ly_255 rfl (fg_lt ly_255 (by decide)) (fg_nokI _) (fun _ _ h => by cases h; rfl) ?_
  show fg_wp _ _ _ _ _ _ _ _ _ (fg_u2 (fg_u2 μ 255 14 (-1)) 255 12 (nI 0), fg_rho R, 304)
  refine fg_aloadn (fg_ft (pc := 16) tb_Reader_openRow 10 rfl) rfl ?_
  refine fg_iconst (fg_ft (pc := 17) tb_Reader_openRow 11 rfl) ic_m1 ?_
  refine fg_putI (fg_ft (pc := 18) tb_Reader_openRow 12 rfl) ff_Reader_186 ly_255 rfl (fg_lt ly_255 (by decide)) (fg_nokI _) (fun _ _ h => by cases h; rfl) ?_
  show fg_wp _ _ _ _ _ _ _ _ _ (fg_u2 (fg_u2 (fg_u2 μ 255 14 (-1)) 255 12 (nI 0)) 255 13 (-1), fg_rho R, 304)
  refine fg_aloadnN (fg_ft (pc := 21) tb_Reader_openRow 13 rfl) rfl ?_
  refine fg_ifnull (tgt := 39) (fg_ft (pc := 22) tb_Reader_openRow 14 rfl) (by decide) ?_
  exact fg_vret (fg_ft (pc := 39) tb_Reader_openRow 21 rfl) rfl rfl (hO _ (fun a j h => (fg_u2nx (by omega)).trans ((fg_u2nx (by omega)).trans (fg_u2nx (by omega)))) ((fg_u2ns (by decide)).trans fg_u2eq) fg_u2eq)
theorem fk_Reader_196_10 : fg_KF "ForgetBread$Reader" 196 10 (.int (nI 0)) := ⟨_, List.mem_of_getElem? (l := fg_ofld) (i := 60) rfl, rfl, rfl, fg_tblIn 1728 (by decide +kernel) (by decide +kernel)⟩
theorem ev_Reader_openRow_10 {E : fg_E} {d : Nat} {μ : Nat → Nat → Int32} {R : fg_T4} {Q : Option Value → fg_M → Prop} {sz F s : Nat} (h9 : μ 255 9 = nI s) (hF : μ 255 2 = nI F) (hF5 : F < 5) (hw0 : μ 270 0 = nI 4) (hs2 : μ 270 2 = nI sz) (hsz : sz ≤ 30) (hR : sz < pz_mx (pz_rt 10) → ∀ μ' : Nat → Nat → Int32, (∀ a j, a ≠ pz_rc (pz_rt 10) → (a ≠ pz_ro (pz_rt 10) ∨ j ≠ 2) → (a ≠ 255 ∨ (j ≠ 12 ∧ j ≠ 13 ∧ j ≠ 14)) → μ' a j = μ a j) → μ' (pz_ro (pz_rt 10)) 2 = nI (sz + 1) → (∀ i, i < pz_wi (pz_rt 10) → μ' (pz_rc (pz_rt 10)) (sz * pz_wi (pz_rt 10) + i) = nI (if 10 < 10 then 0 else if i = 0 then 10 - 10 else 4294967295)) → (∀ i, i < sz * pz_wi (pz_rt 10) → μ' (pz_rc (pz_rt 10)) i = μ (pz_rc (pz_rt 10)) i) → μ' 255 14 = nI sz → μ' 255 12 = nI 0 → μ' 255 13 = -1 → Q none (μ', fg_rho R, 304)) (hN : ¬ sz < pz_mx (pz_rt 10) → ∀ μ' : Nat → Nat → Int32, (∀ a j, (a ≠ 255 ∨ (j ≠ 2 ∧ j ≠ 3 ∧ j ≠ 12 ∧ j ≠ 13 ∧ j ≠ 14)) → μ' a j = μ a j) → (F = 0 → μ' 255 2 = nI 3 ∧ μ' 255 3 = nI s) → (¬ F = 0 → μ' 255 2 = μ 255 2 ∧ μ' 255 3 = μ 255 3) → Q none (μ', fg_rho R, 304)) : fg_Ev E yy_Reader_openRow (d + 5) [.ref 255, .ref 10] (μ, fg_rho R, 304) 304 Q := by
  refine fg_intro (by decide +kernel) (Nat.le_of_ble_eq_true rfl) (fg_okAs rfl) (Nat.le_refl _) ?_
  by_cases hroom : sz < 30
  · refine fg_aloadn (fg_ft (pc := 0) tb_Reader_openRow 0 rfl) rfl ?_
    refine fg_aloadn (fg_ft (pc := 1) tb_Reader_openRow 1 rfl) rfl ?_
    refine fg_callV (fg_ft (pc := 2) tb_Reader_openRow 2 rfl) cf_Reader_176 (fg_isOf ly_255 rfl (fg_lt ly_255 (by decide))) (as := [.ref 10]) (st := []) rfl rfl (Nat.le_of_ble_eq_true rfl) (Nat.le_refl _) (Nat.le_refl _) (ev_Reader_rowsOf_10 ?_)
    refine fg_astoren (fg_ft (pc := 5) tb_Reader_openRow 3 rfl) (Nat.le_of_ble_eq_true rfl) ?_
    refine fg_aloadn (fg_ft (pc := 6) tb_Reader_openRow 4 rfl) rfl ?_
    refine fg_iconst (fg_ft (pc := 7) tb_Reader_openRow 5 rfl) ic_m1 ?_
    refine fg_putI (fg_ft (pc := 8) tb_Reader_openRow 6 rfl) ff_Reader_180 ly_255 rfl (fg_lt ly_255 (by decide)) (fg_nokI _) (fun _ _ h => by cases h; rfl) ?_
    show fg_wp _ _ _ _ _ _ _ _ _ (fg_u2 μ 255 14 (-1), fg_rho R, 304)
    refine fg_aloadn (fg_ft (pc := 11) tb_Reader_openRow 7 rfl) rfl ?_
    refine fg_iconst (fg_ft (pc := 12) tb_Reader_openRow 8 rfl) ic_0 ?_
    refine fg_putI (fg_ft (pc := 13) tb_Reader_openRow 9 rfl) ff_Reader_183 ly_255 rfl (fg_lt ly_255 (by decide)) (fg_nokI _) (fun _ _ h => by cases h; rfl) ?_
    show fg_wp _ _ _ _ _ _ _ _ _ (fg_u2 (fg_u2 μ 255 14 (-1)) 255 12 (nI 0), fg_rho R, 304)
    refine fg_aloadn (fg_ft (pc := 16) tb_Reader_openRow 10 rfl) rfl ?_
    refine fg_iconst (fg_ft (pc := 17) tb_Reader_openRow 11 rfl) ic_m1 ?_
    refine fg_putI (fg_ft (pc := 18) tb_Reader_openRow 12 rfl) ff_Reader_186 ly_255 rfl (fg_lt ly_255 (by decide)) (fg_nokI _) (fun _ _ h => by cases h; rfl) ?_
    show fg_wp _ _ _ _ _ _ _ _ _ (fg_u2 (fg_u2 (fg_u2 μ 255 14 (-1)) 255 12 (nI 0)) 255 13 (-1), fg_rho R, 304)
    refine fg_aloadn (fg_ft (pc := 21) tb_Reader_openRow 13 rfl) rfl ?_
    refine fg_ifnull_r (fg_ft (pc := 22) tb_Reader_openRow 14 rfl) ?_
    refine fg_aloadn (fg_ft (pc := 25) tb_Reader_openRow 15 rfl) rfl ?_
    refine fg_gets (fg_ft (pc := 26) tb_Reader_openRow 16 rfl) fs_Reader_143 ?_
    refine fg_acmp_eq (tgt := 39) (fg_ft (pc := 29) tb_Reader_openRow 17 rfl) (by decide) (by decide) (by decide) (fun h => absurd h (by decide)) (fun _ => ?_)
    refine fg_aloadn (fg_ft (pc := 32) tb_Reader_openRow 18 rfl) rfl ?_
    refine fg_gets (fg_ft (pc := 33) tb_Reader_openRow 19 rfl) fs_Reader_146 ?_
    refine fg_acmp_ne (tgt := 40) (fg_ft (pc := 36) tb_Reader_openRow 20 rfl) (by decide) (by decide) (by decide) (fun _ => ?_) (fun h => absurd h (by decide))
    refine fg_aloadn (fg_ft (pc := 40) tb_Reader_openRow 22 rfl) rfl ?_
    refine fg_aloadn (fg_ft (pc := 41) tb_Reader_openRow 23 rfl) rfl ?_
    refine fg_aloadn (fg_ft (pc := 42) tb_Reader_openRow 24 rfl) rfl ?_
    refine fg_callV (fg_ft (pc := 43) tb_Reader_openRow 25 rfl) cf_Reader_117 (Or.inr (pz_isW (w := 10) (by decide))) (as := []) (st := [.ref 270, .ref 255]) rfl rfl (Nat.le_of_ble_eq_true rfl) (Nat.le_refl _) (Nat.le_refl _) (ev_Word_sort_10 ?_)
    refine fg_iconst (fg_ft (pc := 46) tb_Reader_openRow 26 rfl) ic_1 ?_
    refine fg_icmp_neN (tgt := 54) (fg_ft (pc := 47) tb_Reader_openRow 27 rfl) (by decide) (by decide) (by decide) (fun c47 => (absurd rfl c47)) (fun c47 => ?_)
    refine fg_iconst (fg_ft (pc := 50) tb_Reader_openRow 28 rfl) ic_m1 ?_
    refine fg_goto (tgt := 55) (fg_ft (pc := 51) tb_Reader_openRow 29 rfl) (by decide) ?_
    refine fg_callV (fg_ft (pc := 55) tb_Reader_openRow 31 rfl) cf_Reader_189 (fg_isOf ly_270 rfl (fg_lt ly_270 (by decide))) (as := [.int (-1)]) (st := [.ref 255]) rfl rfl (Nat.le_of_ble_eq_true rfl) (Nat.le_refl _) (Nat.le_refl _) (ev_Rows_add (r := 270) (c := 271) (n := 120) (w := 4) (sz := sz) (x := (-1)) ⟨ly_270, rh_270_1 R, ly_271⟩ (by decide) (((fg_u2ne (f := (fg_u2 (fg_u2 μ 255 14 (-1)) 255 12 (nI 0))) (a := 255) (k := 13) (b := 270) (j := 0) (x := (-1)) (by decide)).trans ((fg_u2ne (f := (fg_u2 μ 255 14 (-1))) (a := 255) (k := 12) (b := 270) (j := 0) (x := (nI 0)) (by decide)).trans ((fg_u2ne (f := μ) (a := 255) (k := 14) (b := 270) (j := 0) (x := (-1)) (by decide)).trans hw0)))) (((fg_u2ne (f := (fg_u2 (fg_u2 μ 255 14 (-1)) 255 12 (nI 0))) (a := 255) (k := 13) (b := 270) (j := 2) (x := (-1)) (by decide)).trans ((fg_u2ne (f := (fg_u2 μ 255 14 (-1))) (a := 255) (k := 12) (b := 270) (j := 2) (x := (nI 0)) (by decide)).trans ((fg_u2ne (f := μ) (a := 255) (k := 14) (b := 270) (j := 2) (x := (-1)) (by decide)).trans hs2)))) (by omega) (by decide) (by omega) (by omega) (by omega) ?_)
    intro ν hfr hN2 hnew hold
    show fg_wp _ _ _ _ _ _ _ _ _ (ν, fg_rho R, 304)
    refine fg_putI (fg_ft (pc := 58) tb_Reader_openRow 32 rfl) ff_Reader_180 ly_255 rfl (fg_lt ly_255 (by decide)) (fg_nokI _) (fun _ _ h => by cases h; rfl) ?_
    show fg_wp _ _ _ _ _ _ _ _ _ (fg_u2 ν 255 14 (nI sz), fg_rho R, 304)
    refine fg_aloadn (fg_ft (pc := 61) tb_Reader_openRow 33 rfl) rfl ?_
    refine fg_getV (v := (nI sz)) (fg_ft (pc := 62) tb_Reader_openRow 34 rfl) ff_Reader_180 ly_255 rfl (fg_lt ly_255 (by decide)) (show (fg_u2 ν 255 14 (nI sz)) 255 14 = nI sz from fg_u2eq) ?_
    refine fg_iconst (fg_ft (pc := 65) tb_Reader_openRow 35 rfl) ic_m1 ?_
    refine fg_icmp_neM (tgt := 74) (fg_ft (pc := 66) tb_Reader_openRow 36 rfl) (by decide) (Nat.lt_trans (show _ < 2 ^ 31 from by omega) (by decide)) (fun c66 => ?_) (fun c66 => (absurd c66 (by omega)))
    refine fg_aloadn (fg_ft (pc := 74) tb_Reader_openRow 40 rfl) rfl ?_
    refine fg_callV (fg_ft (pc := 75) tb_Reader_openRow 41 rfl) cf_Reader_117 (Or.inr (pz_isW (w := 10) (by decide))) (as := []) (st := []) rfl rfl (Nat.le_of_ble_eq_true rfl) (Nat.le_refl _) (Nat.le_refl _) (ev_Word_sort_10 ?_)
    refine fg_iconst (fg_ft (pc := 78) tb_Reader_openRow 42 rfl) ic_1 ?_
    refine fg_icmp_neN (tgt := 95) (fg_ft (pc := 79) tb_Reader_openRow 43 rfl) (by decide) (by decide) (by decide) (fun c79 => (absurd rfl c79)) (fun c79 => ?_)
    refine fg_aloadn (fg_ft (pc := 82) tb_Reader_openRow 44 rfl) rfl ?_
    refine fg_aloadn (fg_ft (pc := 83) tb_Reader_openRow 45 rfl) rfl ?_
    refine fg_getV (v := (nI sz)) (fg_ft (pc := 84) tb_Reader_openRow 46 rfl) ff_Reader_180 ly_255 rfl (fg_lt ly_255 (by decide)) (show (fg_u2 ν 255 14 (nI sz)) 255 14 = nI sz from fg_u2eq) ?_
    refine fg_iconst (fg_ft (pc := 87) tb_Reader_openRow 47 rfl) ic_0 ?_
    refine fg_aloadn (fg_ft (pc := 88) tb_Reader_openRow 48 rfl) rfl ?_
    refine fg_getK (fg_ft (pc := 89) tb_Reader_openRow 49 rfl) fk_Reader_196_10 ?_
    refine fg_callV (fg_ft (pc := 92) tb_Reader_openRow 50 rfl) cf_Reader_199 (fg_isOf ly_270 rfl (fg_lt ly_270 (by decide))) (as := [.int (nI sz), .int (nI 0), .int (nI 0)]) (st := []) rfl rfl (Nat.le_of_ble_eq_true rfl) (Nat.le_refl _) (Nat.le_refl _) (ev_Rows_put (r := 270) (c := 271) (n := 120) (w := 4) (sz := sz + 1) (i := sz) (j := 0) ⟨ly_270, rh_270_1 R, ly_271⟩ (((fg_u2ne (f := ν) (a := 255) (k := 14) (b := 270) (j := 0) (x := (nI sz)) (by decide)).trans ((hfr 270 0 (by decide) (Or.inr (by decide))).trans (((fg_u2ne (f := (fg_u2 (fg_u2 μ 255 14 (-1)) 255 12 (nI 0))) (a := 255) (k := 13) (b := 270) (j := 0) (x := (-1)) (by decide)).trans ((fg_u2ne (f := (fg_u2 μ 255 14 (-1))) (a := 255) (k := 12) (b := 270) (j := 0) (x := (nI 0)) (by decide)).trans ((fg_u2ne (f := μ) (a := 255) (k := 14) (b := 270) (j := 0) (x := (-1)) (by decide)).trans hw0))))))) (((fg_u2ne (f := ν) (a := 255) (k := 14) (b := 270) (j := 2) (x := (nI sz)) (by decide)).trans hN2)) (by omega) (by decide) (by omega) (by omega) (by decide) ?_)
    show fg_wp _ _ _ _ _ _ _ _ _ (fg_u2 (fg_u2 ν 255 14 (nI sz)) 271 (sz * 4 + 0) (nI 0), fg_rho R, 304)
    exact fg_vret (fg_ft (pc := 95) tb_Reader_openRow 51 rfl) rfl rfl (hR hroom _ (fun a j g1 g2 g3 => (fg_u2ne g1).trans ((fg_u2nx (by omega)).trans ((hfr a j g1 g2).trans ((fg_u2nx (by omega)).trans ((fg_u2nx (by omega)).trans (fg_u2nx (by omega))))))) ((fg_u2ne (by decide)).trans ((fg_u2ne (by decide)).trans hN2)) (fun i hi => by
        rcases Nat.decEq i 0 with q | q
        · refine (fg_u2ns (show ¬ sz * 4 + i = sz * 4 + 0 by omega)).trans ((fg_u2ne (by decide)).trans ((hnew i hi).trans ?_))
          rw [if_neg (by decide), if_neg q]; rfl
        · rw [q]; exact fg_u2eq) (fun i hi => (fg_u2ns (show ¬ i = sz * 4 + 0 from by have hi4 : i < sz * 4 := hi; omega)).trans ((fg_u2ne (by decide)).trans ((hold i hi).trans ((fg_u2ne (by decide)).trans ((fg_u2ne (by decide)).trans (fg_u2ne (by decide))))))) ((fg_u2nx (by omega)).trans fg_u2eq) ((fg_u2nx (by omega)).trans ((fg_u2nx (by omega)).trans ((hfr 255 12 (by decide) (Or.inl (by decide))).trans ((fg_u2ns (by decide)).trans fg_u2eq)))) ((fg_u2nx (by omega)).trans ((fg_u2nx (by omega)).trans ((hfr 255 13 (by decide) (Or.inl (by decide))).trans fg_u2eq))))
  · refine fg_aloadn (fg_ft (pc := 0) tb_Reader_openRow 0 rfl) rfl ?_
    refine fg_aloadn (fg_ft (pc := 1) tb_Reader_openRow 1 rfl) rfl ?_
    refine fg_callV (fg_ft (pc := 2) tb_Reader_openRow 2 rfl) cf_Reader_176 (fg_isOf ly_255 rfl (fg_lt ly_255 (by decide))) (as := [.ref 10]) (st := []) rfl rfl (Nat.le_of_ble_eq_true rfl) (Nat.le_refl _) (Nat.le_refl _) (ev_Reader_rowsOf_10 ?_)
    refine fg_astoren (fg_ft (pc := 5) tb_Reader_openRow 3 rfl) (Nat.le_of_ble_eq_true rfl) ?_
    refine fg_aloadn (fg_ft (pc := 6) tb_Reader_openRow 4 rfl) rfl ?_
    refine fg_iconst (fg_ft (pc := 7) tb_Reader_openRow 5 rfl) ic_m1 ?_
    refine fg_putI (fg_ft (pc := 8) tb_Reader_openRow 6 rfl) ff_Reader_180 ly_255 rfl (fg_lt ly_255 (by decide)) (fg_nokI _) (fun _ _ h => by cases h; rfl) ?_
    show fg_wp _ _ _ _ _ _ _ _ _ (fg_u2 μ 255 14 (-1), fg_rho R, 304)
    refine fg_aloadn (fg_ft (pc := 11) tb_Reader_openRow 7 rfl) rfl ?_
    refine fg_iconst (fg_ft (pc := 12) tb_Reader_openRow 8 rfl) ic_0 ?_
    refine fg_putI (fg_ft (pc := 13) tb_Reader_openRow 9 rfl) ff_Reader_183 ly_255 rfl (fg_lt ly_255 (by decide)) (fg_nokI _) (fun _ _ h => by cases h; rfl) ?_
    show fg_wp _ _ _ _ _ _ _ _ _ (fg_u2 (fg_u2 μ 255 14 (-1)) 255 12 (nI 0), fg_rho R, 304)
    refine fg_aloadn (fg_ft (pc := 16) tb_Reader_openRow 10 rfl) rfl ?_
    refine fg_iconst (fg_ft (pc := 17) tb_Reader_openRow 11 rfl) ic_m1 ?_
    refine fg_putI (fg_ft (pc := 18) tb_Reader_openRow 12 rfl) ff_Reader_186 ly_255 rfl (fg_lt ly_255 (by decide)) (fg_nokI _) (fun _ _ h => by cases h; rfl) ?_
    show fg_wp _ _ _ _ _ _ _ _ _ (fg_u2 (fg_u2 (fg_u2 μ 255 14 (-1)) 255 12 (nI 0)) 255 13 (-1), fg_rho R, 304)
    refine fg_aloadn (fg_ft (pc := 21) tb_Reader_openRow 13 rfl) rfl ?_
    refine fg_ifnull_r (fg_ft (pc := 22) tb_Reader_openRow 14 rfl) ?_
    refine fg_aloadn (fg_ft (pc := 25) tb_Reader_openRow 15 rfl) rfl ?_
    refine fg_gets (fg_ft (pc := 26) tb_Reader_openRow 16 rfl) fs_Reader_143 ?_
    refine fg_acmp_eq (tgt := 39) (fg_ft (pc := 29) tb_Reader_openRow 17 rfl) (by decide) (by decide) (by decide) (fun h => absurd h (by decide)) (fun _ => ?_)
    refine fg_aloadn (fg_ft (pc := 32) tb_Reader_openRow 18 rfl) rfl ?_
    refine fg_gets (fg_ft (pc := 33) tb_Reader_openRow 19 rfl) fs_Reader_146 ?_
    refine fg_acmp_ne (tgt := 40) (fg_ft (pc := 36) tb_Reader_openRow 20 rfl) (by decide) (by decide) (by decide) (fun _ => ?_) (fun h => absurd h (by decide))
    refine fg_aloadn (fg_ft (pc := 40) tb_Reader_openRow 22 rfl) rfl ?_
    refine fg_aloadn (fg_ft (pc := 41) tb_Reader_openRow 23 rfl) rfl ?_
    refine fg_aloadn (fg_ft (pc := 42) tb_Reader_openRow 24 rfl) rfl ?_
    refine fg_callV (fg_ft (pc := 43) tb_Reader_openRow 25 rfl) cf_Reader_117 (Or.inr (pz_isW (w := 10) (by decide))) (as := []) (st := [.ref 270, .ref 255]) rfl rfl (Nat.le_of_ble_eq_true rfl) (Nat.le_refl _) (Nat.le_refl _) (ev_Word_sort_10 ?_)
    refine fg_iconst (fg_ft (pc := 46) tb_Reader_openRow 26 rfl) ic_1 ?_
    refine fg_icmp_neN (tgt := 54) (fg_ft (pc := 47) tb_Reader_openRow 27 rfl) (by decide) (by decide) (by decide) (fun c47 => (absurd rfl c47)) (fun c47 => ?_)
    refine fg_iconst (fg_ft (pc := 50) tb_Reader_openRow 28 rfl) ic_m1 ?_
    refine fg_goto (tgt := 55) (fg_ft (pc := 51) tb_Reader_openRow 29 rfl) (by decide) ?_
    refine fg_callV (fg_ft (pc := 55) tb_Reader_openRow 31 rfl) cf_Reader_189 (fg_isOf ly_270 rfl (fg_lt ly_270 (by decide))) (as := [.int (-1)]) (st := [.ref 255]) rfl rfl (Nat.le_of_ble_eq_true rfl) (Nat.le_refl _) (Nat.le_refl _) (ev_Rows_addFull (r := 270) (c := 271) (n := 120) (w := 4) (sz := sz) ⟨ly_270, rh_270_1 R, ly_271⟩ (by decide) (((fg_u2ne (f := (fg_u2 (fg_u2 μ 255 14 (-1)) 255 12 (nI 0))) (a := 255) (k := 13) (b := 270) (j := 0) (x := (-1)) (by decide)).trans ((fg_u2ne (f := (fg_u2 μ 255 14 (-1))) (a := 255) (k := 12) (b := 270) (j := 0) (x := (nI 0)) (by decide)).trans ((fg_u2ne (f := μ) (a := 255) (k := 14) (b := 270) (j := 0) (x := (-1)) (by decide)).trans hw0)))) (((fg_u2ne (f := (fg_u2 (fg_u2 μ 255 14 (-1)) 255 12 (nI 0))) (a := 255) (k := 13) (b := 270) (j := 2) (x := (-1)) (by decide)).trans ((fg_u2ne (f := (fg_u2 μ 255 14 (-1))) (a := 255) (k := 12) (b := 270) (j := 2) (x := (nI 0)) (by decide)).trans ((fg_u2ne (f := μ) (a := 255) (k := 14) (b := 270) (j := 2) (x := (-1)) (by decide)).trans hs2)))) (by omega) (by decide) (by omega) (by omega) (by omega) ?_)
    refine fg_putI (fg_ft (pc := 58) tb_Reader_openRow 32 rfl) ff_Reader_180 ly_255 rfl (fg_lt ly_255 (by decide)) (fg_nokI _) (fun _ _ h => by cases h; rfl) ?_
    show fg_wp _ _ _ _ _ _ _ _ _ (fg_u2 (fg_u2 (fg_u2 (fg_u2 μ 255 14 (-1)) 255 12 (nI 0)) 255 13 (-1)) 255 14 (-1), fg_rho R, 304)
    refine fg_aloadn (fg_ft (pc := 61) tb_Reader_openRow 33 rfl) rfl ?_
    refine fg_getV (v := (-1)) (fg_ft (pc := 62) tb_Reader_openRow 34 rfl) ff_Reader_180 ly_255 rfl (fg_lt ly_255 (by decide)) (show (fg_u2 (fg_u2 (fg_u2 (fg_u2 μ 255 14 (-1)) 255 12 (nI 0)) 255 13 (-1)) 255 14 (-1)) 255 14 = -1 from fg_u2eq) ?_
    refine fg_iconst (fg_ft (pc := 65) tb_Reader_openRow 35 rfl) ic_m1 ?_
    refine fg_icmp_ne (tgt := 74) (fg_ft (pc := 66) tb_Reader_openRow 36 rfl) (by decide) (fun c66 => (absurd rfl c66)) (fun c66 => ?_)
    by_cases cF : F = 0
    · refine fg_aloadn (fg_ft (pc := 69) tb_Reader_openRow 37 rfl) rfl ?_
      refine fg_iconst (fg_ft (pc := 70) tb_Reader_openRow 38 rfl) ic_3 ?_
      refine fg_callV (fg_ft (pc := 71) tb_Reader_openRow 39 rfl) cf_Reader_192 (fg_isOf ly_255 rfl (fg_lt ly_255 (by decide))) (as := [.int (nI 3)]) (st := []) rfl rfl (Nat.le_of_ble_eq_true rfl) (Nat.le_refl _) (Nat.le_refl _) (ev_Reader_noteFault0 (s := s) (((fg_u2ns (f := (fg_u2 (fg_u2 (fg_u2 μ 255 14 (-1)) 255 12 (nI 0)) 255 13 (-1))) (a := 255) (k := 14) (b := 255) (j := 2) (x := (-1)) (by decide)).trans ((fg_u2ns (f := (fg_u2 (fg_u2 μ 255 14 (-1)) 255 12 (nI 0))) (a := 255) (k := 13) (b := 255) (j := 2) (x := (-1)) (by decide)).trans ((fg_u2ns (f := (fg_u2 μ 255 14 (-1))) (a := 255) (k := 12) (b := 255) (j := 2) (x := (nI 0)) (by decide)).trans ((fg_u2ns (f := μ) (a := 255) (k := 14) (b := 255) (j := 2) (x := (-1)) (by decide)).trans (hF.trans (congrArg nI cF))))))) (((fg_u2ns (f := (fg_u2 (fg_u2 (fg_u2 μ 255 14 (-1)) 255 12 (nI 0)) 255 13 (-1))) (a := 255) (k := 14) (b := 255) (j := 9) (x := (-1)) (by decide)).trans ((fg_u2ns (f := (fg_u2 (fg_u2 μ 255 14 (-1)) 255 12 (nI 0))) (a := 255) (k := 13) (b := 255) (j := 9) (x := (-1)) (by decide)).trans ((fg_u2ns (f := (fg_u2 μ 255 14 (-1))) (a := 255) (k := 12) (b := 255) (j := 9) (x := (nI 0)) (by decide)).trans ((fg_u2ns (f := μ) (a := 255) (k := 14) (b := 255) (j := 9) (x := (-1)) (by decide)).trans h9))))) ?_)
      show fg_wp _ _ _ _ _ _ _ _ _ (fg_u2 (fg_u2 (fg_u2 (fg_u2 (fg_u2 (fg_u2 μ 255 14 (-1)) 255 12 (nI 0)) 255 13 (-1)) 255 14 (-1)) 255 2 (nI 3)) 255 3 (nI s), fg_rho R, 304)
      refine fg_aloadn (fg_ft (pc := 74) tb_Reader_openRow 40 rfl) rfl ?_
      refine fg_callV (fg_ft (pc := 75) tb_Reader_openRow 41 rfl) cf_Reader_117 (Or.inr (pz_isW (w := 10) (by decide))) (as := []) (st := []) rfl rfl (Nat.le_of_ble_eq_true rfl) (Nat.le_refl _) (Nat.le_refl _) (ev_Word_sort_10 ?_)
      refine fg_iconst (fg_ft (pc := 78) tb_Reader_openRow 42 rfl) ic_1 ?_
      refine fg_icmp_neN (tgt := 95) (fg_ft (pc := 79) tb_Reader_openRow 43 rfl) (by decide) (by decide) (by decide) (fun c79 => (absurd rfl c79)) (fun c79 => ?_)
      refine fg_aloadn (fg_ft (pc := 82) tb_Reader_openRow 44 rfl) rfl ?_
      refine fg_aloadn (fg_ft (pc := 83) tb_Reader_openRow 45 rfl) rfl ?_
      refine fg_getV (v := (-1)) (fg_ft (pc := 84) tb_Reader_openRow 46 rfl) ff_Reader_180 ly_255 rfl (fg_lt ly_255 (by decide)) (show (fg_u2 (fg_u2 (fg_u2 (fg_u2 (fg_u2 (fg_u2 μ 255 14 (-1)) 255 12 (nI 0)) 255 13 (-1)) 255 14 (-1)) 255 2 (nI 3)) 255 3 (nI s)) 255 14 = -1 from ((fg_u2nx (by decide)).trans ((fg_u2nx (by decide)).trans fg_u2eq))) ?_
      refine fg_iconst (fg_ft (pc := 87) tb_Reader_openRow 47 rfl) ic_0 ?_
      refine fg_aloadn (fg_ft (pc := 88) tb_Reader_openRow 48 rfl) rfl ?_
      refine fg_getK (fg_ft (pc := 89) tb_Reader_openRow 49 rfl) fk_Reader_196_10 ?_
      refine fg_callV (fg_ft (pc := 92) tb_Reader_openRow 50 rfl) cf_Reader_199 (fg_isOf ly_270 rfl (fg_lt ly_270 (by decide))) (as := [.int (-1), .int (nI 0), .int (nI 0)]) (st := []) rfl rfl (Nat.le_of_ble_eq_true rfl) (Nat.le_refl _) (Nat.le_refl _) (ev_Rows_putOut (r := 270) (c := 271) (n := 120) (w := 4) (sz := sz) ⟨ly_270, rh_270_1 R, ly_271⟩ (((fg_u2ne (f := (fg_u2 (fg_u2 (fg_u2 (fg_u2 (fg_u2 μ 255 14 (-1)) 255 12 (nI 0)) 255 13 (-1)) 255 14 (-1)) 255 2 (nI 3))) (a := 255) (k := 3) (b := 270) (j := 0) (x := (nI s)) (by decide)).trans ((fg_u2ne (f := (fg_u2 (fg_u2 (fg_u2 (fg_u2 μ 255 14 (-1)) 255 12 (nI 0)) 255 13 (-1)) 255 14 (-1))) (a := 255) (k := 2) (b := 270) (j := 0) (x := (nI 3)) (by decide)).trans ((fg_u2ne (f := (fg_u2 (fg_u2 (fg_u2 μ 255 14 (-1)) 255 12 (nI 0)) 255 13 (-1))) (a := 255) (k := 14) (b := 270) (j := 0) (x := (-1)) (by decide)).trans ((fg_u2ne (f := (fg_u2 (fg_u2 μ 255 14 (-1)) 255 12 (nI 0))) (a := 255) (k := 13) (b := 270) (j := 0) (x := (-1)) (by decide)).trans ((fg_u2ne (f := (fg_u2 μ 255 14 (-1))) (a := 255) (k := 12) (b := 270) (j := 0) (x := (nI 0)) (by decide)).trans ((fg_u2ne (f := μ) (a := 255) (k := 14) (b := 270) (j := 0) (x := (-1)) (by decide)).trans hw0))))))) (((fg_u2ne (f := (fg_u2 (fg_u2 (fg_u2 (fg_u2 (fg_u2 μ 255 14 (-1)) 255 12 (nI 0)) 255 13 (-1)) 255 14 (-1)) 255 2 (nI 3))) (a := 255) (k := 3) (b := 270) (j := 2) (x := (nI s)) (by decide)).trans ((fg_u2ne (f := (fg_u2 (fg_u2 (fg_u2 (fg_u2 μ 255 14 (-1)) 255 12 (nI 0)) 255 13 (-1)) 255 14 (-1))) (a := 255) (k := 2) (b := 270) (j := 2) (x := (nI 3)) (by decide)).trans ((fg_u2ne (f := (fg_u2 (fg_u2 (fg_u2 μ 255 14 (-1)) 255 12 (nI 0)) 255 13 (-1))) (a := 255) (k := 14) (b := 270) (j := 2) (x := (-1)) (by decide)).trans ((fg_u2ne (f := (fg_u2 (fg_u2 μ 255 14 (-1)) 255 12 (nI 0))) (a := 255) (k := 13) (b := 270) (j := 2) (x := (-1)) (by decide)).trans ((fg_u2ne (f := (fg_u2 μ 255 14 (-1))) (a := 255) (k := 12) (b := 270) (j := 2) (x := (nI 0)) (by decide)).trans ((fg_u2ne (f := μ) (a := 255) (k := 14) (b := 270) (j := 2) (x := (-1)) (by decide)).trans hs2))))))) (by omega) (by decide) (by omega) (fun h => h.1 (by decide)) ?_)
      exact fg_vret (fg_ft (pc := 95) tb_Reader_openRow 51 rfl) rfl rfl (hN hroom _ (fun a j h => ((fg_u2nx (by omega)).trans ((fg_u2nx (by omega)).trans ((fg_u2nx (by omega)).trans ((fg_u2nx (by omega)).trans ((fg_u2nx (by omega)).trans ((fg_u2nx (by omega)).trans rfl))))))) (fun _ => ⟨(fg_u2ns (by decide)).trans fg_u2eq, fg_u2eq⟩) (fun h => absurd cF h))
    · refine fg_aloadn (fg_ft (pc := 69) tb_Reader_openRow 37 rfl) rfl ?_
      refine fg_iconst (fg_ft (pc := 70) tb_Reader_openRow 38 rfl) ic_3 ?_
      refine fg_callV (fg_ft (pc := 71) tb_Reader_openRow 39 rfl) cf_Reader_192 (fg_isOf ly_255 rfl (fg_lt ly_255 (by decide))) (as := [.int (nI 3)]) (st := []) rfl rfl (Nat.le_of_ble_eq_true rfl) (Nat.le_refl _) (Nat.le_refl _) (ev_Reader_noteFault1 (F := F) (((fg_u2ns (f := (fg_u2 (fg_u2 (fg_u2 μ 255 14 (-1)) 255 12 (nI 0)) 255 13 (-1))) (a := 255) (k := 14) (b := 255) (j := 2) (x := (-1)) (by decide)).trans ((fg_u2ns (f := (fg_u2 (fg_u2 μ 255 14 (-1)) 255 12 (nI 0))) (a := 255) (k := 13) (b := 255) (j := 2) (x := (-1)) (by decide)).trans ((fg_u2ns (f := (fg_u2 μ 255 14 (-1))) (a := 255) (k := 12) (b := 255) (j := 2) (x := (nI 0)) (by decide)).trans ((fg_u2ns (f := μ) (a := 255) (k := 14) (b := 255) (j := 2) (x := (-1)) (by decide)).trans hF))))) hF5 cF ?_)
      refine fg_aloadn (fg_ft (pc := 74) tb_Reader_openRow 40 rfl) rfl ?_
      refine fg_callV (fg_ft (pc := 75) tb_Reader_openRow 41 rfl) cf_Reader_117 (Or.inr (pz_isW (w := 10) (by decide))) (as := []) (st := []) rfl rfl (Nat.le_of_ble_eq_true rfl) (Nat.le_refl _) (Nat.le_refl _) (ev_Word_sort_10 ?_)
      refine fg_iconst (fg_ft (pc := 78) tb_Reader_openRow 42 rfl) ic_1 ?_
      refine fg_icmp_neN (tgt := 95) (fg_ft (pc := 79) tb_Reader_openRow 43 rfl) (by decide) (by decide) (by decide) (fun c79 => (absurd rfl c79)) (fun c79 => ?_)
      refine fg_aloadn (fg_ft (pc := 82) tb_Reader_openRow 44 rfl) rfl ?_
      refine fg_aloadn (fg_ft (pc := 83) tb_Reader_openRow 45 rfl) rfl ?_
      refine fg_getV (v := (-1)) (fg_ft (pc := 84) tb_Reader_openRow 46 rfl) ff_Reader_180 ly_255 rfl (fg_lt ly_255 (by decide)) (show (fg_u2 (fg_u2 (fg_u2 (fg_u2 μ 255 14 (-1)) 255 12 (nI 0)) 255 13 (-1)) 255 14 (-1)) 255 14 = -1 from fg_u2eq) ?_
      refine fg_iconst (fg_ft (pc := 87) tb_Reader_openRow 47 rfl) ic_0 ?_
      refine fg_aloadn (fg_ft (pc := 88) tb_Reader_openRow 48 rfl) rfl ?_
      refine fg_getK (fg_ft (pc := 89) tb_Reader_openRow 49 rfl) fk_Reader_196_10 ?_
      refine fg_callV (fg_ft (pc := 92) tb_Reader_openRow 50 rfl) cf_Reader_199 (fg_isOf ly_270 rfl (fg_lt ly_270 (by decide))) (as := [.int (-1), .int (nI 0), .int (nI 0)]) (st := []) rfl rfl (Nat.le_of_ble_eq_true rfl) (Nat.le_refl _) (Nat.le_refl _) (ev_Rows_putOut (r := 270) (c := 271) (n := 120) (w := 4) (sz := sz) ⟨ly_270, rh_270_1 R, ly_271⟩ (((fg_u2ne (f := (fg_u2 (fg_u2 (fg_u2 μ 255 14 (-1)) 255 12 (nI 0)) 255 13 (-1))) (a := 255) (k := 14) (b := 270) (j := 0) (x := (-1)) (by decide)).trans ((fg_u2ne (f := (fg_u2 (fg_u2 μ 255 14 (-1)) 255 12 (nI 0))) (a := 255) (k := 13) (b := 270) (j := 0) (x := (-1)) (by decide)).trans ((fg_u2ne (f := (fg_u2 μ 255 14 (-1))) (a := 255) (k := 12) (b := 270) (j := 0) (x := (nI 0)) (by decide)).trans ((fg_u2ne (f := μ) (a := 255) (k := 14) (b := 270) (j := 0) (x := (-1)) (by decide)).trans hw0))))) (((fg_u2ne (f := (fg_u2 (fg_u2 (fg_u2 μ 255 14 (-1)) 255 12 (nI 0)) 255 13 (-1))) (a := 255) (k := 14) (b := 270) (j := 2) (x := (-1)) (by decide)).trans ((fg_u2ne (f := (fg_u2 (fg_u2 μ 255 14 (-1)) 255 12 (nI 0))) (a := 255) (k := 13) (b := 270) (j := 2) (x := (-1)) (by decide)).trans ((fg_u2ne (f := (fg_u2 μ 255 14 (-1))) (a := 255) (k := 12) (b := 270) (j := 2) (x := (nI 0)) (by decide)).trans ((fg_u2ne (f := μ) (a := 255) (k := 14) (b := 270) (j := 2) (x := (-1)) (by decide)).trans hs2))))) (by omega) (by decide) (by omega) (fun h => h.1 (by decide)) ?_)
      exact fg_vret (fg_ft (pc := 95) tb_Reader_openRow 51 rfl) rfl rfl (hN hroom _ (fun a j h => ((fg_u2nx (by omega)).trans ((fg_u2nx (by omega)).trans ((fg_u2nx (by omega)).trans ((fg_u2nx (by omega)).trans rfl))))) (fun h => absurd h cF) (fun _ => ⟨((fg_u2nx (by decide)).trans ((fg_u2nx (by decide)).trans ((fg_u2nx (by decide)).trans ((fg_u2nx (by decide)).trans rfl)))), ((fg_u2nx (by decide)).trans ((fg_u2nx (by decide)).trans ((fg_u2nx (by decide)).trans ((fg_u2nx (by decide)).trans rfl))))⟩))
theorem fk_Reader_196_11 : fg_KF "ForgetBread$Reader" 196 11 (.int (nI 1)) := ⟨_, List.mem_of_getElem? (l := fg_ofld) (i := 66) rfl, rfl, rfl, fg_tblIn 1728 (by decide +kernel) (by decide +kernel)⟩
theorem ev_Reader_openRow_11 {E : fg_E} {d : Nat} {μ : Nat → Nat → Int32} {R : fg_T4} {Q : Option Value → fg_M → Prop} {sz F s : Nat} (h9 : μ 255 9 = nI s) (hF : μ 255 2 = nI F) (hF5 : F < 5) (hw0 : μ 270 0 = nI 4) (hs2 : μ 270 2 = nI sz) (hsz : sz ≤ 30) (hR : sz < pz_mx (pz_rt 11) → ∀ μ' : Nat → Nat → Int32, (∀ a j, a ≠ pz_rc (pz_rt 11) → (a ≠ pz_ro (pz_rt 11) ∨ j ≠ 2) → (a ≠ 255 ∨ (j ≠ 12 ∧ j ≠ 13 ∧ j ≠ 14)) → μ' a j = μ a j) → μ' (pz_ro (pz_rt 11)) 2 = nI (sz + 1) → (∀ i, i < pz_wi (pz_rt 11) → μ' (pz_rc (pz_rt 11)) (sz * pz_wi (pz_rt 11) + i) = nI (if 11 < 10 then 0 else if i = 0 then 11 - 10 else 4294967295)) → (∀ i, i < sz * pz_wi (pz_rt 11) → μ' (pz_rc (pz_rt 11)) i = μ (pz_rc (pz_rt 11)) i) → μ' 255 14 = nI sz → μ' 255 12 = nI 0 → μ' 255 13 = -1 → Q none (μ', fg_rho R, 304)) (hN : ¬ sz < pz_mx (pz_rt 11) → ∀ μ' : Nat → Nat → Int32, (∀ a j, (a ≠ 255 ∨ (j ≠ 2 ∧ j ≠ 3 ∧ j ≠ 12 ∧ j ≠ 13 ∧ j ≠ 14)) → μ' a j = μ a j) → (F = 0 → μ' 255 2 = nI 3 ∧ μ' 255 3 = nI s) → (¬ F = 0 → μ' 255 2 = μ 255 2 ∧ μ' 255 3 = μ 255 3) → Q none (μ', fg_rho R, 304)) : fg_Ev E yy_Reader_openRow (d + 5) [.ref 255, .ref 11] (μ, fg_rho R, 304) 304 Q := by
  refine fg_intro (by decide +kernel) (Nat.le_of_ble_eq_true rfl) (fg_okAs rfl) (Nat.le_refl _) ?_
  by_cases hroom : sz < 30
  · refine fg_aloadn (fg_ft (pc := 0) tb_Reader_openRow 0 rfl) rfl ?_
    refine fg_aloadn (fg_ft (pc := 1) tb_Reader_openRow 1 rfl) rfl ?_
    refine fg_callV (fg_ft (pc := 2) tb_Reader_openRow 2 rfl) cf_Reader_176 (fg_isOf ly_255 rfl (fg_lt ly_255 (by decide))) (as := [.ref 11]) (st := []) rfl rfl (Nat.le_of_ble_eq_true rfl) (Nat.le_refl _) (Nat.le_refl _) (ev_Reader_rowsOf_11 ?_)
    refine fg_astoren (fg_ft (pc := 5) tb_Reader_openRow 3 rfl) (Nat.le_of_ble_eq_true rfl) ?_
    refine fg_aloadn (fg_ft (pc := 6) tb_Reader_openRow 4 rfl) rfl ?_
    refine fg_iconst (fg_ft (pc := 7) tb_Reader_openRow 5 rfl) ic_m1 ?_
    refine fg_putI (fg_ft (pc := 8) tb_Reader_openRow 6 rfl) ff_Reader_180 ly_255 rfl (fg_lt ly_255 (by decide)) (fg_nokI _) (fun _ _ h => by cases h; rfl) ?_
    show fg_wp _ _ _ _ _ _ _ _ _ (fg_u2 μ 255 14 (-1), fg_rho R, 304)
    refine fg_aloadn (fg_ft (pc := 11) tb_Reader_openRow 7 rfl) rfl ?_
    refine fg_iconst (fg_ft (pc := 12) tb_Reader_openRow 8 rfl) ic_0 ?_
    refine fg_putI (fg_ft (pc := 13) tb_Reader_openRow 9 rfl) ff_Reader_183 ly_255 rfl (fg_lt ly_255 (by decide)) (fg_nokI _) (fun _ _ h => by cases h; rfl) ?_
    show fg_wp _ _ _ _ _ _ _ _ _ (fg_u2 (fg_u2 μ 255 14 (-1)) 255 12 (nI 0), fg_rho R, 304)
    refine fg_aloadn (fg_ft (pc := 16) tb_Reader_openRow 10 rfl) rfl ?_
    refine fg_iconst (fg_ft (pc := 17) tb_Reader_openRow 11 rfl) ic_m1 ?_
    refine fg_putI (fg_ft (pc := 18) tb_Reader_openRow 12 rfl) ff_Reader_186 ly_255 rfl (fg_lt ly_255 (by decide)) (fg_nokI _) (fun _ _ h => by cases h; rfl) ?_
    show fg_wp _ _ _ _ _ _ _ _ _ (fg_u2 (fg_u2 (fg_u2 μ 255 14 (-1)) 255 12 (nI 0)) 255 13 (-1), fg_rho R, 304)
    refine fg_aloadn (fg_ft (pc := 21) tb_Reader_openRow 13 rfl) rfl ?_
    refine fg_ifnull_r (fg_ft (pc := 22) tb_Reader_openRow 14 rfl) ?_
    refine fg_aloadn (fg_ft (pc := 25) tb_Reader_openRow 15 rfl) rfl ?_
    refine fg_gets (fg_ft (pc := 26) tb_Reader_openRow 16 rfl) fs_Reader_143 ?_
    refine fg_acmp_eq (tgt := 39) (fg_ft (pc := 29) tb_Reader_openRow 17 rfl) (by decide) (by decide) (by decide) (fun h => absurd h (by decide)) (fun _ => ?_)
    refine fg_aloadn (fg_ft (pc := 32) tb_Reader_openRow 18 rfl) rfl ?_
    refine fg_gets (fg_ft (pc := 33) tb_Reader_openRow 19 rfl) fs_Reader_146 ?_
    refine fg_acmp_ne (tgt := 40) (fg_ft (pc := 36) tb_Reader_openRow 20 rfl) (by decide) (by decide) (by decide) (fun _ => ?_) (fun h => absurd h (by decide))
    refine fg_aloadn (fg_ft (pc := 40) tb_Reader_openRow 22 rfl) rfl ?_
    refine fg_aloadn (fg_ft (pc := 41) tb_Reader_openRow 23 rfl) rfl ?_
    refine fg_aloadn (fg_ft (pc := 42) tb_Reader_openRow 24 rfl) rfl ?_
    refine fg_callV (fg_ft (pc := 43) tb_Reader_openRow 25 rfl) cf_Reader_117 (Or.inr (pz_isW (w := 11) (by decide))) (as := []) (st := [.ref 270, .ref 255]) rfl rfl (Nat.le_of_ble_eq_true rfl) (Nat.le_refl _) (Nat.le_refl _) (ev_Word_sort_11 ?_)
    refine fg_iconst (fg_ft (pc := 46) tb_Reader_openRow 26 rfl) ic_1 ?_
    refine fg_icmp_neN (tgt := 54) (fg_ft (pc := 47) tb_Reader_openRow 27 rfl) (by decide) (by decide) (by decide) (fun c47 => (absurd rfl c47)) (fun c47 => ?_)
    refine fg_iconst (fg_ft (pc := 50) tb_Reader_openRow 28 rfl) ic_m1 ?_
    refine fg_goto (tgt := 55) (fg_ft (pc := 51) tb_Reader_openRow 29 rfl) (by decide) ?_
    refine fg_callV (fg_ft (pc := 55) tb_Reader_openRow 31 rfl) cf_Reader_189 (fg_isOf ly_270 rfl (fg_lt ly_270 (by decide))) (as := [.int (-1)]) (st := [.ref 255]) rfl rfl (Nat.le_of_ble_eq_true rfl) (Nat.le_refl _) (Nat.le_refl _) (ev_Rows_add (r := 270) (c := 271) (n := 120) (w := 4) (sz := sz) (x := (-1)) ⟨ly_270, rh_270_1 R, ly_271⟩ (by decide) (((fg_u2ne (f := (fg_u2 (fg_u2 μ 255 14 (-1)) 255 12 (nI 0))) (a := 255) (k := 13) (b := 270) (j := 0) (x := (-1)) (by decide)).trans ((fg_u2ne (f := (fg_u2 μ 255 14 (-1))) (a := 255) (k := 12) (b := 270) (j := 0) (x := (nI 0)) (by decide)).trans ((fg_u2ne (f := μ) (a := 255) (k := 14) (b := 270) (j := 0) (x := (-1)) (by decide)).trans hw0)))) (((fg_u2ne (f := (fg_u2 (fg_u2 μ 255 14 (-1)) 255 12 (nI 0))) (a := 255) (k := 13) (b := 270) (j := 2) (x := (-1)) (by decide)).trans ((fg_u2ne (f := (fg_u2 μ 255 14 (-1))) (a := 255) (k := 12) (b := 270) (j := 2) (x := (nI 0)) (by decide)).trans ((fg_u2ne (f := μ) (a := 255) (k := 14) (b := 270) (j := 2) (x := (-1)) (by decide)).trans hs2)))) (by omega) (by decide) (by omega) (by omega) (by omega) ?_)
    intro ν hfr hN2 hnew hold
    show fg_wp _ _ _ _ _ _ _ _ _ (ν, fg_rho R, 304)
    refine fg_putI (fg_ft (pc := 58) tb_Reader_openRow 32 rfl) ff_Reader_180 ly_255 rfl (fg_lt ly_255 (by decide)) (fg_nokI _) (fun _ _ h => by cases h; rfl) ?_
    show fg_wp _ _ _ _ _ _ _ _ _ (fg_u2 ν 255 14 (nI sz), fg_rho R, 304)
    refine fg_aloadn (fg_ft (pc := 61) tb_Reader_openRow 33 rfl) rfl ?_
    refine fg_getV (v := (nI sz)) (fg_ft (pc := 62) tb_Reader_openRow 34 rfl) ff_Reader_180 ly_255 rfl (fg_lt ly_255 (by decide)) (show (fg_u2 ν 255 14 (nI sz)) 255 14 = nI sz from fg_u2eq) ?_
    refine fg_iconst (fg_ft (pc := 65) tb_Reader_openRow 35 rfl) ic_m1 ?_
    refine fg_icmp_neM (tgt := 74) (fg_ft (pc := 66) tb_Reader_openRow 36 rfl) (by decide) (Nat.lt_trans (show _ < 2 ^ 31 from by omega) (by decide)) (fun c66 => ?_) (fun c66 => (absurd c66 (by omega)))
    refine fg_aloadn (fg_ft (pc := 74) tb_Reader_openRow 40 rfl) rfl ?_
    refine fg_callV (fg_ft (pc := 75) tb_Reader_openRow 41 rfl) cf_Reader_117 (Or.inr (pz_isW (w := 11) (by decide))) (as := []) (st := []) rfl rfl (Nat.le_of_ble_eq_true rfl) (Nat.le_refl _) (Nat.le_refl _) (ev_Word_sort_11 ?_)
    refine fg_iconst (fg_ft (pc := 78) tb_Reader_openRow 42 rfl) ic_1 ?_
    refine fg_icmp_neN (tgt := 95) (fg_ft (pc := 79) tb_Reader_openRow 43 rfl) (by decide) (by decide) (by decide) (fun c79 => (absurd rfl c79)) (fun c79 => ?_)
    refine fg_aloadn (fg_ft (pc := 82) tb_Reader_openRow 44 rfl) rfl ?_
    refine fg_aloadn (fg_ft (pc := 83) tb_Reader_openRow 45 rfl) rfl ?_
    refine fg_getV (v := (nI sz)) (fg_ft (pc := 84) tb_Reader_openRow 46 rfl) ff_Reader_180 ly_255 rfl (fg_lt ly_255 (by decide)) (show (fg_u2 ν 255 14 (nI sz)) 255 14 = nI sz from fg_u2eq) ?_
    refine fg_iconst (fg_ft (pc := 87) tb_Reader_openRow 47 rfl) ic_0 ?_
    refine fg_aloadn (fg_ft (pc := 88) tb_Reader_openRow 48 rfl) rfl ?_
    refine fg_getK (fg_ft (pc := 89) tb_Reader_openRow 49 rfl) fk_Reader_196_11 ?_
    refine fg_callV (fg_ft (pc := 92) tb_Reader_openRow 50 rfl) cf_Reader_199 (fg_isOf ly_270 rfl (fg_lt ly_270 (by decide))) (as := [.int (nI sz), .int (nI 0), .int (nI 1)]) (st := []) rfl rfl (Nat.le_of_ble_eq_true rfl) (Nat.le_refl _) (Nat.le_refl _) (ev_Rows_put (r := 270) (c := 271) (n := 120) (w := 4) (sz := sz + 1) (i := sz) (j := 0) ⟨ly_270, rh_270_1 R, ly_271⟩ (((fg_u2ne (f := ν) (a := 255) (k := 14) (b := 270) (j := 0) (x := (nI sz)) (by decide)).trans ((hfr 270 0 (by decide) (Or.inr (by decide))).trans (((fg_u2ne (f := (fg_u2 (fg_u2 μ 255 14 (-1)) 255 12 (nI 0))) (a := 255) (k := 13) (b := 270) (j := 0) (x := (-1)) (by decide)).trans ((fg_u2ne (f := (fg_u2 μ 255 14 (-1))) (a := 255) (k := 12) (b := 270) (j := 0) (x := (nI 0)) (by decide)).trans ((fg_u2ne (f := μ) (a := 255) (k := 14) (b := 270) (j := 0) (x := (-1)) (by decide)).trans hw0))))))) (((fg_u2ne (f := ν) (a := 255) (k := 14) (b := 270) (j := 2) (x := (nI sz)) (by decide)).trans hN2)) (by omega) (by decide) (by omega) (by omega) (by decide) ?_)
    show fg_wp _ _ _ _ _ _ _ _ _ (fg_u2 (fg_u2 ν 255 14 (nI sz)) 271 (sz * 4 + 0) (nI 1), fg_rho R, 304)
    exact fg_vret (fg_ft (pc := 95) tb_Reader_openRow 51 rfl) rfl rfl (hR hroom _ (fun a j g1 g2 g3 => (fg_u2ne g1).trans ((fg_u2nx (by omega)).trans ((hfr a j g1 g2).trans ((fg_u2nx (by omega)).trans ((fg_u2nx (by omega)).trans (fg_u2nx (by omega))))))) ((fg_u2ne (by decide)).trans ((fg_u2ne (by decide)).trans hN2)) (fun i hi => by
        rcases Nat.decEq i 0 with q | q
        · refine (fg_u2ns (show ¬ sz * 4 + i = sz * 4 + 0 by omega)).trans ((fg_u2ne (by decide)).trans ((hnew i hi).trans ?_))
          rw [if_neg (by decide), if_neg q]; rfl
        · rw [q]; exact fg_u2eq) (fun i hi => (fg_u2ns (show ¬ i = sz * 4 + 0 from by have hi4 : i < sz * 4 := hi; omega)).trans ((fg_u2ne (by decide)).trans ((hold i hi).trans ((fg_u2ne (by decide)).trans ((fg_u2ne (by decide)).trans (fg_u2ne (by decide))))))) ((fg_u2nx (by omega)).trans fg_u2eq) ((fg_u2nx (by omega)).trans ((fg_u2nx (by omega)).trans ((hfr 255 12 (by decide) (Or.inl (by decide))).trans ((fg_u2ns (by decide)).trans fg_u2eq)))) ((fg_u2nx (by omega)).trans ((fg_u2nx (by omega)).trans ((hfr 255 13 (by decide) (Or.inl (by decide))).trans fg_u2eq))))
  · refine fg_aloadn (fg_ft (pc := 0) tb_Reader_openRow 0 rfl) rfl ?_
    refine fg_aloadn (fg_ft (pc := 1) tb_Reader_openRow 1 rfl) rfl ?_
    refine fg_callV (fg_ft (pc := 2) tb_Reader_openRow 2 rfl) cf_Reader_176 (fg_isOf ly_255 rfl (fg_lt ly_255 (by decide))) (as := [.ref 11]) (st := []) rfl rfl (Nat.le_of_ble_eq_true rfl) (Nat.le_refl _) (Nat.le_refl _) (ev_Reader_rowsOf_11 ?_)
    refine fg_astoren (fg_ft (pc := 5) tb_Reader_openRow 3 rfl) (Nat.le_of_ble_eq_true rfl) ?_
    refine fg_aloadn (fg_ft (pc := 6) tb_Reader_openRow 4 rfl) rfl ?_
    refine fg_iconst (fg_ft (pc := 7) tb_Reader_openRow 5 rfl) ic_m1 ?_
    refine fg_putI (fg_ft (pc := 8) tb_Reader_openRow 6 rfl) ff_Reader_180 ly_255 rfl (fg_lt ly_255 (by decide)) (fg_nokI _) (fun _ _ h => by cases h; rfl) ?_
    show fg_wp _ _ _ _ _ _ _ _ _ (fg_u2 μ 255 14 (-1), fg_rho R, 304)
    refine fg_aloadn (fg_ft (pc := 11) tb_Reader_openRow 7 rfl) rfl ?_
    refine fg_iconst (fg_ft (pc := 12) tb_Reader_openRow 8 rfl) ic_0 ?_
    refine fg_putI (fg_ft (pc := 13) tb_Reader_openRow 9 rfl) ff_Reader_183 ly_255 rfl (fg_lt ly_255 (by decide)) (fg_nokI _) (fun _ _ h => by cases h; rfl) ?_
    show fg_wp _ _ _ _ _ _ _ _ _ (fg_u2 (fg_u2 μ 255 14 (-1)) 255 12 (nI 0), fg_rho R, 304)
    refine fg_aloadn (fg_ft (pc := 16) tb_Reader_openRow 10 rfl) rfl ?_
    refine fg_iconst (fg_ft (pc := 17) tb_Reader_openRow 11 rfl) ic_m1 ?_
    refine fg_putI (fg_ft (pc := 18) tb_Reader_openRow 12 rfl) ff_Reader_186 ly_255 rfl (fg_lt ly_255 (by decide)) (fg_nokI _) (fun _ _ h => by cases h; rfl) ?_
    show fg_wp _ _ _ _ _ _ _ _ _ (fg_u2 (fg_u2 (fg_u2 μ 255 14 (-1)) 255 12 (nI 0)) 255 13 (-1), fg_rho R, 304)
    refine fg_aloadn (fg_ft (pc := 21) tb_Reader_openRow 13 rfl) rfl ?_
    refine fg_ifnull_r (fg_ft (pc := 22) tb_Reader_openRow 14 rfl) ?_
    refine fg_aloadn (fg_ft (pc := 25) tb_Reader_openRow 15 rfl) rfl ?_
    refine fg_gets (fg_ft (pc := 26) tb_Reader_openRow 16 rfl) fs_Reader_143 ?_
    refine fg_acmp_eq (tgt := 39) (fg_ft (pc := 29) tb_Reader_openRow 17 rfl) (by decide) (by decide) (by decide) (fun h => absurd h (by decide)) (fun _ => ?_)
    refine fg_aloadn (fg_ft (pc := 32) tb_Reader_openRow 18 rfl) rfl ?_
    refine fg_gets (fg_ft (pc := 33) tb_Reader_openRow 19 rfl) fs_Reader_146 ?_
    refine fg_acmp_ne (tgt := 40) (fg_ft (pc := 36) tb_Reader_openRow 20 rfl) (by decide) (by decide) (by decide) (fun _ => ?_) (fun h => absurd h (by decide))
    refine fg_aloadn (fg_ft (pc := 40) tb_Reader_openRow 22 rfl) rfl ?_
    refine fg_aloadn (fg_ft (pc := 41) tb_Reader_openRow 23 rfl) rfl ?_
    refine fg_aloadn (fg_ft (pc := 42) tb_Reader_openRow 24 rfl) rfl ?_
    refine fg_callV (fg_ft (pc := 43) tb_Reader_openRow 25 rfl) cf_Reader_117 (Or.inr (pz_isW (w := 11) (by decide))) (as := []) (st := [.ref 270, .ref 255]) rfl rfl (Nat.le_of_ble_eq_true rfl) (Nat.le_refl _) (Nat.le_refl _) (ev_Word_sort_11 ?_)
    refine fg_iconst (fg_ft (pc := 46) tb_Reader_openRow 26 rfl) ic_1 ?_
    refine fg_icmp_neN (tgt := 54) (fg_ft (pc := 47) tb_Reader_openRow 27 rfl) (by decide) (by decide) (by decide) (fun c47 => (absurd rfl c47)) (fun c47 => ?_)
    refine fg_iconst (fg_ft (pc := 50) tb_Reader_openRow 28 rfl) ic_m1 ?_
    refine fg_goto (tgt := 55) (fg_ft (pc := 51) tb_Reader_openRow 29 rfl) (by decide) ?_
    refine fg_callV (fg_ft (pc := 55) tb_Reader_openRow 31 rfl) cf_Reader_189 (fg_isOf ly_270 rfl (fg_lt ly_270 (by decide))) (as := [.int (-1)]) (st := [.ref 255]) rfl rfl (Nat.le_of_ble_eq_true rfl) (Nat.le_refl _) (Nat.le_refl _) (ev_Rows_addFull (r := 270) (c := 271) (n := 120) (w := 4) (sz := sz) ⟨ly_270, rh_270_1 R, ly_271⟩ (by decide) (((fg_u2ne (f := (fg_u2 (fg_u2 μ 255 14 (-1)) 255 12 (nI 0))) (a := 255) (k := 13) (b := 270) (j := 0) (x := (-1)) (by decide)).trans ((fg_u2ne (f := (fg_u2 μ 255 14 (-1))) (a := 255) (k := 12) (b := 270) (j := 0) (x := (nI 0)) (by decide)).trans ((fg_u2ne (f := μ) (a := 255) (k := 14) (b := 270) (j := 0) (x := (-1)) (by decide)).trans hw0)))) (((fg_u2ne (f := (fg_u2 (fg_u2 μ 255 14 (-1)) 255 12 (nI 0))) (a := 255) (k := 13) (b := 270) (j := 2) (x := (-1)) (by decide)).trans ((fg_u2ne (f := (fg_u2 μ 255 14 (-1))) (a := 255) (k := 12) (b := 270) (j := 2) (x := (nI 0)) (by decide)).trans ((fg_u2ne (f := μ) (a := 255) (k := 14) (b := 270) (j := 2) (x := (-1)) (by decide)).trans hs2)))) (by omega) (by decide) (by omega) (by omega) (by omega) ?_)
    refine fg_putI (fg_ft (pc := 58) tb_Reader_openRow 32 rfl) ff_Reader_180 ly_255 rfl (fg_lt ly_255 (by decide)) (fg_nokI _) (fun _ _ h => by cases h; rfl) ?_
    show fg_wp _ _ _ _ _ _ _ _ _ (fg_u2 (fg_u2 (fg_u2 (fg_u2 μ 255 14 (-1)) 255 12 (nI 0)) 255 13 (-1)) 255 14 (-1), fg_rho R, 304)
    refine fg_aloadn (fg_ft (pc := 61) tb_Reader_openRow 33 rfl) rfl ?_
    refine fg_getV (v := (-1)) (fg_ft (pc := 62) tb_Reader_openRow 34 rfl) ff_Reader_180 ly_255 rfl (fg_lt ly_255 (by decide)) (show (fg_u2 (fg_u2 (fg_u2 (fg_u2 μ 255 14 (-1)) 255 12 (nI 0)) 255 13 (-1)) 255 14 (-1)) 255 14 = -1 from fg_u2eq) ?_
    refine fg_iconst (fg_ft (pc := 65) tb_Reader_openRow 35 rfl) ic_m1 ?_
    refine fg_icmp_ne (tgt := 74) (fg_ft (pc := 66) tb_Reader_openRow 36 rfl) (by decide) (fun c66 => (absurd rfl c66)) (fun c66 => ?_)
    by_cases cF : F = 0
    · refine fg_aloadn (fg_ft (pc := 69) tb_Reader_openRow 37 rfl) rfl ?_
      refine fg_iconst (fg_ft (pc := 70) tb_Reader_openRow 38 rfl) ic_3 ?_
      refine fg_callV (fg_ft (pc := 71) tb_Reader_openRow 39 rfl) cf_Reader_192 (fg_isOf ly_255 rfl (fg_lt ly_255 (by decide))) (as := [.int (nI 3)]) (st := []) rfl rfl (Nat.le_of_ble_eq_true rfl) (Nat.le_refl _) (Nat.le_refl _) (ev_Reader_noteFault0 (s := s) (((fg_u2ns (f := (fg_u2 (fg_u2 (fg_u2 μ 255 14 (-1)) 255 12 (nI 0)) 255 13 (-1))) (a := 255) (k := 14) (b := 255) (j := 2) (x := (-1)) (by decide)).trans ((fg_u2ns (f := (fg_u2 (fg_u2 μ 255 14 (-1)) 255 12 (nI 0))) (a := 255) (k := 13) (b := 255) (j := 2) (x := (-1)) (by decide)).trans ((fg_u2ns (f := (fg_u2 μ 255 14 (-1))) (a := 255) (k := 12) (b := 255) (j := 2) (x := (nI 0)) (by decide)).trans ((fg_u2ns (f := μ) (a := 255) (k := 14) (b := 255) (j := 2) (x := (-1)) (by decide)).trans (hF.trans (congrArg nI cF))))))) (((fg_u2ns (f := (fg_u2 (fg_u2 (fg_u2 μ 255 14 (-1)) 255 12 (nI 0)) 255 13 (-1))) (a := 255) (k := 14) (b := 255) (j := 9) (x := (-1)) (by decide)).trans ((fg_u2ns (f := (fg_u2 (fg_u2 μ 255 14 (-1)) 255 12 (nI 0))) (a := 255) (k := 13) (b := 255) (j := 9) (x := (-1)) (by decide)).trans ((fg_u2ns (f := (fg_u2 μ 255 14 (-1))) (a := 255) (k := 12) (b := 255) (j := 9) (x := (nI 0)) (by decide)).trans ((fg_u2ns (f := μ) (a := 255) (k := 14) (b := 255) (j := 9) (x := (-1)) (by decide)).trans h9))))) ?_)
      show fg_wp _ _ _ _ _ _ _ _ _ (fg_u2 (fg_u2 (fg_u2 (fg_u2 (fg_u2 (fg_u2 μ 255 14 (-1)) 255 12 (nI 0)) 255 13 (-1)) 255 14 (-1)) 255 2 (nI 3)) 255 3 (nI s), fg_rho R, 304)
      refine fg_aloadn (fg_ft (pc := 74) tb_Reader_openRow 40 rfl) rfl ?_
      refine fg_callV (fg_ft (pc := 75) tb_Reader_openRow 41 rfl) cf_Reader_117 (Or.inr (pz_isW (w := 11) (by decide))) (as := []) (st := []) rfl rfl (Nat.le_of_ble_eq_true rfl) (Nat.le_refl _) (Nat.le_refl _) (ev_Word_sort_11 ?_)
      refine fg_iconst (fg_ft (pc := 78) tb_Reader_openRow 42 rfl) ic_1 ?_
      refine fg_icmp_neN (tgt := 95) (fg_ft (pc := 79) tb_Reader_openRow 43 rfl) (by decide) (by decide) (by decide) (fun c79 => (absurd rfl c79)) (fun c79 => ?_)
      refine fg_aloadn (fg_ft (pc := 82) tb_Reader_openRow 44 rfl) rfl ?_
      refine fg_aloadn (fg_ft (pc := 83) tb_Reader_openRow 45 rfl) rfl ?_
      refine fg_getV (v := (-1)) (fg_ft (pc := 84) tb_Reader_openRow 46 rfl) ff_Reader_180 ly_255 rfl (fg_lt ly_255 (by decide)) (show (fg_u2 (fg_u2 (fg_u2 (fg_u2 (fg_u2 (fg_u2 μ 255 14 (-1)) 255 12 (nI 0)) 255 13 (-1)) 255 14 (-1)) 255 2 (nI 3)) 255 3 (nI s)) 255 14 = -1 from ((fg_u2nx (by decide)).trans ((fg_u2nx (by decide)).trans fg_u2eq))) ?_
      refine fg_iconst (fg_ft (pc := 87) tb_Reader_openRow 47 rfl) ic_0 ?_
      refine fg_aloadn (fg_ft (pc := 88) tb_Reader_openRow 48 rfl) rfl ?_
      refine fg_getK (fg_ft (pc := 89) tb_Reader_openRow 49 rfl) fk_Reader_196_11 ?_
      refine fg_callV (fg_ft (pc := 92) tb_Reader_openRow 50 rfl) cf_Reader_199 (fg_isOf ly_270 rfl (fg_lt ly_270 (by decide))) (as := [.int (-1), .int (nI 0), .int (nI 1)]) (st := []) rfl rfl (Nat.le_of_ble_eq_true rfl) (Nat.le_refl _) (Nat.le_refl _) (ev_Rows_putOut (r := 270) (c := 271) (n := 120) (w := 4) (sz := sz) ⟨ly_270, rh_270_1 R, ly_271⟩ (((fg_u2ne (f := (fg_u2 (fg_u2 (fg_u2 (fg_u2 (fg_u2 μ 255 14 (-1)) 255 12 (nI 0)) 255 13 (-1)) 255 14 (-1)) 255 2 (nI 3))) (a := 255) (k := 3) (b := 270) (j := 0) (x := (nI s)) (by decide)).trans ((fg_u2ne (f := (fg_u2 (fg_u2 (fg_u2 (fg_u2 μ 255 14 (-1)) 255 12 (nI 0)) 255 13 (-1)) 255 14 (-1))) (a := 255) (k := 2) (b := 270) (j := 0) (x := (nI 3)) (by decide)).trans ((fg_u2ne (f := (fg_u2 (fg_u2 (fg_u2 μ 255 14 (-1)) 255 12 (nI 0)) 255 13 (-1))) (a := 255) (k := 14) (b := 270) (j := 0) (x := (-1)) (by decide)).trans ((fg_u2ne (f := (fg_u2 (fg_u2 μ 255 14 (-1)) 255 12 (nI 0))) (a := 255) (k := 13) (b := 270) (j := 0) (x := (-1)) (by decide)).trans ((fg_u2ne (f := (fg_u2 μ 255 14 (-1))) (a := 255) (k := 12) (b := 270) (j := 0) (x := (nI 0)) (by decide)).trans ((fg_u2ne (f := μ) (a := 255) (k := 14) (b := 270) (j := 0) (x := (-1)) (by decide)).trans hw0))))))) (((fg_u2ne (f := (fg_u2 (fg_u2 (fg_u2 (fg_u2 (fg_u2 μ 255 14 (-1)) 255 12 (nI 0)) 255 13 (-1)) 255 14 (-1)) 255 2 (nI 3))) (a := 255) (k := 3) (b := 270) (j := 2) (x := (nI s)) (by decide)).trans ((fg_u2ne (f := (fg_u2 (fg_u2 (fg_u2 (fg_u2 μ 255 14 (-1)) 255 12 (nI 0)) 255 13 (-1)) 255 14 (-1))) (a := 255) (k := 2) (b := 270) (j := 2) (x := (nI 3)) (by decide)).trans ((fg_u2ne (f := (fg_u2 (fg_u2 (fg_u2 μ 255 14 (-1)) 255 12 (nI 0)) 255 13 (-1))) (a := 255) (k := 14) (b := 270) (j := 2) (x := (-1)) (by decide)).trans ((fg_u2ne (f := (fg_u2 (fg_u2 μ 255 14 (-1)) 255 12 (nI 0))) (a := 255) (k := 13) (b := 270) (j := 2) (x := (-1)) (by decide)).trans ((fg_u2ne (f := (fg_u2 μ 255 14 (-1))) (a := 255) (k := 12) (b := 270) (j := 2) (x := (nI 0)) (by decide)).trans ((fg_u2ne (f := μ) (a := 255) (k := 14) (b := 270) (j := 2) (x := (-1)) (by decide)).trans hs2))))))) (by omega) (by decide) (by omega) (fun h => h.1 (by decide)) ?_)
      exact fg_vret (fg_ft (pc := 95) tb_Reader_openRow 51 rfl) rfl rfl (hN hroom _ (fun a j h => ((fg_u2nx (by omega)).trans ((fg_u2nx (by omega)).trans ((fg_u2nx (by omega)).trans ((fg_u2nx (by omega)).trans ((fg_u2nx (by omega)).trans ((fg_u2nx (by omega)).trans rfl))))))) (fun _ => ⟨(fg_u2ns (by decide)).trans fg_u2eq, fg_u2eq⟩) (fun h => absurd cF h))
    · refine fg_aloadn (fg_ft (pc := 69) tb_Reader_openRow 37 rfl) rfl ?_
      refine fg_iconst (fg_ft (pc := 70) tb_Reader_openRow 38 rfl) ic_3 ?_
      refine fg_callV (fg_ft (pc := 71) tb_Reader_openRow 39 rfl) cf_Reader_192 (fg_isOf ly_255 rfl (fg_lt ly_255 (by decide))) (as := [.int (nI 3)]) (st := []) rfl rfl (Nat.le_of_ble_eq_true rfl) (Nat.le_refl _) (Nat.le_refl _) (ev_Reader_noteFault1 (F := F) (((fg_u2ns (f := (fg_u2 (fg_u2 (fg_u2 μ 255 14 (-1)) 255 12 (nI 0)) 255 13 (-1))) (a := 255) (k := 14) (b := 255) (j := 2) (x := (-1)) (by decide)).trans ((fg_u2ns (f := (fg_u2 (fg_u2 μ 255 14 (-1)) 255 12 (nI 0))) (a := 255) (k := 13) (b := 255) (j := 2) (x := (-1)) (by decide)).trans ((fg_u2ns (f := (fg_u2 μ 255 14 (-1))) (a := 255) (k := 12) (b := 255) (j := 2) (x := (nI 0)) (by decide)).trans ((fg_u2ns (f := μ) (a := 255) (k := 14) (b := 255) (j := 2) (x := (-1)) (by decide)).trans hF))))) hF5 cF ?_)
      refine fg_aloadn (fg_ft (pc := 74) tb_Reader_openRow 40 rfl) rfl ?_
      refine fg_callV (fg_ft (pc := 75) tb_Reader_openRow 41 rfl) cf_Reader_117 (Or.inr (pz_isW (w := 11) (by decide))) (as := []) (st := []) rfl rfl (Nat.le_of_ble_eq_true rfl) (Nat.le_refl _) (Nat.le_refl _) (ev_Word_sort_11 ?_)
      refine fg_iconst (fg_ft (pc := 78) tb_Reader_openRow 42 rfl) ic_1 ?_
      refine fg_icmp_neN (tgt := 95) (fg_ft (pc := 79) tb_Reader_openRow 43 rfl) (by decide) (by decide) (by decide) (fun c79 => (absurd rfl c79)) (fun c79 => ?_)
      refine fg_aloadn (fg_ft (pc := 82) tb_Reader_openRow 44 rfl) rfl ?_
      refine fg_aloadn (fg_ft (pc := 83) tb_Reader_openRow 45 rfl) rfl ?_
      refine fg_getV (v := (-1)) (fg_ft (pc := 84) tb_Reader_openRow 46 rfl) ff_Reader_180 ly_255 rfl (fg_lt ly_255 (by decide)) (show (fg_u2 (fg_u2 (fg_u2 (fg_u2 μ 255 14 (-1)) 255 12 (nI 0)) 255 13 (-1)) 255 14 (-1)) 255 14 = -1 from fg_u2eq) ?_
      refine fg_iconst (fg_ft (pc := 87) tb_Reader_openRow 47 rfl) ic_0 ?_
      refine fg_aloadn (fg_ft (pc := 88) tb_Reader_openRow 48 rfl) rfl ?_
      refine fg_getK (fg_ft (pc := 89) tb_Reader_openRow 49 rfl) fk_Reader_196_11 ?_
      refine fg_callV (fg_ft (pc := 92) tb_Reader_openRow 50 rfl) cf_Reader_199 (fg_isOf ly_270 rfl (fg_lt ly_270 (by decide))) (as := [.int (-1), .int (nI 0), .int (nI 1)]) (st := []) rfl rfl (Nat.le_of_ble_eq_true rfl) (Nat.le_refl _) (Nat.le_refl _) (ev_Rows_putOut (r := 270) (c := 271) (n := 120) (w := 4) (sz := sz) ⟨ly_270, rh_270_1 R, ly_271⟩ (((fg_u2ne (f := (fg_u2 (fg_u2 (fg_u2 μ 255 14 (-1)) 255 12 (nI 0)) 255 13 (-1))) (a := 255) (k := 14) (b := 270) (j := 0) (x := (-1)) (by decide)).trans ((fg_u2ne (f := (fg_u2 (fg_u2 μ 255 14 (-1)) 255 12 (nI 0))) (a := 255) (k := 13) (b := 270) (j := 0) (x := (-1)) (by decide)).trans ((fg_u2ne (f := (fg_u2 μ 255 14 (-1))) (a := 255) (k := 12) (b := 270) (j := 0) (x := (nI 0)) (by decide)).trans ((fg_u2ne (f := μ) (a := 255) (k := 14) (b := 270) (j := 0) (x := (-1)) (by decide)).trans hw0))))) (((fg_u2ne (f := (fg_u2 (fg_u2 (fg_u2 μ 255 14 (-1)) 255 12 (nI 0)) 255 13 (-1))) (a := 255) (k := 14) (b := 270) (j := 2) (x := (-1)) (by decide)).trans ((fg_u2ne (f := (fg_u2 (fg_u2 μ 255 14 (-1)) 255 12 (nI 0))) (a := 255) (k := 13) (b := 270) (j := 2) (x := (-1)) (by decide)).trans ((fg_u2ne (f := (fg_u2 μ 255 14 (-1))) (a := 255) (k := 12) (b := 270) (j := 2) (x := (nI 0)) (by decide)).trans ((fg_u2ne (f := μ) (a := 255) (k := 14) (b := 270) (j := 2) (x := (-1)) (by decide)).trans hs2))))) (by omega) (by decide) (by omega) (fun h => h.1 (by decide)) ?_)
      exact fg_vret (fg_ft (pc := 95) tb_Reader_openRow 51 rfl) rfl rfl (hN hroom _ (fun a j h => ((fg_u2nx (by omega)).trans ((fg_u2nx (by omega)).trans ((fg_u2nx (by omega)).trans ((fg_u2nx (by omega)).trans rfl))))) (fun h => absurd h cF) (fun _ => ⟨((fg_u2nx (by decide)).trans ((fg_u2nx (by decide)).trans ((fg_u2nx (by decide)).trans ((fg_u2nx (by decide)).trans rfl)))), ((fg_u2nx (by decide)).trans ((fg_u2nx (by decide)).trans ((fg_u2nx (by decide)).trans ((fg_u2nx (by decide)).trans rfl))))⟩))
theorem fk_Reader_196_12 : fg_KF "ForgetBread$Reader" 196 12 (.int (nI 2)) := ⟨_, List.mem_of_getElem? (l := fg_ofld) (i := 72) rfl, rfl, rfl, fg_tblIn 1728 (by decide +kernel) (by decide +kernel)⟩
theorem ev_Reader_openRow_12 {E : fg_E} {d : Nat} {μ : Nat → Nat → Int32} {R : fg_T4} {Q : Option Value → fg_M → Prop} {sz F s : Nat} (h9 : μ 255 9 = nI s) (hF : μ 255 2 = nI F) (hF5 : F < 5) (hw0 : μ 270 0 = nI 4) (hs2 : μ 270 2 = nI sz) (hsz : sz ≤ 30) (hR : sz < pz_mx (pz_rt 12) → ∀ μ' : Nat → Nat → Int32, (∀ a j, a ≠ pz_rc (pz_rt 12) → (a ≠ pz_ro (pz_rt 12) ∨ j ≠ 2) → (a ≠ 255 ∨ (j ≠ 12 ∧ j ≠ 13 ∧ j ≠ 14)) → μ' a j = μ a j) → μ' (pz_ro (pz_rt 12)) 2 = nI (sz + 1) → (∀ i, i < pz_wi (pz_rt 12) → μ' (pz_rc (pz_rt 12)) (sz * pz_wi (pz_rt 12) + i) = nI (if 12 < 10 then 0 else if i = 0 then 12 - 10 else 4294967295)) → (∀ i, i < sz * pz_wi (pz_rt 12) → μ' (pz_rc (pz_rt 12)) i = μ (pz_rc (pz_rt 12)) i) → μ' 255 14 = nI sz → μ' 255 12 = nI 0 → μ' 255 13 = -1 → Q none (μ', fg_rho R, 304)) (hN : ¬ sz < pz_mx (pz_rt 12) → ∀ μ' : Nat → Nat → Int32, (∀ a j, (a ≠ 255 ∨ (j ≠ 2 ∧ j ≠ 3 ∧ j ≠ 12 ∧ j ≠ 13 ∧ j ≠ 14)) → μ' a j = μ a j) → (F = 0 → μ' 255 2 = nI 3 ∧ μ' 255 3 = nI s) → (¬ F = 0 → μ' 255 2 = μ 255 2 ∧ μ' 255 3 = μ 255 3) → Q none (μ', fg_rho R, 304)) : fg_Ev E yy_Reader_openRow (d + 5) [.ref 255, .ref 12] (μ, fg_rho R, 304) 304 Q := by
  refine fg_intro (by decide +kernel) (Nat.le_of_ble_eq_true rfl) (fg_okAs rfl) (Nat.le_refl _) ?_
  by_cases hroom : sz < 30
  · refine fg_aloadn (fg_ft (pc := 0) tb_Reader_openRow 0 rfl) rfl ?_
    refine fg_aloadn (fg_ft (pc := 1) tb_Reader_openRow 1 rfl) rfl ?_
    refine fg_callV (fg_ft (pc := 2) tb_Reader_openRow 2 rfl) cf_Reader_176 (fg_isOf ly_255 rfl (fg_lt ly_255 (by decide))) (as := [.ref 12]) (st := []) rfl rfl (Nat.le_of_ble_eq_true rfl) (Nat.le_refl _) (Nat.le_refl _) (ev_Reader_rowsOf_12 ?_)
    refine fg_astoren (fg_ft (pc := 5) tb_Reader_openRow 3 rfl) (Nat.le_of_ble_eq_true rfl) ?_
    refine fg_aloadn (fg_ft (pc := 6) tb_Reader_openRow 4 rfl) rfl ?_
    refine fg_iconst (fg_ft (pc := 7) tb_Reader_openRow 5 rfl) ic_m1 ?_
    refine fg_putI (fg_ft (pc := 8) tb_Reader_openRow 6 rfl) ff_Reader_180 ly_255 rfl (fg_lt ly_255 (by decide)) (fg_nokI _) (fun _ _ h => by cases h; rfl) ?_
    show fg_wp _ _ _ _ _ _ _ _ _ (fg_u2 μ 255 14 (-1), fg_rho R, 304)
    refine fg_aloadn (fg_ft (pc := 11) tb_Reader_openRow 7 rfl) rfl ?_
    refine fg_iconst (fg_ft (pc := 12) tb_Reader_openRow 8 rfl) ic_0 ?_
    refine fg_putI (fg_ft (pc := 13) tb_Reader_openRow 9 rfl) ff_Reader_183 ly_255 rfl (fg_lt ly_255 (by decide)) (fg_nokI _) (fun _ _ h => by cases h; rfl) ?_
    show fg_wp _ _ _ _ _ _ _ _ _ (fg_u2 (fg_u2 μ 255 14 (-1)) 255 12 (nI 0), fg_rho R, 304)
    refine fg_aloadn (fg_ft (pc := 16) tb_Reader_openRow 10 rfl) rfl ?_
    refine fg_iconst (fg_ft (pc := 17) tb_Reader_openRow 11 rfl) ic_m1 ?_
    refine fg_putI (fg_ft (pc := 18) tb_Reader_openRow 12 rfl) ff_Reader_186 ly_255 rfl (fg_lt ly_255 (by decide)) (fg_nokI _) (fun _ _ h => by cases h; rfl) ?_
    show fg_wp _ _ _ _ _ _ _ _ _ (fg_u2 (fg_u2 (fg_u2 μ 255 14 (-1)) 255 12 (nI 0)) 255 13 (-1), fg_rho R, 304)
    refine fg_aloadn (fg_ft (pc := 21) tb_Reader_openRow 13 rfl) rfl ?_
    refine fg_ifnull_r (fg_ft (pc := 22) tb_Reader_openRow 14 rfl) ?_
    refine fg_aloadn (fg_ft (pc := 25) tb_Reader_openRow 15 rfl) rfl ?_
    refine fg_gets (fg_ft (pc := 26) tb_Reader_openRow 16 rfl) fs_Reader_143 ?_
    refine fg_acmp_eq (tgt := 39) (fg_ft (pc := 29) tb_Reader_openRow 17 rfl) (by decide) (by decide) (by decide) (fun h => absurd h (by decide)) (fun _ => ?_)
    refine fg_aloadn (fg_ft (pc := 32) tb_Reader_openRow 18 rfl) rfl ?_
    refine fg_gets (fg_ft (pc := 33) tb_Reader_openRow 19 rfl) fs_Reader_146 ?_
    refine fg_acmp_ne (tgt := 40) (fg_ft (pc := 36) tb_Reader_openRow 20 rfl) (by decide) (by decide) (by decide) (fun _ => ?_) (fun h => absurd h (by decide))
    refine fg_aloadn (fg_ft (pc := 40) tb_Reader_openRow 22 rfl) rfl ?_
    refine fg_aloadn (fg_ft (pc := 41) tb_Reader_openRow 23 rfl) rfl ?_
    refine fg_aloadn (fg_ft (pc := 42) tb_Reader_openRow 24 rfl) rfl ?_
    refine fg_callV (fg_ft (pc := 43) tb_Reader_openRow 25 rfl) cf_Reader_117 (Or.inr (pz_isW (w := 12) (by decide))) (as := []) (st := [.ref 270, .ref 255]) rfl rfl (Nat.le_of_ble_eq_true rfl) (Nat.le_refl _) (Nat.le_refl _) (ev_Word_sort_12 ?_)
    refine fg_iconst (fg_ft (pc := 46) tb_Reader_openRow 26 rfl) ic_1 ?_
    refine fg_icmp_neN (tgt := 54) (fg_ft (pc := 47) tb_Reader_openRow 27 rfl) (by decide) (by decide) (by decide) (fun c47 => (absurd rfl c47)) (fun c47 => ?_)
    refine fg_iconst (fg_ft (pc := 50) tb_Reader_openRow 28 rfl) ic_m1 ?_
    refine fg_goto (tgt := 55) (fg_ft (pc := 51) tb_Reader_openRow 29 rfl) (by decide) ?_
    refine fg_callV (fg_ft (pc := 55) tb_Reader_openRow 31 rfl) cf_Reader_189 (fg_isOf ly_270 rfl (fg_lt ly_270 (by decide))) (as := [.int (-1)]) (st := [.ref 255]) rfl rfl (Nat.le_of_ble_eq_true rfl) (Nat.le_refl _) (Nat.le_refl _) (ev_Rows_add (r := 270) (c := 271) (n := 120) (w := 4) (sz := sz) (x := (-1)) ⟨ly_270, rh_270_1 R, ly_271⟩ (by decide) (((fg_u2ne (f := (fg_u2 (fg_u2 μ 255 14 (-1)) 255 12 (nI 0))) (a := 255) (k := 13) (b := 270) (j := 0) (x := (-1)) (by decide)).trans ((fg_u2ne (f := (fg_u2 μ 255 14 (-1))) (a := 255) (k := 12) (b := 270) (j := 0) (x := (nI 0)) (by decide)).trans ((fg_u2ne (f := μ) (a := 255) (k := 14) (b := 270) (j := 0) (x := (-1)) (by decide)).trans hw0)))) (((fg_u2ne (f := (fg_u2 (fg_u2 μ 255 14 (-1)) 255 12 (nI 0))) (a := 255) (k := 13) (b := 270) (j := 2) (x := (-1)) (by decide)).trans ((fg_u2ne (f := (fg_u2 μ 255 14 (-1))) (a := 255) (k := 12) (b := 270) (j := 2) (x := (nI 0)) (by decide)).trans ((fg_u2ne (f := μ) (a := 255) (k := 14) (b := 270) (j := 2) (x := (-1)) (by decide)).trans hs2)))) (by omega) (by decide) (by omega) (by omega) (by omega) ?_)
    intro ν hfr hN2 hnew hold
    show fg_wp _ _ _ _ _ _ _ _ _ (ν, fg_rho R, 304)
    refine fg_putI (fg_ft (pc := 58) tb_Reader_openRow 32 rfl) ff_Reader_180 ly_255 rfl (fg_lt ly_255 (by decide)) (fg_nokI _) (fun _ _ h => by cases h; rfl) ?_
    show fg_wp _ _ _ _ _ _ _ _ _ (fg_u2 ν 255 14 (nI sz), fg_rho R, 304)
    refine fg_aloadn (fg_ft (pc := 61) tb_Reader_openRow 33 rfl) rfl ?_
    refine fg_getV (v := (nI sz)) (fg_ft (pc := 62) tb_Reader_openRow 34 rfl) ff_Reader_180 ly_255 rfl (fg_lt ly_255 (by decide)) (show (fg_u2 ν 255 14 (nI sz)) 255 14 = nI sz from fg_u2eq) ?_
    refine fg_iconst (fg_ft (pc := 65) tb_Reader_openRow 35 rfl) ic_m1 ?_
    refine fg_icmp_neM (tgt := 74) (fg_ft (pc := 66) tb_Reader_openRow 36 rfl) (by decide) (Nat.lt_trans (show _ < 2 ^ 31 from by omega) (by decide)) (fun c66 => ?_) (fun c66 => (absurd c66 (by omega)))
    refine fg_aloadn (fg_ft (pc := 74) tb_Reader_openRow 40 rfl) rfl ?_
    refine fg_callV (fg_ft (pc := 75) tb_Reader_openRow 41 rfl) cf_Reader_117 (Or.inr (pz_isW (w := 12) (by decide))) (as := []) (st := []) rfl rfl (Nat.le_of_ble_eq_true rfl) (Nat.le_refl _) (Nat.le_refl _) (ev_Word_sort_12 ?_)
    refine fg_iconst (fg_ft (pc := 78) tb_Reader_openRow 42 rfl) ic_1 ?_
    refine fg_icmp_neN (tgt := 95) (fg_ft (pc := 79) tb_Reader_openRow 43 rfl) (by decide) (by decide) (by decide) (fun c79 => (absurd rfl c79)) (fun c79 => ?_)
    refine fg_aloadn (fg_ft (pc := 82) tb_Reader_openRow 44 rfl) rfl ?_
    refine fg_aloadn (fg_ft (pc := 83) tb_Reader_openRow 45 rfl) rfl ?_
    refine fg_getV (v := (nI sz)) (fg_ft (pc := 84) tb_Reader_openRow 46 rfl) ff_Reader_180 ly_255 rfl (fg_lt ly_255 (by decide)) (show (fg_u2 ν 255 14 (nI sz)) 255 14 = nI sz from fg_u2eq) ?_
    refine fg_iconst (fg_ft (pc := 87) tb_Reader_openRow 47 rfl) ic_0 ?_
    refine fg_aloadn (fg_ft (pc := 88) tb_Reader_openRow 48 rfl) rfl ?_
    refine fg_getK (fg_ft (pc := 89) tb_Reader_openRow 49 rfl) fk_Reader_196_12 ?_
    refine fg_callV (fg_ft (pc := 92) tb_Reader_openRow 50 rfl) cf_Reader_199 (fg_isOf ly_270 rfl (fg_lt ly_270 (by decide))) (as := [.int (nI sz), .int (nI 0), .int (nI 2)]) (st := []) rfl rfl (Nat.le_of_ble_eq_true rfl) (Nat.le_refl _) (Nat.le_refl _) (ev_Rows_put (r := 270) (c := 271) (n := 120) (w := 4) (sz := sz + 1) (i := sz) (j := 0) ⟨ly_270, rh_270_1 R, ly_271⟩ (((fg_u2ne (f := ν) (a := 255) (k := 14) (b := 270) (j := 0) (x := (nI sz)) (by decide)).trans ((hfr 270 0 (by decide) (Or.inr (by decide))).trans (((fg_u2ne (f := (fg_u2 (fg_u2 μ 255 14 (-1)) 255 12 (nI 0))) (a := 255) (k := 13) (b := 270) (j := 0) (x := (-1)) (by decide)).trans ((fg_u2ne (f := (fg_u2 μ 255 14 (-1))) (a := 255) (k := 12) (b := 270) (j := 0) (x := (nI 0)) (by decide)).trans ((fg_u2ne (f := μ) (a := 255) (k := 14) (b := 270) (j := 0) (x := (-1)) (by decide)).trans hw0))))))) (((fg_u2ne (f := ν) (a := 255) (k := 14) (b := 270) (j := 2) (x := (nI sz)) (by decide)).trans hN2)) (by omega) (by decide) (by omega) (by omega) (by decide) ?_)
    show fg_wp _ _ _ _ _ _ _ _ _ (fg_u2 (fg_u2 ν 255 14 (nI sz)) 271 (sz * 4 + 0) (nI 2), fg_rho R, 304)
    exact fg_vret (fg_ft (pc := 95) tb_Reader_openRow 51 rfl) rfl rfl (hR hroom _ (fun a j g1 g2 g3 => (fg_u2ne g1).trans ((fg_u2nx (by omega)).trans ((hfr a j g1 g2).trans ((fg_u2nx (by omega)).trans ((fg_u2nx (by omega)).trans (fg_u2nx (by omega))))))) ((fg_u2ne (by decide)).trans ((fg_u2ne (by decide)).trans hN2)) (fun i hi => by
        rcases Nat.decEq i 0 with q | q
        · refine (fg_u2ns (show ¬ sz * 4 + i = sz * 4 + 0 by omega)).trans ((fg_u2ne (by decide)).trans ((hnew i hi).trans ?_))
          rw [if_neg (by decide), if_neg q]; rfl
        · rw [q]; exact fg_u2eq) (fun i hi => (fg_u2ns (show ¬ i = sz * 4 + 0 from by have hi4 : i < sz * 4 := hi; omega)).trans ((fg_u2ne (by decide)).trans ((hold i hi).trans ((fg_u2ne (by decide)).trans ((fg_u2ne (by decide)).trans (fg_u2ne (by decide))))))) ((fg_u2nx (by omega)).trans fg_u2eq) ((fg_u2nx (by omega)).trans ((fg_u2nx (by omega)).trans ((hfr 255 12 (by decide) (Or.inl (by decide))).trans ((fg_u2ns (by decide)).trans fg_u2eq)))) ((fg_u2nx (by omega)).trans ((fg_u2nx (by omega)).trans ((hfr 255 13 (by decide) (Or.inl (by decide))).trans fg_u2eq))))
  · refine fg_aloadn (fg_ft (pc := 0) tb_Reader_openRow 0 rfl) rfl ?_
    refine fg_aloadn (fg_ft (pc := 1) tb_Reader_openRow 1 rfl) rfl ?_
    refine fg_callV (fg_ft (pc := 2) tb_Reader_openRow 2 rfl) cf_Reader_176 (fg_isOf ly_255 rfl (fg_lt ly_255 (by decide))) (as := [.ref 12]) (st := []) rfl rfl (Nat.le_of_ble_eq_true rfl) (Nat.le_refl _) (Nat.le_refl _) (ev_Reader_rowsOf_12 ?_)
    refine fg_astoren (fg_ft (pc := 5) tb_Reader_openRow 3 rfl) (Nat.le_of_ble_eq_true rfl) ?_
    refine fg_aloadn (fg_ft (pc := 6) tb_Reader_openRow 4 rfl) rfl ?_
    refine fg_iconst (fg_ft (pc := 7) tb_Reader_openRow 5 rfl) ic_m1 ?_
    refine fg_putI (fg_ft (pc := 8) tb_Reader_openRow 6 rfl) ff_Reader_180 ly_255 rfl (fg_lt ly_255 (by decide)) (fg_nokI _) (fun _ _ h => by cases h; rfl) ?_
    show fg_wp _ _ _ _ _ _ _ _ _ (fg_u2 μ 255 14 (-1), fg_rho R, 304)
    refine fg_aloadn (fg_ft (pc := 11) tb_Reader_openRow 7 rfl) rfl ?_
    refine fg_iconst (fg_ft (pc := 12) tb_Reader_openRow 8 rfl) ic_0 ?_
    refine fg_putI (fg_ft (pc := 13) tb_Reader_openRow 9 rfl) ff_Reader_183 ly_255 rfl (fg_lt ly_255 (by decide)) (fg_nokI _) (fun _ _ h => by cases h; rfl) ?_
    show fg_wp _ _ _ _ _ _ _ _ _ (fg_u2 (fg_u2 μ 255 14 (-1)) 255 12 (nI 0), fg_rho R, 304)
    refine fg_aloadn (fg_ft (pc := 16) tb_Reader_openRow 10 rfl) rfl ?_
    refine fg_iconst (fg_ft (pc := 17) tb_Reader_openRow 11 rfl) ic_m1 ?_
    refine fg_putI (fg_ft (pc := 18) tb_Reader_openRow 12 rfl) ff_Reader_186 ly_255 rfl (fg_lt ly_255 (by decide)) (fg_nokI _) (fun _ _ h => by cases h; rfl) ?_
    show fg_wp _ _ _ _ _ _ _ _ _ (fg_u2 (fg_u2 (fg_u2 μ 255 14 (-1)) 255 12 (nI 0)) 255 13 (-1), fg_rho R, 304)
    refine fg_aloadn (fg_ft (pc := 21) tb_Reader_openRow 13 rfl) rfl ?_
    refine fg_ifnull_r (fg_ft (pc := 22) tb_Reader_openRow 14 rfl) ?_
    refine fg_aloadn (fg_ft (pc := 25) tb_Reader_openRow 15 rfl) rfl ?_
    refine fg_gets (fg_ft (pc := 26) tb_Reader_openRow 16 rfl) fs_Reader_143 ?_
    refine fg_acmp_eq (tgt := 39) (fg_ft (pc := 29) tb_Reader_openRow 17 rfl) (by decide) (by decide) (by decide) (fun h => absurd h (by decide)) (fun _ => ?_)
    refine fg_aloadn (fg_ft (pc := 32) tb_Reader_openRow 18 rfl) rfl ?_
    refine fg_gets (fg_ft (pc := 33) tb_Reader_openRow 19 rfl) fs_Reader_146 ?_
    refine fg_acmp_ne (tgt := 40) (fg_ft (pc := 36) tb_Reader_openRow 20 rfl) (by decide) (by decide) (by decide) (fun _ => ?_) (fun h => absurd h (by decide))
    refine fg_aloadn (fg_ft (pc := 40) tb_Reader_openRow 22 rfl) rfl ?_
    refine fg_aloadn (fg_ft (pc := 41) tb_Reader_openRow 23 rfl) rfl ?_
    refine fg_aloadn (fg_ft (pc := 42) tb_Reader_openRow 24 rfl) rfl ?_
    refine fg_callV (fg_ft (pc := 43) tb_Reader_openRow 25 rfl) cf_Reader_117 (Or.inr (pz_isW (w := 12) (by decide))) (as := []) (st := [.ref 270, .ref 255]) rfl rfl (Nat.le_of_ble_eq_true rfl) (Nat.le_refl _) (Nat.le_refl _) (ev_Word_sort_12 ?_)
    refine fg_iconst (fg_ft (pc := 46) tb_Reader_openRow 26 rfl) ic_1 ?_
    refine fg_icmp_neN (tgt := 54) (fg_ft (pc := 47) tb_Reader_openRow 27 rfl) (by decide) (by decide) (by decide) (fun c47 => (absurd rfl c47)) (fun c47 => ?_)
    refine fg_iconst (fg_ft (pc := 50) tb_Reader_openRow 28 rfl) ic_m1 ?_
    refine fg_goto (tgt := 55) (fg_ft (pc := 51) tb_Reader_openRow 29 rfl) (by decide) ?_
    refine fg_callV (fg_ft (pc := 55) tb_Reader_openRow 31 rfl) cf_Reader_189 (fg_isOf ly_270 rfl (fg_lt ly_270 (by decide))) (as := [.int (-1)]) (st := [.ref 255]) rfl rfl (Nat.le_of_ble_eq_true rfl) (Nat.le_refl _) (Nat.le_refl _) (ev_Rows_addFull (r := 270) (c := 271) (n := 120) (w := 4) (sz := sz) ⟨ly_270, rh_270_1 R, ly_271⟩ (by decide) (((fg_u2ne (f := (fg_u2 (fg_u2 μ 255 14 (-1)) 255 12 (nI 0))) (a := 255) (k := 13) (b := 270) (j := 0) (x := (-1)) (by decide)).trans ((fg_u2ne (f := (fg_u2 μ 255 14 (-1))) (a := 255) (k := 12) (b := 270) (j := 0) (x := (nI 0)) (by decide)).trans ((fg_u2ne (f := μ) (a := 255) (k := 14) (b := 270) (j := 0) (x := (-1)) (by decide)).trans hw0)))) (((fg_u2ne (f := (fg_u2 (fg_u2 μ 255 14 (-1)) 255 12 (nI 0))) (a := 255) (k := 13) (b := 270) (j := 2) (x := (-1)) (by decide)).trans ((fg_u2ne (f := (fg_u2 μ 255 14 (-1))) (a := 255) (k := 12) (b := 270) (j := 2) (x := (nI 0)) (by decide)).trans ((fg_u2ne (f := μ) (a := 255) (k := 14) (b := 270) (j := 2) (x := (-1)) (by decide)).trans hs2)))) (by omega) (by decide) (by omega) (by omega) (by omega) ?_)
    refine fg_putI (fg_ft (pc := 58) tb_Reader_openRow 32 rfl) ff_Reader_180 ly_255 rfl (fg_lt ly_255 (by decide)) (fg_nokI _) (fun _ _ h => by cases h; rfl) ?_
    show fg_wp _ _ _ _ _ _ _ _ _ (fg_u2 (fg_u2 (fg_u2 (fg_u2 μ 255 14 (-1)) 255 12 (nI 0)) 255 13 (-1)) 255 14 (-1), fg_rho R, 304)
    refine fg_aloadn (fg_ft (pc := 61) tb_Reader_openRow 33 rfl) rfl ?_
    refine fg_getV (v := (-1)) (fg_ft (pc := 62) tb_Reader_openRow 34 rfl) ff_Reader_180 ly_255 rfl (fg_lt ly_255 (by decide)) (show (fg_u2 (fg_u2 (fg_u2 (fg_u2 μ 255 14 (-1)) 255 12 (nI 0)) 255 13 (-1)) 255 14 (-1)) 255 14 = -1 from fg_u2eq) ?_
    refine fg_iconst (fg_ft (pc := 65) tb_Reader_openRow 35 rfl) ic_m1 ?_
    refine fg_icmp_ne (tgt := 74) (fg_ft (pc := 66) tb_Reader_openRow 36 rfl) (by decide) (fun c66 => (absurd rfl c66)) (fun c66 => ?_)
    by_cases cF : F = 0
    · refine fg_aloadn (fg_ft (pc := 69) tb_Reader_openRow 37 rfl) rfl ?_
      refine fg_iconst (fg_ft (pc := 70) tb_Reader_openRow 38 rfl) ic_3 ?_
      refine fg_callV (fg_ft (pc := 71) tb_Reader_openRow 39 rfl) cf_Reader_192 (fg_isOf ly_255 rfl (fg_lt ly_255 (by decide))) (as := [.int (nI 3)]) (st := []) rfl rfl (Nat.le_of_ble_eq_true rfl) (Nat.le_refl _) (Nat.le_refl _) (ev_Reader_noteFault0 (s := s) (((fg_u2ns (f := (fg_u2 (fg_u2 (fg_u2 μ 255 14 (-1)) 255 12 (nI 0)) 255 13 (-1))) (a := 255) (k := 14) (b := 255) (j := 2) (x := (-1)) (by decide)).trans ((fg_u2ns (f := (fg_u2 (fg_u2 μ 255 14 (-1)) 255 12 (nI 0))) (a := 255) (k := 13) (b := 255) (j := 2) (x := (-1)) (by decide)).trans ((fg_u2ns (f := (fg_u2 μ 255 14 (-1))) (a := 255) (k := 12) (b := 255) (j := 2) (x := (nI 0)) (by decide)).trans ((fg_u2ns (f := μ) (a := 255) (k := 14) (b := 255) (j := 2) (x := (-1)) (by decide)).trans (hF.trans (congrArg nI cF))))))) (((fg_u2ns (f := (fg_u2 (fg_u2 (fg_u2 μ 255 14 (-1)) 255 12 (nI 0)) 255 13 (-1))) (a := 255) (k := 14) (b := 255) (j := 9) (x := (-1)) (by decide)).trans ((fg_u2ns (f := (fg_u2 (fg_u2 μ 255 14 (-1)) 255 12 (nI 0))) (a := 255) (k := 13) (b := 255) (j := 9) (x := (-1)) (by decide)).trans ((fg_u2ns (f := (fg_u2 μ 255 14 (-1))) (a := 255) (k := 12) (b := 255) (j := 9) (x := (nI 0)) (by decide)).trans ((fg_u2ns (f := μ) (a := 255) (k := 14) (b := 255) (j := 9) (x := (-1)) (by decide)).trans h9))))) ?_)
      show fg_wp _ _ _ _ _ _ _ _ _ (fg_u2 (fg_u2 (fg_u2 (fg_u2 (fg_u2 (fg_u2 μ 255 14 (-1)) 255 12 (nI 0)) 255 13 (-1)) 255 14 (-1)) 255 2 (nI 3)) 255 3 (nI s), fg_rho R, 304)
      refine fg_aloadn (fg_ft (pc := 74) tb_Reader_openRow 40 rfl) rfl ?_
      refine fg_callV (fg_ft (pc := 75) tb_Reader_openRow 41 rfl) cf_Reader_117 (Or.inr (pz_isW (w := 12) (by decide))) (as := []) (st := []) rfl rfl (Nat.le_of_ble_eq_true rfl) (Nat.le_refl _) (Nat.le_refl _) (ev_Word_sort_12 ?_)
      refine fg_iconst (fg_ft (pc := 78) tb_Reader_openRow 42 rfl) ic_1 ?_
      refine fg_icmp_neN (tgt := 95) (fg_ft (pc := 79) tb_Reader_openRow 43 rfl) (by decide) (by decide) (by decide) (fun c79 => (absurd rfl c79)) (fun c79 => ?_)
      refine fg_aloadn (fg_ft (pc := 82) tb_Reader_openRow 44 rfl) rfl ?_
      refine fg_aloadn (fg_ft (pc := 83) tb_Reader_openRow 45 rfl) rfl ?_
      refine fg_getV (v := (-1)) (fg_ft (pc := 84) tb_Reader_openRow 46 rfl) ff_Reader_180 ly_255 rfl (fg_lt ly_255 (by decide)) (show (fg_u2 (fg_u2 (fg_u2 (fg_u2 (fg_u2 (fg_u2 μ 255 14 (-1)) 255 12 (nI 0)) 255 13 (-1)) 255 14 (-1)) 255 2 (nI 3)) 255 3 (nI s)) 255 14 = -1 from ((fg_u2nx (by decide)).trans ((fg_u2nx (by decide)).trans fg_u2eq))) ?_
      refine fg_iconst (fg_ft (pc := 87) tb_Reader_openRow 47 rfl) ic_0 ?_
      refine fg_aloadn (fg_ft (pc := 88) tb_Reader_openRow 48 rfl) rfl ?_
      refine fg_getK (fg_ft (pc := 89) tb_Reader_openRow 49 rfl) fk_Reader_196_12 ?_
      refine fg_callV (fg_ft (pc := 92) tb_Reader_openRow 50 rfl) cf_Reader_199 (fg_isOf ly_270 rfl (fg_lt ly_270 (by decide))) (as := [.int (-1), .int (nI 0), .int (nI 2)]) (st := []) rfl rfl (Nat.le_of_ble_eq_true rfl) (Nat.le_refl _) (Nat.le_refl _) (ev_Rows_putOut (r := 270) (c := 271) (n := 120) (w := 4) (sz := sz) ⟨ly_270, rh_270_1 R, ly_271⟩ (((fg_u2ne (f := (fg_u2 (fg_u2 (fg_u2 (fg_u2 (fg_u2 μ 255 14 (-1)) 255 12 (nI 0)) 255 13 (-1)) 255 14 (-1)) 255 2 (nI 3))) (a := 255) (k := 3) (b := 270) (j := 0) (x := (nI s)) (by decide)).trans ((fg_u2ne (f := (fg_u2 (fg_u2 (fg_u2 (fg_u2 μ 255 14 (-1)) 255 12 (nI 0)) 255 13 (-1)) 255 14 (-1))) (a := 255) (k := 2) (b := 270) (j := 0) (x := (nI 3)) (by decide)).trans ((fg_u2ne (f := (fg_u2 (fg_u2 (fg_u2 μ 255 14 (-1)) 255 12 (nI 0)) 255 13 (-1))) (a := 255) (k := 14) (b := 270) (j := 0) (x := (-1)) (by decide)).trans ((fg_u2ne (f := (fg_u2 (fg_u2 μ 255 14 (-1)) 255 12 (nI 0))) (a := 255) (k := 13) (b := 270) (j := 0) (x := (-1)) (by decide)).trans ((fg_u2ne (f := (fg_u2 μ 255 14 (-1))) (a := 255) (k := 12) (b := 270) (j := 0) (x := (nI 0)) (by decide)).trans ((fg_u2ne (f := μ) (a := 255) (k := 14) (b := 270) (j := 0) (x := (-1)) (by decide)).trans hw0))))))) (((fg_u2ne (f := (fg_u2 (fg_u2 (fg_u2 (fg_u2 (fg_u2 μ 255 14 (-1)) 255 12 (nI 0)) 255 13 (-1)) 255 14 (-1)) 255 2 (nI 3))) (a := 255) (k := 3) (b := 270) (j := 2) (x := (nI s)) (by decide)).trans ((fg_u2ne (f := (fg_u2 (fg_u2 (fg_u2 (fg_u2 μ 255 14 (-1)) 255 12 (nI 0)) 255 13 (-1)) 255 14 (-1))) (a := 255) (k := 2) (b := 270) (j := 2) (x := (nI 3)) (by decide)).trans ((fg_u2ne (f := (fg_u2 (fg_u2 (fg_u2 μ 255 14 (-1)) 255 12 (nI 0)) 255 13 (-1))) (a := 255) (k := 14) (b := 270) (j := 2) (x := (-1)) (by decide)).trans ((fg_u2ne (f := (fg_u2 (fg_u2 μ 255 14 (-1)) 255 12 (nI 0))) (a := 255) (k := 13) (b := 270) (j := 2) (x := (-1)) (by decide)).trans ((fg_u2ne (f := (fg_u2 μ 255 14 (-1))) (a := 255) (k := 12) (b := 270) (j := 2) (x := (nI 0)) (by decide)).trans ((fg_u2ne (f := μ) (a := 255) (k := 14) (b := 270) (j := 2) (x := (-1)) (by decide)).trans hs2))))))) (by omega) (by decide) (by omega) (fun h => h.1 (by decide)) ?_)
      exact fg_vret (fg_ft (pc := 95) tb_Reader_openRow 51 rfl) rfl rfl (hN hroom _ (fun a j h => ((fg_u2nx (by omega)).trans ((fg_u2nx (by omega)).trans ((fg_u2nx (by omega)).trans ((fg_u2nx (by omega)).trans ((fg_u2nx (by omega)).trans ((fg_u2nx (by omega)).trans rfl))))))) (fun _ => ⟨(fg_u2ns (by decide)).trans fg_u2eq, fg_u2eq⟩) (fun h => absurd cF h))
    · refine fg_aloadn (fg_ft (pc := 69) tb_Reader_openRow 37 rfl) rfl ?_
      refine fg_iconst (fg_ft (pc := 70) tb_Reader_openRow 38 rfl) ic_3 ?_
      refine fg_callV (fg_ft (pc := 71) tb_Reader_openRow 39 rfl) cf_Reader_192 (fg_isOf ly_255 rfl (fg_lt ly_255 (by decide))) (as := [.int (nI 3)]) (st := []) rfl rfl (Nat.le_of_ble_eq_true rfl) (Nat.le_refl _) (Nat.le_refl _) (ev_Reader_noteFault1 (F := F) (((fg_u2ns (f := (fg_u2 (fg_u2 (fg_u2 μ 255 14 (-1)) 255 12 (nI 0)) 255 13 (-1))) (a := 255) (k := 14) (b := 255) (j := 2) (x := (-1)) (by decide)).trans ((fg_u2ns (f := (fg_u2 (fg_u2 μ 255 14 (-1)) 255 12 (nI 0))) (a := 255) (k := 13) (b := 255) (j := 2) (x := (-1)) (by decide)).trans ((fg_u2ns (f := (fg_u2 μ 255 14 (-1))) (a := 255) (k := 12) (b := 255) (j := 2) (x := (nI 0)) (by decide)).trans ((fg_u2ns (f := μ) (a := 255) (k := 14) (b := 255) (j := 2) (x := (-1)) (by decide)).trans hF))))) hF5 cF ?_)
      refine fg_aloadn (fg_ft (pc := 74) tb_Reader_openRow 40 rfl) rfl ?_
      refine fg_callV (fg_ft (pc := 75) tb_Reader_openRow 41 rfl) cf_Reader_117 (Or.inr (pz_isW (w := 12) (by decide))) (as := []) (st := []) rfl rfl (Nat.le_of_ble_eq_true rfl) (Nat.le_refl _) (Nat.le_refl _) (ev_Word_sort_12 ?_)
      refine fg_iconst (fg_ft (pc := 78) tb_Reader_openRow 42 rfl) ic_1 ?_
      refine fg_icmp_neN (tgt := 95) (fg_ft (pc := 79) tb_Reader_openRow 43 rfl) (by decide) (by decide) (by decide) (fun c79 => (absurd rfl c79)) (fun c79 => ?_)
      refine fg_aloadn (fg_ft (pc := 82) tb_Reader_openRow 44 rfl) rfl ?_
      refine fg_aloadn (fg_ft (pc := 83) tb_Reader_openRow 45 rfl) rfl ?_
      refine fg_getV (v := (-1)) (fg_ft (pc := 84) tb_Reader_openRow 46 rfl) ff_Reader_180 ly_255 rfl (fg_lt ly_255 (by decide)) (show (fg_u2 (fg_u2 (fg_u2 (fg_u2 μ 255 14 (-1)) 255 12 (nI 0)) 255 13 (-1)) 255 14 (-1)) 255 14 = -1 from fg_u2eq) ?_
      refine fg_iconst (fg_ft (pc := 87) tb_Reader_openRow 47 rfl) ic_0 ?_
      refine fg_aloadn (fg_ft (pc := 88) tb_Reader_openRow 48 rfl) rfl ?_
      refine fg_getK (fg_ft (pc := 89) tb_Reader_openRow 49 rfl) fk_Reader_196_12 ?_
      refine fg_callV (fg_ft (pc := 92) tb_Reader_openRow 50 rfl) cf_Reader_199 (fg_isOf ly_270 rfl (fg_lt ly_270 (by decide))) (as := [.int (-1), .int (nI 0), .int (nI 2)]) (st := []) rfl rfl (Nat.le_of_ble_eq_true rfl) (Nat.le_refl _) (Nat.le_refl _) (ev_Rows_putOut (r := 270) (c := 271) (n := 120) (w := 4) (sz := sz) ⟨ly_270, rh_270_1 R, ly_271⟩ (((fg_u2ne (f := (fg_u2 (fg_u2 (fg_u2 μ 255 14 (-1)) 255 12 (nI 0)) 255 13 (-1))) (a := 255) (k := 14) (b := 270) (j := 0) (x := (-1)) (by decide)).trans ((fg_u2ne (f := (fg_u2 (fg_u2 μ 255 14 (-1)) 255 12 (nI 0))) (a := 255) (k := 13) (b := 270) (j := 0) (x := (-1)) (by decide)).trans ((fg_u2ne (f := (fg_u2 μ 255 14 (-1))) (a := 255) (k := 12) (b := 270) (j := 0) (x := (nI 0)) (by decide)).trans ((fg_u2ne (f := μ) (a := 255) (k := 14) (b := 270) (j := 0) (x := (-1)) (by decide)).trans hw0))))) (((fg_u2ne (f := (fg_u2 (fg_u2 (fg_u2 μ 255 14 (-1)) 255 12 (nI 0)) 255 13 (-1))) (a := 255) (k := 14) (b := 270) (j := 2) (x := (-1)) (by decide)).trans ((fg_u2ne (f := (fg_u2 (fg_u2 μ 255 14 (-1)) 255 12 (nI 0))) (a := 255) (k := 13) (b := 270) (j := 2) (x := (-1)) (by decide)).trans ((fg_u2ne (f := (fg_u2 μ 255 14 (-1))) (a := 255) (k := 12) (b := 270) (j := 2) (x := (nI 0)) (by decide)).trans ((fg_u2ne (f := μ) (a := 255) (k := 14) (b := 270) (j := 2) (x := (-1)) (by decide)).trans hs2))))) (by omega) (by decide) (by omega) (fun h => h.1 (by decide)) ?_)
      exact fg_vret (fg_ft (pc := 95) tb_Reader_openRow 51 rfl) rfl rfl (hN hroom _ (fun a j h => ((fg_u2nx (by omega)).trans ((fg_u2nx (by omega)).trans ((fg_u2nx (by omega)).trans ((fg_u2nx (by omega)).trans rfl))))) (fun h => absurd h cF) (fun _ => ⟨((fg_u2nx (by decide)).trans ((fg_u2nx (by decide)).trans ((fg_u2nx (by decide)).trans ((fg_u2nx (by decide)).trans rfl)))), ((fg_u2nx (by decide)).trans ((fg_u2nx (by decide)).trans ((fg_u2nx (by decide)).trans ((fg_u2nx (by decide)).trans rfl))))⟩))
theorem fk_Reader_196_13 : fg_KF "ForgetBread$Reader" 196 13 (.int (nI 3)) := ⟨_, List.mem_of_getElem? (l := fg_ofld) (i := 78) rfl, rfl, rfl, fg_tblIn 1728 (by decide +kernel) (by decide +kernel)⟩
theorem ev_Reader_openRow_13 {E : fg_E} {d : Nat} {μ : Nat → Nat → Int32} {R : fg_T4} {Q : Option Value → fg_M → Prop} {sz F s : Nat} (h9 : μ 255 9 = nI s) (hF : μ 255 2 = nI F) (hF5 : F < 5) (hw0 : μ 270 0 = nI 4) (hs2 : μ 270 2 = nI sz) (hsz : sz ≤ 30) (hR : sz < pz_mx (pz_rt 13) → ∀ μ' : Nat → Nat → Int32, (∀ a j, a ≠ pz_rc (pz_rt 13) → (a ≠ pz_ro (pz_rt 13) ∨ j ≠ 2) → (a ≠ 255 ∨ (j ≠ 12 ∧ j ≠ 13 ∧ j ≠ 14)) → μ' a j = μ a j) → μ' (pz_ro (pz_rt 13)) 2 = nI (sz + 1) → (∀ i, i < pz_wi (pz_rt 13) → μ' (pz_rc (pz_rt 13)) (sz * pz_wi (pz_rt 13) + i) = nI (if 13 < 10 then 0 else if i = 0 then 13 - 10 else 4294967295)) → (∀ i, i < sz * pz_wi (pz_rt 13) → μ' (pz_rc (pz_rt 13)) i = μ (pz_rc (pz_rt 13)) i) → μ' 255 14 = nI sz → μ' 255 12 = nI 0 → μ' 255 13 = -1 → Q none (μ', fg_rho R, 304)) (hN : ¬ sz < pz_mx (pz_rt 13) → ∀ μ' : Nat → Nat → Int32, (∀ a j, (a ≠ 255 ∨ (j ≠ 2 ∧ j ≠ 3 ∧ j ≠ 12 ∧ j ≠ 13 ∧ j ≠ 14)) → μ' a j = μ a j) → (F = 0 → μ' 255 2 = nI 3 ∧ μ' 255 3 = nI s) → (¬ F = 0 → μ' 255 2 = μ 255 2 ∧ μ' 255 3 = μ 255 3) → Q none (μ', fg_rho R, 304)) : fg_Ev E yy_Reader_openRow (d + 5) [.ref 255, .ref 13] (μ, fg_rho R, 304) 304 Q := by
  refine fg_intro (by decide +kernel) (Nat.le_of_ble_eq_true rfl) (fg_okAs rfl) (Nat.le_refl _) ?_
  by_cases hroom : sz < 30
  · refine fg_aloadn (fg_ft (pc := 0) tb_Reader_openRow 0 rfl) rfl ?_
    refine fg_aloadn (fg_ft (pc := 1) tb_Reader_openRow 1 rfl) rfl ?_
    refine fg_callV (fg_ft (pc := 2) tb_Reader_openRow 2 rfl) cf_Reader_176 (fg_isOf ly_255 rfl (fg_lt ly_255 (by decide))) (as := [.ref 13]) (st := []) rfl rfl (Nat.le_of_ble_eq_true rfl) (Nat.le_refl _) (Nat.le_refl _) (ev_Reader_rowsOf_13 ?_)
    refine fg_astoren (fg_ft (pc := 5) tb_Reader_openRow 3 rfl) (Nat.le_of_ble_eq_true rfl) ?_
    refine fg_aloadn (fg_ft (pc := 6) tb_Reader_openRow 4 rfl) rfl ?_
    refine fg_iconst (fg_ft (pc := 7) tb_Reader_openRow 5 rfl) ic_m1 ?_
    refine fg_putI (fg_ft (pc := 8) tb_Reader_openRow 6 rfl) ff_Reader_180 ly_255 rfl (fg_lt ly_255 (by decide)) (fg_nokI _) (fun _ _ h => by cases h; rfl) ?_
    show fg_wp _ _ _ _ _ _ _ _ _ (fg_u2 μ 255 14 (-1), fg_rho R, 304)
    refine fg_aloadn (fg_ft (pc := 11) tb_Reader_openRow 7 rfl) rfl ?_
    refine fg_iconst (fg_ft (pc := 12) tb_Reader_openRow 8 rfl) ic_0 ?_
    refine fg_putI (fg_ft (pc := 13) tb_Reader_openRow 9 rfl) ff_Reader_183 ly_255 rfl (fg_lt ly_255 (by decide)) (fg_nokI _) (fun _ _ h => by cases h; rfl) ?_
    show fg_wp _ _ _ _ _ _ _ _ _ (fg_u2 (fg_u2 μ 255 14 (-1)) 255 12 (nI 0), fg_rho R, 304)
    refine fg_aloadn (fg_ft (pc := 16) tb_Reader_openRow 10 rfl) rfl ?_
    refine fg_iconst (fg_ft (pc := 17) tb_Reader_openRow 11 rfl) ic_m1 ?_
    refine fg_putI (fg_ft (pc := 18) tb_Reader_openRow 12 rfl) ff_Reader_186 ly_255 rfl (fg_lt ly_255 (by decide)) (fg_nokI _) (fun _ _ h => by cases h; rfl) ?_
    show fg_wp _ _ _ _ _ _ _ _ _ (fg_u2 (fg_u2 (fg_u2 μ 255 14 (-1)) 255 12 (nI 0)) 255 13 (-1), fg_rho R, 304)
    refine fg_aloadn (fg_ft (pc := 21) tb_Reader_openRow 13 rfl) rfl ?_
    refine fg_ifnull_r (fg_ft (pc := 22) tb_Reader_openRow 14 rfl) ?_
    refine fg_aloadn (fg_ft (pc := 25) tb_Reader_openRow 15 rfl) rfl ?_
    refine fg_gets (fg_ft (pc := 26) tb_Reader_openRow 16 rfl) fs_Reader_143 ?_
    refine fg_acmp_eq (tgt := 39) (fg_ft (pc := 29) tb_Reader_openRow 17 rfl) (by decide) (by decide) (by decide) (fun h => absurd h (by decide)) (fun _ => ?_)
    refine fg_aloadn (fg_ft (pc := 32) tb_Reader_openRow 18 rfl) rfl ?_
    refine fg_gets (fg_ft (pc := 33) tb_Reader_openRow 19 rfl) fs_Reader_146 ?_
    refine fg_acmp_ne (tgt := 40) (fg_ft (pc := 36) tb_Reader_openRow 20 rfl) (by decide) (by decide) (by decide) (fun _ => ?_) (fun h => absurd h (by decide))
    refine fg_aloadn (fg_ft (pc := 40) tb_Reader_openRow 22 rfl) rfl ?_
    refine fg_aloadn (fg_ft (pc := 41) tb_Reader_openRow 23 rfl) rfl ?_
    refine fg_aloadn (fg_ft (pc := 42) tb_Reader_openRow 24 rfl) rfl ?_
    refine fg_callV (fg_ft (pc := 43) tb_Reader_openRow 25 rfl) cf_Reader_117 (Or.inr (pz_isW (w := 13) (by decide))) (as := []) (st := [.ref 270, .ref 255]) rfl rfl (Nat.le_of_ble_eq_true rfl) (Nat.le_refl _) (Nat.le_refl _) (ev_Word_sort_13 ?_)
    refine fg_iconst (fg_ft (pc := 46) tb_Reader_openRow 26 rfl) ic_1 ?_
    refine fg_icmp_neN (tgt := 54) (fg_ft (pc := 47) tb_Reader_openRow 27 rfl) (by decide) (by decide) (by decide) (fun c47 => (absurd rfl c47)) (fun c47 => ?_)
    refine fg_iconst (fg_ft (pc := 50) tb_Reader_openRow 28 rfl) ic_m1 ?_
    refine fg_goto (tgt := 55) (fg_ft (pc := 51) tb_Reader_openRow 29 rfl) (by decide) ?_
    refine fg_callV (fg_ft (pc := 55) tb_Reader_openRow 31 rfl) cf_Reader_189 (fg_isOf ly_270 rfl (fg_lt ly_270 (by decide))) (as := [.int (-1)]) (st := [.ref 255]) rfl rfl (Nat.le_of_ble_eq_true rfl) (Nat.le_refl _) (Nat.le_refl _) (ev_Rows_add (r := 270) (c := 271) (n := 120) (w := 4) (sz := sz) (x := (-1)) ⟨ly_270, rh_270_1 R, ly_271⟩ (by decide) (((fg_u2ne (f := (fg_u2 (fg_u2 μ 255 14 (-1)) 255 12 (nI 0))) (a := 255) (k := 13) (b := 270) (j := 0) (x := (-1)) (by decide)).trans ((fg_u2ne (f := (fg_u2 μ 255 14 (-1))) (a := 255) (k := 12) (b := 270) (j := 0) (x := (nI 0)) (by decide)).trans ((fg_u2ne (f := μ) (a := 255) (k := 14) (b := 270) (j := 0) (x := (-1)) (by decide)).trans hw0)))) (((fg_u2ne (f := (fg_u2 (fg_u2 μ 255 14 (-1)) 255 12 (nI 0))) (a := 255) (k := 13) (b := 270) (j := 2) (x := (-1)) (by decide)).trans ((fg_u2ne (f := (fg_u2 μ 255 14 (-1))) (a := 255) (k := 12) (b := 270) (j := 2) (x := (nI 0)) (by decide)).trans ((fg_u2ne (f := μ) (a := 255) (k := 14) (b := 270) (j := 2) (x := (-1)) (by decide)).trans hs2)))) (by omega) (by decide) (by omega) (by omega) (by omega) ?_)
    intro ν hfr hN2 hnew hold
    show fg_wp _ _ _ _ _ _ _ _ _ (ν, fg_rho R, 304)
    refine fg_putI (fg_ft (pc := 58) tb_Reader_openRow 32 rfl) ff_Reader_180 ly_255 rfl (fg_lt ly_255 (by decide)) (fg_nokI _) (fun _ _ h => by cases h; rfl) ?_
    show fg_wp _ _ _ _ _ _ _ _ _ (fg_u2 ν 255 14 (nI sz), fg_rho R, 304)
    refine fg_aloadn (fg_ft (pc := 61) tb_Reader_openRow 33 rfl) rfl ?_
    refine fg_getV (v := (nI sz)) (fg_ft (pc := 62) tb_Reader_openRow 34 rfl) ff_Reader_180 ly_255 rfl (fg_lt ly_255 (by decide)) (show (fg_u2 ν 255 14 (nI sz)) 255 14 = nI sz from fg_u2eq) ?_
    refine fg_iconst (fg_ft (pc := 65) tb_Reader_openRow 35 rfl) ic_m1 ?_
    refine fg_icmp_neM (tgt := 74) (fg_ft (pc := 66) tb_Reader_openRow 36 rfl) (by decide) (Nat.lt_trans (show _ < 2 ^ 31 from by omega) (by decide)) (fun c66 => ?_) (fun c66 => (absurd c66 (by omega)))
    refine fg_aloadn (fg_ft (pc := 74) tb_Reader_openRow 40 rfl) rfl ?_
    refine fg_callV (fg_ft (pc := 75) tb_Reader_openRow 41 rfl) cf_Reader_117 (Or.inr (pz_isW (w := 13) (by decide))) (as := []) (st := []) rfl rfl (Nat.le_of_ble_eq_true rfl) (Nat.le_refl _) (Nat.le_refl _) (ev_Word_sort_13 ?_)
    refine fg_iconst (fg_ft (pc := 78) tb_Reader_openRow 42 rfl) ic_1 ?_
    refine fg_icmp_neN (tgt := 95) (fg_ft (pc := 79) tb_Reader_openRow 43 rfl) (by decide) (by decide) (by decide) (fun c79 => (absurd rfl c79)) (fun c79 => ?_)
    refine fg_aloadn (fg_ft (pc := 82) tb_Reader_openRow 44 rfl) rfl ?_
    refine fg_aloadn (fg_ft (pc := 83) tb_Reader_openRow 45 rfl) rfl ?_
    refine fg_getV (v := (nI sz)) (fg_ft (pc := 84) tb_Reader_openRow 46 rfl) ff_Reader_180 ly_255 rfl (fg_lt ly_255 (by decide)) (show (fg_u2 ν 255 14 (nI sz)) 255 14 = nI sz from fg_u2eq) ?_
    refine fg_iconst (fg_ft (pc := 87) tb_Reader_openRow 47 rfl) ic_0 ?_
    refine fg_aloadn (fg_ft (pc := 88) tb_Reader_openRow 48 rfl) rfl ?_
    refine fg_getK (fg_ft (pc := 89) tb_Reader_openRow 49 rfl) fk_Reader_196_13 ?_
    refine fg_callV (fg_ft (pc := 92) tb_Reader_openRow 50 rfl) cf_Reader_199 (fg_isOf ly_270 rfl (fg_lt ly_270 (by decide))) (as := [.int (nI sz), .int (nI 0), .int (nI 3)]) (st := []) rfl rfl (Nat.le_of_ble_eq_true rfl) (Nat.le_refl _) (Nat.le_refl _) (ev_Rows_put (r := 270) (c := 271) (n := 120) (w := 4) (sz := sz + 1) (i := sz) (j := 0) ⟨ly_270, rh_270_1 R, ly_271⟩ (((fg_u2ne (f := ν) (a := 255) (k := 14) (b := 270) (j := 0) (x := (nI sz)) (by decide)).trans ((hfr 270 0 (by decide) (Or.inr (by decide))).trans (((fg_u2ne (f := (fg_u2 (fg_u2 μ 255 14 (-1)) 255 12 (nI 0))) (a := 255) (k := 13) (b := 270) (j := 0) (x := (-1)) (by decide)).trans ((fg_u2ne (f := (fg_u2 μ 255 14 (-1))) (a := 255) (k := 12) (b := 270) (j := 0) (x := (nI 0)) (by decide)).trans ((fg_u2ne (f := μ) (a := 255) (k := 14) (b := 270) (j := 0) (x := (-1)) (by decide)).trans hw0))))))) (((fg_u2ne (f := ν) (a := 255) (k := 14) (b := 270) (j := 2) (x := (nI sz)) (by decide)).trans hN2)) (by omega) (by decide) (by omega) (by omega) (by decide) ?_)
    show fg_wp _ _ _ _ _ _ _ _ _ (fg_u2 (fg_u2 ν 255 14 (nI sz)) 271 (sz * 4 + 0) (nI 3), fg_rho R, 304)
    exact fg_vret (fg_ft (pc := 95) tb_Reader_openRow 51 rfl) rfl rfl (hR hroom _ (fun a j g1 g2 g3 => (fg_u2ne g1).trans ((fg_u2nx (by omega)).trans ((hfr a j g1 g2).trans ((fg_u2nx (by omega)).trans ((fg_u2nx (by omega)).trans (fg_u2nx (by omega))))))) ((fg_u2ne (by decide)).trans ((fg_u2ne (by decide)).trans hN2)) (fun i hi => by
        rcases Nat.decEq i 0 with q | q
        · refine (fg_u2ns (show ¬ sz * 4 + i = sz * 4 + 0 by omega)).trans ((fg_u2ne (by decide)).trans ((hnew i hi).trans ?_))
          rw [if_neg (by decide), if_neg q]; rfl
        · rw [q]; exact fg_u2eq) (fun i hi => (fg_u2ns (show ¬ i = sz * 4 + 0 from by have hi4 : i < sz * 4 := hi; omega)).trans ((fg_u2ne (by decide)).trans ((hold i hi).trans ((fg_u2ne (by decide)).trans ((fg_u2ne (by decide)).trans (fg_u2ne (by decide))))))) ((fg_u2nx (by omega)).trans fg_u2eq) ((fg_u2nx (by omega)).trans ((fg_u2nx (by omega)).trans ((hfr 255 12 (by decide) (Or.inl (by decide))).trans ((fg_u2ns (by decide)).trans fg_u2eq)))) ((fg_u2nx (by omega)).trans ((fg_u2nx (by omega)).trans ((hfr 255 13 (by decide) (Or.inl (by decide))).trans fg_u2eq))))
  · refine fg_aloadn (fg_ft (pc := 0) tb_Reader_openRow 0 rfl) rfl ?_
    refine fg_aloadn (fg_ft (pc := 1) tb_Reader_openRow 1 rfl) rfl ?_
    refine fg_callV (fg_ft (pc := 2) tb_Reader_openRow 2 rfl) cf_Reader_176 (fg_isOf ly_255 rfl (fg_lt ly_255 (by decide))) (as := [.ref 13]) (st := []) rfl rfl (Nat.le_of_ble_eq_true rfl) (Nat.le_refl _) (Nat.le_refl _) (ev_Reader_rowsOf_13 ?_)
    refine fg_astoren (fg_ft (pc := 5) tb_Reader_openRow 3 rfl) (Nat.le_of_ble_eq_true rfl) ?_
    refine fg_aloadn (fg_ft (pc := 6) tb_Reader_openRow 4 rfl) rfl ?_
    refine fg_iconst (fg_ft (pc := 7) tb_Reader_openRow 5 rfl) ic_m1 ?_
    refine fg_putI (fg_ft (pc := 8) tb_Reader_openRow 6 rfl) ff_Reader_180 ly_255 rfl (fg_lt ly_255 (by decide)) (fg_nokI _) (fun _ _ h => by cases h; rfl) ?_
    show fg_wp _ _ _ _ _ _ _ _ _ (fg_u2 μ 255 14 (-1), fg_rho R, 304)
    refine fg_aloadn (fg_ft (pc := 11) tb_Reader_openRow 7 rfl) rfl ?_
    refine fg_iconst (fg_ft (pc := 12) tb_Reader_openRow 8 rfl) ic_0 ?_
    refine fg_putI (fg_ft (pc := 13) tb_Reader_openRow 9 rfl) ff_Reader_183 ly_255 rfl (fg_lt ly_255 (by decide)) (fg_nokI _) (fun _ _ h => by cases h; rfl) ?_
    show fg_wp _ _ _ _ _ _ _ _ _ (fg_u2 (fg_u2 μ 255 14 (-1)) 255 12 (nI 0), fg_rho R, 304)
    refine fg_aloadn (fg_ft (pc := 16) tb_Reader_openRow 10 rfl) rfl ?_
    refine fg_iconst (fg_ft (pc := 17) tb_Reader_openRow 11 rfl) ic_m1 ?_
    refine fg_putI (fg_ft (pc := 18) tb_Reader_openRow 12 rfl) ff_Reader_186 ly_255 rfl (fg_lt ly_255 (by decide)) (fg_nokI _) (fun _ _ h => by cases h; rfl) ?_
    show fg_wp _ _ _ _ _ _ _ _ _ (fg_u2 (fg_u2 (fg_u2 μ 255 14 (-1)) 255 12 (nI 0)) 255 13 (-1), fg_rho R, 304)
    refine fg_aloadn (fg_ft (pc := 21) tb_Reader_openRow 13 rfl) rfl ?_
    refine fg_ifnull_r (fg_ft (pc := 22) tb_Reader_openRow 14 rfl) ?_
    refine fg_aloadn (fg_ft (pc := 25) tb_Reader_openRow 15 rfl) rfl ?_
    refine fg_gets (fg_ft (pc := 26) tb_Reader_openRow 16 rfl) fs_Reader_143 ?_
    refine fg_acmp_eq (tgt := 39) (fg_ft (pc := 29) tb_Reader_openRow 17 rfl) (by decide) (by decide) (by decide) (fun h => absurd h (by decide)) (fun _ => ?_)
    refine fg_aloadn (fg_ft (pc := 32) tb_Reader_openRow 18 rfl) rfl ?_
    refine fg_gets (fg_ft (pc := 33) tb_Reader_openRow 19 rfl) fs_Reader_146 ?_
    refine fg_acmp_ne (tgt := 40) (fg_ft (pc := 36) tb_Reader_openRow 20 rfl) (by decide) (by decide) (by decide) (fun _ => ?_) (fun h => absurd h (by decide))
    refine fg_aloadn (fg_ft (pc := 40) tb_Reader_openRow 22 rfl) rfl ?_
    refine fg_aloadn (fg_ft (pc := 41) tb_Reader_openRow 23 rfl) rfl ?_
    refine fg_aloadn (fg_ft (pc := 42) tb_Reader_openRow 24 rfl) rfl ?_
    refine fg_callV (fg_ft (pc := 43) tb_Reader_openRow 25 rfl) cf_Reader_117 (Or.inr (pz_isW (w := 13) (by decide))) (as := []) (st := [.ref 270, .ref 255]) rfl rfl (Nat.le_of_ble_eq_true rfl) (Nat.le_refl _) (Nat.le_refl _) (ev_Word_sort_13 ?_)
    refine fg_iconst (fg_ft (pc := 46) tb_Reader_openRow 26 rfl) ic_1 ?_
    refine fg_icmp_neN (tgt := 54) (fg_ft (pc := 47) tb_Reader_openRow 27 rfl) (by decide) (by decide) (by decide) (fun c47 => (absurd rfl c47)) (fun c47 => ?_)
    refine fg_iconst (fg_ft (pc := 50) tb_Reader_openRow 28 rfl) ic_m1 ?_
    refine fg_goto (tgt := 55) (fg_ft (pc := 51) tb_Reader_openRow 29 rfl) (by decide) ?_
    refine fg_callV (fg_ft (pc := 55) tb_Reader_openRow 31 rfl) cf_Reader_189 (fg_isOf ly_270 rfl (fg_lt ly_270 (by decide))) (as := [.int (-1)]) (st := [.ref 255]) rfl rfl (Nat.le_of_ble_eq_true rfl) (Nat.le_refl _) (Nat.le_refl _) (ev_Rows_addFull (r := 270) (c := 271) (n := 120) (w := 4) (sz := sz) ⟨ly_270, rh_270_1 R, ly_271⟩ (by decide) (((fg_u2ne (f := (fg_u2 (fg_u2 μ 255 14 (-1)) 255 12 (nI 0))) (a := 255) (k := 13) (b := 270) (j := 0) (x := (-1)) (by decide)).trans ((fg_u2ne (f := (fg_u2 μ 255 14 (-1))) (a := 255) (k := 12) (b := 270) (j := 0) (x := (nI 0)) (by decide)).trans ((fg_u2ne (f := μ) (a := 255) (k := 14) (b := 270) (j := 0) (x := (-1)) (by decide)).trans hw0)))) (((fg_u2ne (f := (fg_u2 (fg_u2 μ 255 14 (-1)) 255 12 (nI 0))) (a := 255) (k := 13) (b := 270) (j := 2) (x := (-1)) (by decide)).trans ((fg_u2ne (f := (fg_u2 μ 255 14 (-1))) (a := 255) (k := 12) (b := 270) (j := 2) (x := (nI 0)) (by decide)).trans ((fg_u2ne (f := μ) (a := 255) (k := 14) (b := 270) (j := 2) (x := (-1)) (by decide)).trans hs2)))) (by omega) (by decide) (by omega) (by omega) (by omega) ?_)
    refine fg_putI (fg_ft (pc := 58) tb_Reader_openRow 32 rfl) ff_Reader_180 ly_255 rfl (fg_lt ly_255 (by decide)) (fg_nokI _) (fun _ _ h => by cases h; rfl) ?_
    show fg_wp _ _ _ _ _ _ _ _ _ (fg_u2 (fg_u2 (fg_u2 (fg_u2 μ 255 14 (-1)) 255 12 (nI 0)) 255 13 (-1)) 255 14 (-1), fg_rho R, 304)
    refine fg_aloadn (fg_ft (pc := 61) tb_Reader_openRow 33 rfl) rfl ?_
    refine fg_getV (v := (-1)) (fg_ft (pc := 62) tb_Reader_openRow 34 rfl) ff_Reader_180 ly_255 rfl (fg_lt ly_255 (by decide)) (show (fg_u2 (fg_u2 (fg_u2 (fg_u2 μ 255 14 (-1)) 255 12 (nI 0)) 255 13 (-1)) 255 14 (-1)) 255 14 = -1 from fg_u2eq) ?_
    refine fg_iconst (fg_ft (pc := 65) tb_Reader_openRow 35 rfl) ic_m1 ?_
    refine fg_icmp_ne (tgt := 74) (fg_ft (pc := 66) tb_Reader_openRow 36 rfl) (by decide) (fun c66 => (absurd rfl c66)) (fun c66 => ?_)
    by_cases cF : F = 0
    · refine fg_aloadn (fg_ft (pc := 69) tb_Reader_openRow 37 rfl) rfl ?_
      refine fg_iconst (fg_ft (pc := 70) tb_Reader_openRow 38 rfl) ic_3 ?_
      refine fg_callV (fg_ft (pc := 71) tb_Reader_openRow 39 rfl) cf_Reader_192 (fg_isOf ly_255 rfl (fg_lt ly_255 (by decide))) (as := [.int (nI 3)]) (st := []) rfl rfl (Nat.le_of_ble_eq_true rfl) (Nat.le_refl _) (Nat.le_refl _) (ev_Reader_noteFault0 (s := s) (((fg_u2ns (f := (fg_u2 (fg_u2 (fg_u2 μ 255 14 (-1)) 255 12 (nI 0)) 255 13 (-1))) (a := 255) (k := 14) (b := 255) (j := 2) (x := (-1)) (by decide)).trans ((fg_u2ns (f := (fg_u2 (fg_u2 μ 255 14 (-1)) 255 12 (nI 0))) (a := 255) (k := 13) (b := 255) (j := 2) (x := (-1)) (by decide)).trans ((fg_u2ns (f := (fg_u2 μ 255 14 (-1))) (a := 255) (k := 12) (b := 255) (j := 2) (x := (nI 0)) (by decide)).trans ((fg_u2ns (f := μ) (a := 255) (k := 14) (b := 255) (j := 2) (x := (-1)) (by decide)).trans (hF.trans (congrArg nI cF))))))) (((fg_u2ns (f := (fg_u2 (fg_u2 (fg_u2 μ 255 14 (-1)) 255 12 (nI 0)) 255 13 (-1))) (a := 255) (k := 14) (b := 255) (j := 9) (x := (-1)) (by decide)).trans ((fg_u2ns (f := (fg_u2 (fg_u2 μ 255 14 (-1)) 255 12 (nI 0))) (a := 255) (k := 13) (b := 255) (j := 9) (x := (-1)) (by decide)).trans ((fg_u2ns (f := (fg_u2 μ 255 14 (-1))) (a := 255) (k := 12) (b := 255) (j := 9) (x := (nI 0)) (by decide)).trans ((fg_u2ns (f := μ) (a := 255) (k := 14) (b := 255) (j := 9) (x := (-1)) (by decide)).trans h9))))) ?_)
      show fg_wp _ _ _ _ _ _ _ _ _ (fg_u2 (fg_u2 (fg_u2 (fg_u2 (fg_u2 (fg_u2 μ 255 14 (-1)) 255 12 (nI 0)) 255 13 (-1)) 255 14 (-1)) 255 2 (nI 3)) 255 3 (nI s), fg_rho R, 304)
      refine fg_aloadn (fg_ft (pc := 74) tb_Reader_openRow 40 rfl) rfl ?_
      refine fg_callV (fg_ft (pc := 75) tb_Reader_openRow 41 rfl) cf_Reader_117 (Or.inr (pz_isW (w := 13) (by decide))) (as := []) (st := []) rfl rfl (Nat.le_of_ble_eq_true rfl) (Nat.le_refl _) (Nat.le_refl _) (ev_Word_sort_13 ?_)
      refine fg_iconst (fg_ft (pc := 78) tb_Reader_openRow 42 rfl) ic_1 ?_
      refine fg_icmp_neN (tgt := 95) (fg_ft (pc := 79) tb_Reader_openRow 43 rfl) (by decide) (by decide) (by decide) (fun c79 => (absurd rfl c79)) (fun c79 => ?_)
      refine fg_aloadn (fg_ft (pc := 82) tb_Reader_openRow 44 rfl) rfl ?_
      refine fg_aloadn (fg_ft (pc := 83) tb_Reader_openRow 45 rfl) rfl ?_
      refine fg_getV (v := (-1)) (fg_ft (pc := 84) tb_Reader_openRow 46 rfl) ff_Reader_180 ly_255 rfl (fg_lt ly_255 (by decide)) (show (fg_u2 (fg_u2 (fg_u2 (fg_u2 (fg_u2 (fg_u2 μ 255 14 (-1)) 255 12 (nI 0)) 255 13 (-1)) 255 14 (-1)) 255 2 (nI 3)) 255 3 (nI s)) 255 14 = -1 from ((fg_u2nx (by decide)).trans ((fg_u2nx (by decide)).trans fg_u2eq))) ?_
      refine fg_iconst (fg_ft (pc := 87) tb_Reader_openRow 47 rfl) ic_0 ?_
      refine fg_aloadn (fg_ft (pc := 88) tb_Reader_openRow 48 rfl) rfl ?_
      refine fg_getK (fg_ft (pc := 89) tb_Reader_openRow 49 rfl) fk_Reader_196_13 ?_
      refine fg_callV (fg_ft (pc := 92) tb_Reader_openRow 50 rfl) cf_Reader_199 (fg_isOf ly_270 rfl (fg_lt ly_270 (by decide))) (as := [.int (-1), .int (nI 0), .int (nI 3)]) (st := []) rfl rfl (Nat.le_of_ble_eq_true rfl) (Nat.le_refl _) (Nat.le_refl _) (ev_Rows_putOut (r := 270) (c := 271) (n := 120) (w := 4) (sz := sz) ⟨ly_270, rh_270_1 R, ly_271⟩ (((fg_u2ne (f := (fg_u2 (fg_u2 (fg_u2 (fg_u2 (fg_u2 μ 255 14 (-1)) 255 12 (nI 0)) 255 13 (-1)) 255 14 (-1)) 255 2 (nI 3))) (a := 255) (k := 3) (b := 270) (j := 0) (x := (nI s)) (by decide)).trans ((fg_u2ne (f := (fg_u2 (fg_u2 (fg_u2 (fg_u2 μ 255 14 (-1)) 255 12 (nI 0)) 255 13 (-1)) 255 14 (-1))) (a := 255) (k := 2) (b := 270) (j := 0) (x := (nI 3)) (by decide)).trans ((fg_u2ne (f := (fg_u2 (fg_u2 (fg_u2 μ 255 14 (-1)) 255 12 (nI 0)) 255 13 (-1))) (a := 255) (k := 14) (b := 270) (j := 0) (x := (-1)) (by decide)).trans ((fg_u2ne (f := (fg_u2 (fg_u2 μ 255 14 (-1)) 255 12 (nI 0))) (a := 255) (k := 13) (b := 270) (j := 0) (x := (-1)) (by decide)).trans ((fg_u2ne (f := (fg_u2 μ 255 14 (-1))) (a := 255) (k := 12) (b := 270) (j := 0) (x := (nI 0)) (by decide)).trans ((fg_u2ne (f := μ) (a := 255) (k := 14) (b := 270) (j := 0) (x := (-1)) (by decide)).trans hw0))))))) (((fg_u2ne (f := (fg_u2 (fg_u2 (fg_u2 (fg_u2 (fg_u2 μ 255 14 (-1)) 255 12 (nI 0)) 255 13 (-1)) 255 14 (-1)) 255 2 (nI 3))) (a := 255) (k := 3) (b := 270) (j := 2) (x := (nI s)) (by decide)).trans ((fg_u2ne (f := (fg_u2 (fg_u2 (fg_u2 (fg_u2 μ 255 14 (-1)) 255 12 (nI 0)) 255 13 (-1)) 255 14 (-1))) (a := 255) (k := 2) (b := 270) (j := 2) (x := (nI 3)) (by decide)).trans ((fg_u2ne (f := (fg_u2 (fg_u2 (fg_u2 μ 255 14 (-1)) 255 12 (nI 0)) 255 13 (-1))) (a := 255) (k := 14) (b := 270) (j := 2) (x := (-1)) (by decide)).trans ((fg_u2ne (f := (fg_u2 (fg_u2 μ 255 14 (-1)) 255 12 (nI 0))) (a := 255) (k := 13) (b := 270) (j := 2) (x := (-1)) (by decide)).trans ((fg_u2ne (f := (fg_u2 μ 255 14 (-1))) (a := 255) (k := 12) (b := 270) (j := 2) (x := (nI 0)) (by decide)).trans ((fg_u2ne (f := μ) (a := 255) (k := 14) (b := 270) (j := 2) (x := (-1)) (by decide)).trans hs2))))))) (by omega) (by decide) (by omega) (fun h => h.1 (by decide)) ?_)
      exact fg_vret (fg_ft (pc := 95) tb_Reader_openRow 51 rfl) rfl rfl (hN hroom _ (fun a j h => ((fg_u2nx (by omega)).trans ((fg_u2nx (by omega)).trans ((fg_u2nx (by omega)).trans ((fg_u2nx (by omega)).trans ((fg_u2nx (by omega)).trans ((fg_u2nx (by omega)).trans rfl))))))) (fun _ => ⟨(fg_u2ns (by decide)).trans fg_u2eq, fg_u2eq⟩) (fun h => absurd cF h))
    · refine fg_aloadn (fg_ft (pc := 69) tb_Reader_openRow 37 rfl) rfl ?_
      refine fg_iconst (fg_ft (pc := 70) tb_Reader_openRow 38 rfl) ic_3 ?_
      refine fg_callV (fg_ft (pc := 71) tb_Reader_openRow 39 rfl) cf_Reader_192 (fg_isOf ly_255 rfl (fg_lt ly_255 (by decide))) (as := [.int (nI 3)]) (st := []) rfl rfl (Nat.le_of_ble_eq_true rfl) (Nat.le_refl _) (Nat.le_refl _) (ev_Reader_noteFault1 (F := F) (((fg_u2ns (f := (fg_u2 (fg_u2 (fg_u2 μ 255 14 (-1)) 255 12 (nI 0)) 255 13 (-1))) (a := 255) (k := 14) (b := 255) (j := 2) (x := (-1)) (by decide)).trans ((fg_u2ns (f := (fg_u2 (fg_u2 μ 255 14 (-1)) 255 12 (nI 0))) (a := 255) (k := 13) (b := 255) (j := 2) (x := (-1)) (by decide)).trans ((fg_u2ns (f := (fg_u2 μ 255 14 (-1))) (a := 255) (k := 12) (b := 255) (j := 2) (x := (nI 0)) (by decide)).trans ((fg_u2ns (f := μ) (a := 255) (k := 14) (b := 255) (j := 2) (x := (-1)) (by decide)).trans hF))))) hF5 cF ?_)
      refine fg_aloadn (fg_ft (pc := 74) tb_Reader_openRow 40 rfl) rfl ?_
      refine fg_callV (fg_ft (pc := 75) tb_Reader_openRow 41 rfl) cf_Reader_117 (Or.inr (pz_isW (w := 13) (by decide))) (as := []) (st := []) rfl rfl (Nat.le_of_ble_eq_true rfl) (Nat.le_refl _) (Nat.le_refl _) (ev_Word_sort_13 ?_)
      refine fg_iconst (fg_ft (pc := 78) tb_Reader_openRow 42 rfl) ic_1 ?_
      refine fg_icmp_neN (tgt := 95) (fg_ft (pc := 79) tb_Reader_openRow 43 rfl) (by decide) (by decide) (by decide) (fun c79 => (absurd rfl c79)) (fun c79 => ?_)
      refine fg_aloadn (fg_ft (pc := 82) tb_Reader_openRow 44 rfl) rfl ?_
      refine fg_aloadn (fg_ft (pc := 83) tb_Reader_openRow 45 rfl) rfl ?_
      refine fg_getV (v := (-1)) (fg_ft (pc := 84) tb_Reader_openRow 46 rfl) ff_Reader_180 ly_255 rfl (fg_lt ly_255 (by decide)) (show (fg_u2 (fg_u2 (fg_u2 (fg_u2 μ 255 14 (-1)) 255 12 (nI 0)) 255 13 (-1)) 255 14 (-1)) 255 14 = -1 from fg_u2eq) ?_
      refine fg_iconst (fg_ft (pc := 87) tb_Reader_openRow 47 rfl) ic_0 ?_
      refine fg_aloadn (fg_ft (pc := 88) tb_Reader_openRow 48 rfl) rfl ?_
      refine fg_getK (fg_ft (pc := 89) tb_Reader_openRow 49 rfl) fk_Reader_196_13 ?_
      refine fg_callV (fg_ft (pc := 92) tb_Reader_openRow 50 rfl) cf_Reader_199 (fg_isOf ly_270 rfl (fg_lt ly_270 (by decide))) (as := [.int (-1), .int (nI 0), .int (nI 3)]) (st := []) rfl rfl (Nat.le_of_ble_eq_true rfl) (Nat.le_refl _) (Nat.le_refl _) (ev_Rows_putOut (r := 270) (c := 271) (n := 120) (w := 4) (sz := sz) ⟨ly_270, rh_270_1 R, ly_271⟩ (((fg_u2ne (f := (fg_u2 (fg_u2 (fg_u2 μ 255 14 (-1)) 255 12 (nI 0)) 255 13 (-1))) (a := 255) (k := 14) (b := 270) (j := 0) (x := (-1)) (by decide)).trans ((fg_u2ne (f := (fg_u2 (fg_u2 μ 255 14 (-1)) 255 12 (nI 0))) (a := 255) (k := 13) (b := 270) (j := 0) (x := (-1)) (by decide)).trans ((fg_u2ne (f := (fg_u2 μ 255 14 (-1))) (a := 255) (k := 12) (b := 270) (j := 0) (x := (nI 0)) (by decide)).trans ((fg_u2ne (f := μ) (a := 255) (k := 14) (b := 270) (j := 0) (x := (-1)) (by decide)).trans hw0))))) (((fg_u2ne (f := (fg_u2 (fg_u2 (fg_u2 μ 255 14 (-1)) 255 12 (nI 0)) 255 13 (-1))) (a := 255) (k := 14) (b := 270) (j := 2) (x := (-1)) (by decide)).trans ((fg_u2ne (f := (fg_u2 (fg_u2 μ 255 14 (-1)) 255 12 (nI 0))) (a := 255) (k := 13) (b := 270) (j := 2) (x := (-1)) (by decide)).trans ((fg_u2ne (f := (fg_u2 μ 255 14 (-1))) (a := 255) (k := 12) (b := 270) (j := 2) (x := (nI 0)) (by decide)).trans ((fg_u2ne (f := μ) (a := 255) (k := 14) (b := 270) (j := 2) (x := (-1)) (by decide)).trans hs2))))) (by omega) (by decide) (by omega) (fun h => h.1 (by decide)) ?_)
      exact fg_vret (fg_ft (pc := 95) tb_Reader_openRow 51 rfl) rfl rfl (hN hroom _ (fun a j h => ((fg_u2nx (by omega)).trans ((fg_u2nx (by omega)).trans ((fg_u2nx (by omega)).trans ((fg_u2nx (by omega)).trans rfl))))) (fun h => absurd h cF) (fun _ => ⟨((fg_u2nx (by decide)).trans ((fg_u2nx (by decide)).trans ((fg_u2nx (by decide)).trans ((fg_u2nx (by decide)).trans rfl)))), ((fg_u2nx (by decide)).trans ((fg_u2nx (by decide)).trans ((fg_u2nx (by decide)).trans ((fg_u2nx (by decide)).trans rfl))))⟩))
theorem fk_Reader_196_14 : fg_KF "ForgetBread$Reader" 196 14 (.int (nI 4)) := ⟨_, List.mem_of_getElem? (l := fg_ofld) (i := 84) rfl, rfl, rfl, fg_tblIn 1728 (by decide +kernel) (by decide +kernel)⟩
theorem ev_Reader_openRow_14 {E : fg_E} {d : Nat} {μ : Nat → Nat → Int32} {R : fg_T4} {Q : Option Value → fg_M → Prop} {sz F s : Nat} (h9 : μ 255 9 = nI s) (hF : μ 255 2 = nI F) (hF5 : F < 5) (hw0 : μ 270 0 = nI 4) (hs2 : μ 270 2 = nI sz) (hsz : sz ≤ 30) (hR : sz < pz_mx (pz_rt 14) → ∀ μ' : Nat → Nat → Int32, (∀ a j, a ≠ pz_rc (pz_rt 14) → (a ≠ pz_ro (pz_rt 14) ∨ j ≠ 2) → (a ≠ 255 ∨ (j ≠ 12 ∧ j ≠ 13 ∧ j ≠ 14)) → μ' a j = μ a j) → μ' (pz_ro (pz_rt 14)) 2 = nI (sz + 1) → (∀ i, i < pz_wi (pz_rt 14) → μ' (pz_rc (pz_rt 14)) (sz * pz_wi (pz_rt 14) + i) = nI (if 14 < 10 then 0 else if i = 0 then 14 - 10 else 4294967295)) → (∀ i, i < sz * pz_wi (pz_rt 14) → μ' (pz_rc (pz_rt 14)) i = μ (pz_rc (pz_rt 14)) i) → μ' 255 14 = nI sz → μ' 255 12 = nI 0 → μ' 255 13 = -1 → Q none (μ', fg_rho R, 304)) (hN : ¬ sz < pz_mx (pz_rt 14) → ∀ μ' : Nat → Nat → Int32, (∀ a j, (a ≠ 255 ∨ (j ≠ 2 ∧ j ≠ 3 ∧ j ≠ 12 ∧ j ≠ 13 ∧ j ≠ 14)) → μ' a j = μ a j) → (F = 0 → μ' 255 2 = nI 3 ∧ μ' 255 3 = nI s) → (¬ F = 0 → μ' 255 2 = μ 255 2 ∧ μ' 255 3 = μ 255 3) → Q none (μ', fg_rho R, 304)) : fg_Ev E yy_Reader_openRow (d + 5) [.ref 255, .ref 14] (μ, fg_rho R, 304) 304 Q := by
  refine fg_intro (by decide +kernel) (Nat.le_of_ble_eq_true rfl) (fg_okAs rfl) (Nat.le_refl _) ?_
  by_cases hroom : sz < 30
  · refine fg_aloadn (fg_ft (pc := 0) tb_Reader_openRow 0 rfl) rfl ?_
    refine fg_aloadn (fg_ft (pc := 1) tb_Reader_openRow 1 rfl) rfl ?_
    refine fg_callV (fg_ft (pc := 2) tb_Reader_openRow 2 rfl) cf_Reader_176 (fg_isOf ly_255 rfl (fg_lt ly_255 (by decide))) (as := [.ref 14]) (st := []) rfl rfl (Nat.le_of_ble_eq_true rfl) (Nat.le_refl _) (Nat.le_refl _) (ev_Reader_rowsOf_14 ?_)
    refine fg_astoren (fg_ft (pc := 5) tb_Reader_openRow 3 rfl) (Nat.le_of_ble_eq_true rfl) ?_
    refine fg_aloadn (fg_ft (pc := 6) tb_Reader_openRow 4 rfl) rfl ?_
    refine fg_iconst (fg_ft (pc := 7) tb_Reader_openRow 5 rfl) ic_m1 ?_
    refine fg_putI (fg_ft (pc := 8) tb_Reader_openRow 6 rfl) ff_Reader_180 ly_255 rfl (fg_lt ly_255 (by decide)) (fg_nokI _) (fun _ _ h => by cases h; rfl) ?_
    show fg_wp _ _ _ _ _ _ _ _ _ (fg_u2 μ 255 14 (-1), fg_rho R, 304)
    refine fg_aloadn (fg_ft (pc := 11) tb_Reader_openRow 7 rfl) rfl ?_
    refine fg_iconst (fg_ft (pc := 12) tb_Reader_openRow 8 rfl) ic_0 ?_
    refine fg_putI (fg_ft (pc := 13) tb_Reader_openRow 9 rfl) ff_Reader_183 ly_255 rfl (fg_lt ly_255 (by decide)) (fg_nokI _) (fun _ _ h => by cases h; rfl) ?_
    show fg_wp _ _ _ _ _ _ _ _ _ (fg_u2 (fg_u2 μ 255 14 (-1)) 255 12 (nI 0), fg_rho R, 304)
    refine fg_aloadn (fg_ft (pc := 16) tb_Reader_openRow 10 rfl) rfl ?_
    refine fg_iconst (fg_ft (pc := 17) tb_Reader_openRow 11 rfl) ic_m1 ?_
    refine fg_putI (fg_ft (pc := 18) tb_Reader_openRow 12 rfl) ff_Reader_186 ly_255 rfl (fg_lt ly_255 (by decide)) (fg_nokI _) (fun _ _ h => by cases h; rfl) ?_
    show fg_wp _ _ _ _ _ _ _ _ _ (fg_u2 (fg_u2 (fg_u2 μ 255 14 (-1)) 255 12 (nI 0)) 255 13 (-1), fg_rho R, 304)
    refine fg_aloadn (fg_ft (pc := 21) tb_Reader_openRow 13 rfl) rfl ?_
    refine fg_ifnull_r (fg_ft (pc := 22) tb_Reader_openRow 14 rfl) ?_
    refine fg_aloadn (fg_ft (pc := 25) tb_Reader_openRow 15 rfl) rfl ?_
    refine fg_gets (fg_ft (pc := 26) tb_Reader_openRow 16 rfl) fs_Reader_143 ?_
    refine fg_acmp_eq (tgt := 39) (fg_ft (pc := 29) tb_Reader_openRow 17 rfl) (by decide) (by decide) (by decide) (fun h => absurd h (by decide)) (fun _ => ?_)
    refine fg_aloadn (fg_ft (pc := 32) tb_Reader_openRow 18 rfl) rfl ?_
    refine fg_gets (fg_ft (pc := 33) tb_Reader_openRow 19 rfl) fs_Reader_146 ?_
    refine fg_acmp_ne (tgt := 40) (fg_ft (pc := 36) tb_Reader_openRow 20 rfl) (by decide) (by decide) (by decide) (fun _ => ?_) (fun h => absurd h (by decide))
    refine fg_aloadn (fg_ft (pc := 40) tb_Reader_openRow 22 rfl) rfl ?_
    refine fg_aloadn (fg_ft (pc := 41) tb_Reader_openRow 23 rfl) rfl ?_
    refine fg_aloadn (fg_ft (pc := 42) tb_Reader_openRow 24 rfl) rfl ?_
    refine fg_callV (fg_ft (pc := 43) tb_Reader_openRow 25 rfl) cf_Reader_117 (Or.inr (pz_isW (w := 14) (by decide))) (as := []) (st := [.ref 270, .ref 255]) rfl rfl (Nat.le_of_ble_eq_true rfl) (Nat.le_refl _) (Nat.le_refl _) (ev_Word_sort_14 ?_)
    refine fg_iconst (fg_ft (pc := 46) tb_Reader_openRow 26 rfl) ic_1 ?_
    refine fg_icmp_neN (tgt := 54) (fg_ft (pc := 47) tb_Reader_openRow 27 rfl) (by decide) (by decide) (by decide) (fun c47 => (absurd rfl c47)) (fun c47 => ?_)
    refine fg_iconst (fg_ft (pc := 50) tb_Reader_openRow 28 rfl) ic_m1 ?_
    refine fg_goto (tgt := 55) (fg_ft (pc := 51) tb_Reader_openRow 29 rfl) (by decide) ?_
    refine fg_callV (fg_ft (pc := 55) tb_Reader_openRow 31 rfl) cf_Reader_189 (fg_isOf ly_270 rfl (fg_lt ly_270 (by decide))) (as := [.int (-1)]) (st := [.ref 255]) rfl rfl (Nat.le_of_ble_eq_true rfl) (Nat.le_refl _) (Nat.le_refl _) (ev_Rows_add (r := 270) (c := 271) (n := 120) (w := 4) (sz := sz) (x := (-1)) ⟨ly_270, rh_270_1 R, ly_271⟩ (by decide) (((fg_u2ne (f := (fg_u2 (fg_u2 μ 255 14 (-1)) 255 12 (nI 0))) (a := 255) (k := 13) (b := 270) (j := 0) (x := (-1)) (by decide)).trans ((fg_u2ne (f := (fg_u2 μ 255 14 (-1))) (a := 255) (k := 12) (b := 270) (j := 0) (x := (nI 0)) (by decide)).trans ((fg_u2ne (f := μ) (a := 255) (k := 14) (b := 270) (j := 0) (x := (-1)) (by decide)).trans hw0)))) (((fg_u2ne (f := (fg_u2 (fg_u2 μ 255 14 (-1)) 255 12 (nI 0))) (a := 255) (k := 13) (b := 270) (j := 2) (x := (-1)) (by decide)).trans ((fg_u2ne (f := (fg_u2 μ 255 14 (-1))) (a := 255) (k := 12) (b := 270) (j := 2) (x := (nI 0)) (by decide)).trans ((fg_u2ne (f := μ) (a := 255) (k := 14) (b := 270) (j := 2) (x := (-1)) (by decide)).trans hs2)))) (by omega) (by decide) (by omega) (by omega) (by omega) ?_)
    intro ν hfr hN2 hnew hold
    show fg_wp _ _ _ _ _ _ _ _ _ (ν, fg_rho R, 304)
    refine fg_putI (fg_ft (pc := 58) tb_Reader_openRow 32 rfl) ff_Reader_180 ly_255 rfl (fg_lt ly_255 (by decide)) (fg_nokI _) (fun _ _ h => by cases h; rfl) ?_
    show fg_wp _ _ _ _ _ _ _ _ _ (fg_u2 ν 255 14 (nI sz), fg_rho R, 304)
    refine fg_aloadn (fg_ft (pc := 61) tb_Reader_openRow 33 rfl) rfl ?_
    refine fg_getV (v := (nI sz)) (fg_ft (pc := 62) tb_Reader_openRow 34 rfl) ff_Reader_180 ly_255 rfl (fg_lt ly_255 (by decide)) (show (fg_u2 ν 255 14 (nI sz)) 255 14 = nI sz from fg_u2eq) ?_
    refine fg_iconst (fg_ft (pc := 65) tb_Reader_openRow 35 rfl) ic_m1 ?_
    refine fg_icmp_neM (tgt := 74) (fg_ft (pc := 66) tb_Reader_openRow 36 rfl) (by decide) (Nat.lt_trans (show _ < 2 ^ 31 from by omega) (by decide)) (fun c66 => ?_) (fun c66 => (absurd c66 (by omega)))
    refine fg_aloadn (fg_ft (pc := 74) tb_Reader_openRow 40 rfl) rfl ?_
    refine fg_callV (fg_ft (pc := 75) tb_Reader_openRow 41 rfl) cf_Reader_117 (Or.inr (pz_isW (w := 14) (by decide))) (as := []) (st := []) rfl rfl (Nat.le_of_ble_eq_true rfl) (Nat.le_refl _) (Nat.le_refl _) (ev_Word_sort_14 ?_)
    refine fg_iconst (fg_ft (pc := 78) tb_Reader_openRow 42 rfl) ic_1 ?_
    refine fg_icmp_neN (tgt := 95) (fg_ft (pc := 79) tb_Reader_openRow 43 rfl) (by decide) (by decide) (by decide) (fun c79 => (absurd rfl c79)) (fun c79 => ?_)
    refine fg_aloadn (fg_ft (pc := 82) tb_Reader_openRow 44 rfl) rfl ?_
    refine fg_aloadn (fg_ft (pc := 83) tb_Reader_openRow 45 rfl) rfl ?_
    refine fg_getV (v := (nI sz)) (fg_ft (pc := 84) tb_Reader_openRow 46 rfl) ff_Reader_180 ly_255 rfl (fg_lt ly_255 (by decide)) (show (fg_u2 ν 255 14 (nI sz)) 255 14 = nI sz from fg_u2eq) ?_
    refine fg_iconst (fg_ft (pc := 87) tb_Reader_openRow 47 rfl) ic_0 ?_
    refine fg_aloadn (fg_ft (pc := 88) tb_Reader_openRow 48 rfl) rfl ?_
    refine fg_getK (fg_ft (pc := 89) tb_Reader_openRow 49 rfl) fk_Reader_196_14 ?_
    refine fg_callV (fg_ft (pc := 92) tb_Reader_openRow 50 rfl) cf_Reader_199 (fg_isOf ly_270 rfl (fg_lt ly_270 (by decide))) (as := [.int (nI sz), .int (nI 0), .int (nI 4)]) (st := []) rfl rfl (Nat.le_of_ble_eq_true rfl) (Nat.le_refl _) (Nat.le_refl _) (ev_Rows_put (r := 270) (c := 271) (n := 120) (w := 4) (sz := sz + 1) (i := sz) (j := 0) ⟨ly_270, rh_270_1 R, ly_271⟩ (((fg_u2ne (f := ν) (a := 255) (k := 14) (b := 270) (j := 0) (x := (nI sz)) (by decide)).trans ((hfr 270 0 (by decide) (Or.inr (by decide))).trans (((fg_u2ne (f := (fg_u2 (fg_u2 μ 255 14 (-1)) 255 12 (nI 0))) (a := 255) (k := 13) (b := 270) (j := 0) (x := (-1)) (by decide)).trans ((fg_u2ne (f := (fg_u2 μ 255 14 (-1))) (a := 255) (k := 12) (b := 270) (j := 0) (x := (nI 0)) (by decide)).trans ((fg_u2ne (f := μ) (a := 255) (k := 14) (b := 270) (j := 0) (x := (-1)) (by decide)).trans hw0))))))) (((fg_u2ne (f := ν) (a := 255) (k := 14) (b := 270) (j := 2) (x := (nI sz)) (by decide)).trans hN2)) (by omega) (by decide) (by omega) (by omega) (by decide) ?_)
    show fg_wp _ _ _ _ _ _ _ _ _ (fg_u2 (fg_u2 ν 255 14 (nI sz)) 271 (sz * 4 + 0) (nI 4), fg_rho R, 304)
    exact fg_vret (fg_ft (pc := 95) tb_Reader_openRow 51 rfl) rfl rfl (hR hroom _ (fun a j g1 g2 g3 => (fg_u2ne g1).trans ((fg_u2nx (by omega)).trans ((hfr a j g1 g2).trans ((fg_u2nx (by omega)).trans ((fg_u2nx (by omega)).trans (fg_u2nx (by omega))))))) ((fg_u2ne (by decide)).trans ((fg_u2ne (by decide)).trans hN2)) (fun i hi => by
        rcases Nat.decEq i 0 with q | q
        · refine (fg_u2ns (show ¬ sz * 4 + i = sz * 4 + 0 by omega)).trans ((fg_u2ne (by decide)).trans ((hnew i hi).trans ?_))
          rw [if_neg (by decide), if_neg q]; rfl
        · rw [q]; exact fg_u2eq) (fun i hi => (fg_u2ns (show ¬ i = sz * 4 + 0 from by have hi4 : i < sz * 4 := hi; omega)).trans ((fg_u2ne (by decide)).trans ((hold i hi).trans ((fg_u2ne (by decide)).trans ((fg_u2ne (by decide)).trans (fg_u2ne (by decide))))))) ((fg_u2nx (by omega)).trans fg_u2eq) ((fg_u2nx (by omega)).trans ((fg_u2nx (by omega)).trans ((hfr 255 12 (by decide) (Or.inl (by decide))).trans ((fg_u2ns (by decide)).trans fg_u2eq)))) ((fg_u2nx (by omega)).trans ((fg_u2nx (by omega)).trans ((hfr 255 13 (by decide) (Or.inl (by decide))).trans fg_u2eq))))
  · refine fg_aloadn (fg_ft (pc := 0) tb_Reader_openRow 0 rfl) rfl ?_
    refine fg_aloadn (fg_ft (pc := 1) tb_Reader_openRow 1 rfl) rfl ?_
    refine fg_callV (fg_ft (pc := 2) tb_Reader_openRow 2 rfl) cf_Reader_176 (fg_isOf ly_255 rfl (fg_lt ly_255 (by decide))) (as := [.ref 14]) (st := []) rfl rfl (Nat.le_of_ble_eq_true rfl) (Nat.le_refl _) (Nat.le_refl _) (ev_Reader_rowsOf_14 ?_)
    refine fg_astoren (fg_ft (pc := 5) tb_Reader_openRow 3 rfl) (Nat.le_of_ble_eq_true rfl) ?_
    refine fg_aloadn (fg_ft (pc := 6) tb_Reader_openRow 4 rfl) rfl ?_
    refine fg_iconst (fg_ft (pc := 7) tb_Reader_openRow 5 rfl) ic_m1 ?_
    refine fg_putI (fg_ft (pc := 8) tb_Reader_openRow 6 rfl) ff_Reader_180 ly_255 rfl (fg_lt ly_255 (by decide)) (fg_nokI _) (fun _ _ h => by cases h; rfl) ?_
    show fg_wp _ _ _ _ _ _ _ _ _ (fg_u2 μ 255 14 (-1), fg_rho R, 304)
    refine fg_aloadn (fg_ft (pc := 11) tb_Reader_openRow 7 rfl) rfl ?_
    refine fg_iconst (fg_ft (pc := 12) tb_Reader_openRow 8 rfl) ic_0 ?_
    refine fg_putI (fg_ft (pc := 13) tb_Reader_openRow 9 rfl) ff_Reader_183 ly_255 rfl (fg_lt ly_255 (by decide)) (fg_nokI _) (fun _ _ h => by cases h; rfl) ?_
    show fg_wp _ _ _ _ _ _ _ _ _ (fg_u2 (fg_u2 μ 255 14 (-1)) 255 12 (nI 0), fg_rho R, 304)
    refine fg_aloadn (fg_ft (pc := 16) tb_Reader_openRow 10 rfl) rfl ?_
    refine fg_iconst (fg_ft (pc := 17) tb_Reader_openRow 11 rfl) ic_m1 ?_
    refine fg_putI (fg_ft (pc := 18) tb_Reader_openRow 12 rfl) ff_Reader_186 ly_255 rfl (fg_lt ly_255 (by decide)) (fg_nokI _) (fun _ _ h => by cases h; rfl) ?_
    show fg_wp _ _ _ _ _ _ _ _ _ (fg_u2 (fg_u2 (fg_u2 μ 255 14 (-1)) 255 12 (nI 0)) 255 13 (-1), fg_rho R, 304)
    refine fg_aloadn (fg_ft (pc := 21) tb_Reader_openRow 13 rfl) rfl ?_
    refine fg_ifnull_r (fg_ft (pc := 22) tb_Reader_openRow 14 rfl) ?_
    refine fg_aloadn (fg_ft (pc := 25) tb_Reader_openRow 15 rfl) rfl ?_
    refine fg_gets (fg_ft (pc := 26) tb_Reader_openRow 16 rfl) fs_Reader_143 ?_
    refine fg_acmp_eq (tgt := 39) (fg_ft (pc := 29) tb_Reader_openRow 17 rfl) (by decide) (by decide) (by decide) (fun h => absurd h (by decide)) (fun _ => ?_)
    refine fg_aloadn (fg_ft (pc := 32) tb_Reader_openRow 18 rfl) rfl ?_
    refine fg_gets (fg_ft (pc := 33) tb_Reader_openRow 19 rfl) fs_Reader_146 ?_
    refine fg_acmp_ne (tgt := 40) (fg_ft (pc := 36) tb_Reader_openRow 20 rfl) (by decide) (by decide) (by decide) (fun _ => ?_) (fun h => absurd h (by decide))
    refine fg_aloadn (fg_ft (pc := 40) tb_Reader_openRow 22 rfl) rfl ?_
    refine fg_aloadn (fg_ft (pc := 41) tb_Reader_openRow 23 rfl) rfl ?_
    refine fg_aloadn (fg_ft (pc := 42) tb_Reader_openRow 24 rfl) rfl ?_
    refine fg_callV (fg_ft (pc := 43) tb_Reader_openRow 25 rfl) cf_Reader_117 (Or.inr (pz_isW (w := 14) (by decide))) (as := []) (st := [.ref 270, .ref 255]) rfl rfl (Nat.le_of_ble_eq_true rfl) (Nat.le_refl _) (Nat.le_refl _) (ev_Word_sort_14 ?_)
    refine fg_iconst (fg_ft (pc := 46) tb_Reader_openRow 26 rfl) ic_1 ?_
    refine fg_icmp_neN (tgt := 54) (fg_ft (pc := 47) tb_Reader_openRow 27 rfl) (by decide) (by decide) (by decide) (fun c47 => (absurd rfl c47)) (fun c47 => ?_)
    refine fg_iconst (fg_ft (pc := 50) tb_Reader_openRow 28 rfl) ic_m1 ?_
    refine fg_goto (tgt := 55) (fg_ft (pc := 51) tb_Reader_openRow 29 rfl) (by decide) ?_
    refine fg_callV (fg_ft (pc := 55) tb_Reader_openRow 31 rfl) cf_Reader_189 (fg_isOf ly_270 rfl (fg_lt ly_270 (by decide))) (as := [.int (-1)]) (st := [.ref 255]) rfl rfl (Nat.le_of_ble_eq_true rfl) (Nat.le_refl _) (Nat.le_refl _) (ev_Rows_addFull (r := 270) (c := 271) (n := 120) (w := 4) (sz := sz) ⟨ly_270, rh_270_1 R, ly_271⟩ (by decide) (((fg_u2ne (f := (fg_u2 (fg_u2 μ 255 14 (-1)) 255 12 (nI 0))) (a := 255) (k := 13) (b := 270) (j := 0) (x := (-1)) (by decide)).trans ((fg_u2ne (f := (fg_u2 μ 255 14 (-1))) (a := 255) (k := 12) (b := 270) (j := 0) (x := (nI 0)) (by decide)).trans ((fg_u2ne (f := μ) (a := 255) (k := 14) (b := 270) (j := 0) (x := (-1)) (by decide)).trans hw0)))) (((fg_u2ne (f := (fg_u2 (fg_u2 μ 255 14 (-1)) 255 12 (nI 0))) (a := 255) (k := 13) (b := 270) (j := 2) (x := (-1)) (by decide)).trans ((fg_u2ne (f := (fg_u2 μ 255 14 (-1))) (a := 255) (k := 12) (b := 270) (j := 2) (x := (nI 0)) (by decide)).trans ((fg_u2ne (f := μ) (a := 255) (k := 14) (b := 270) (j := 2) (x := (-1)) (by decide)).trans hs2)))) (by omega) (by decide) (by omega) (by omega) (by omega) ?_)
    refine fg_putI (fg_ft (pc := 58) tb_Reader_openRow 32 rfl) ff_Reader_180 ly_255 rfl (fg_lt ly_255 (by decide)) (fg_nokI _) (fun _ _ h => by cases h; rfl) ?_
    show fg_wp _ _ _ _ _ _ _ _ _ (fg_u2 (fg_u2 (fg_u2 (fg_u2 μ 255 14 (-1)) 255 12 (nI 0)) 255 13 (-1)) 255 14 (-1), fg_rho R, 304)
    refine fg_aloadn (fg_ft (pc := 61) tb_Reader_openRow 33 rfl) rfl ?_
    refine fg_getV (v := (-1)) (fg_ft (pc := 62) tb_Reader_openRow 34 rfl) ff_Reader_180 ly_255 rfl (fg_lt ly_255 (by decide)) (show (fg_u2 (fg_u2 (fg_u2 (fg_u2 μ 255 14 (-1)) 255 12 (nI 0)) 255 13 (-1)) 255 14 (-1)) 255 14 = -1 from fg_u2eq) ?_
    refine fg_iconst (fg_ft (pc := 65) tb_Reader_openRow 35 rfl) ic_m1 ?_
    refine fg_icmp_ne (tgt := 74) (fg_ft (pc := 66) tb_Reader_openRow 36 rfl) (by decide) (fun c66 => (absurd rfl c66)) (fun c66 => ?_)
    by_cases cF : F = 0
    · refine fg_aloadn (fg_ft (pc := 69) tb_Reader_openRow 37 rfl) rfl ?_
      refine fg_iconst (fg_ft (pc := 70) tb_Reader_openRow 38 rfl) ic_3 ?_
      refine fg_callV (fg_ft (pc := 71) tb_Reader_openRow 39 rfl) cf_Reader_192 (fg_isOf ly_255 rfl (fg_lt ly_255 (by decide))) (as := [.int (nI 3)]) (st := []) rfl rfl (Nat.le_of_ble_eq_true rfl) (Nat.le_refl _) (Nat.le_refl _) (ev_Reader_noteFault0 (s := s) (((fg_u2ns (f := (fg_u2 (fg_u2 (fg_u2 μ 255 14 (-1)) 255 12 (nI 0)) 255 13 (-1))) (a := 255) (k := 14) (b := 255) (j := 2) (x := (-1)) (by decide)).trans ((fg_u2ns (f := (fg_u2 (fg_u2 μ 255 14 (-1)) 255 12 (nI 0))) (a := 255) (k := 13) (b := 255) (j := 2) (x := (-1)) (by decide)).trans ((fg_u2ns (f := (fg_u2 μ 255 14 (-1))) (a := 255) (k := 12) (b := 255) (j := 2) (x := (nI 0)) (by decide)).trans ((fg_u2ns (f := μ) (a := 255) (k := 14) (b := 255) (j := 2) (x := (-1)) (by decide)).trans (hF.trans (congrArg nI cF))))))) (((fg_u2ns (f := (fg_u2 (fg_u2 (fg_u2 μ 255 14 (-1)) 255 12 (nI 0)) 255 13 (-1))) (a := 255) (k := 14) (b := 255) (j := 9) (x := (-1)) (by decide)).trans ((fg_u2ns (f := (fg_u2 (fg_u2 μ 255 14 (-1)) 255 12 (nI 0))) (a := 255) (k := 13) (b := 255) (j := 9) (x := (-1)) (by decide)).trans ((fg_u2ns (f := (fg_u2 μ 255 14 (-1))) (a := 255) (k := 12) (b := 255) (j := 9) (x := (nI 0)) (by decide)).trans ((fg_u2ns (f := μ) (a := 255) (k := 14) (b := 255) (j := 9) (x := (-1)) (by decide)).trans h9))))) ?_)
      show fg_wp _ _ _ _ _ _ _ _ _ (fg_u2 (fg_u2 (fg_u2 (fg_u2 (fg_u2 (fg_u2 μ 255 14 (-1)) 255 12 (nI 0)) 255 13 (-1)) 255 14 (-1)) 255 2 (nI 3)) 255 3 (nI s), fg_rho R, 304)
      refine fg_aloadn (fg_ft (pc := 74) tb_Reader_openRow 40 rfl) rfl ?_
      refine fg_callV (fg_ft (pc := 75) tb_Reader_openRow 41 rfl) cf_Reader_117 (Or.inr (pz_isW (w := 14) (by decide))) (as := []) (st := []) rfl rfl (Nat.le_of_ble_eq_true rfl) (Nat.le_refl _) (Nat.le_refl _) (ev_Word_sort_14 ?_)
      refine fg_iconst (fg_ft (pc := 78) tb_Reader_openRow 42 rfl) ic_1 ?_
      refine fg_icmp_neN (tgt := 95) (fg_ft (pc := 79) tb_Reader_openRow 43 rfl) (by decide) (by decide) (by decide) (fun c79 => (absurd rfl c79)) (fun c79 => ?_)
      refine fg_aloadn (fg_ft (pc := 82) tb_Reader_openRow 44 rfl) rfl ?_
      refine fg_aloadn (fg_ft (pc := 83) tb_Reader_openRow 45 rfl) rfl ?_
      refine fg_getV (v := (-1)) (fg_ft (pc := 84) tb_Reader_openRow 46 rfl) ff_Reader_180 ly_255 rfl (fg_lt ly_255 (by decide)) (show (fg_u2 (fg_u2 (fg_u2 (fg_u2 (fg_u2 (fg_u2 μ 255 14 (-1)) 255 12 (nI 0)) 255 13 (-1)) 255 14 (-1)) 255 2 (nI 3)) 255 3 (nI s)) 255 14 = -1 from ((fg_u2nx (by decide)).trans ((fg_u2nx (by decide)).trans fg_u2eq))) ?_
      refine fg_iconst (fg_ft (pc := 87) tb_Reader_openRow 47 rfl) ic_0 ?_
      refine fg_aloadn (fg_ft (pc := 88) tb_Reader_openRow 48 rfl) rfl ?_
      refine fg_getK (fg_ft (pc := 89) tb_Reader_openRow 49 rfl) fk_Reader_196_14 ?_
      refine fg_callV (fg_ft (pc := 92) tb_Reader_openRow 50 rfl) cf_Reader_199 (fg_isOf ly_270 rfl (fg_lt ly_270 (by decide))) (as := [.int (-1), .int (nI 0), .int (nI 4)]) (st := []) rfl rfl (Nat.le_of_ble_eq_true rfl) (Nat.le_refl _) (Nat.le_refl _) (ev_Rows_putOut (r := 270) (c := 271) (n := 120) (w := 4) (sz := sz) ⟨ly_270, rh_270_1 R, ly_271⟩ (((fg_u2ne (f := (fg_u2 (fg_u2 (fg_u2 (fg_u2 (fg_u2 μ 255 14 (-1)) 255 12 (nI 0)) 255 13 (-1)) 255 14 (-1)) 255 2 (nI 3))) (a := 255) (k := 3) (b := 270) (j := 0) (x := (nI s)) (by decide)).trans ((fg_u2ne (f := (fg_u2 (fg_u2 (fg_u2 (fg_u2 μ 255 14 (-1)) 255 12 (nI 0)) 255 13 (-1)) 255 14 (-1))) (a := 255) (k := 2) (b := 270) (j := 0) (x := (nI 3)) (by decide)).trans ((fg_u2ne (f := (fg_u2 (fg_u2 (fg_u2 μ 255 14 (-1)) 255 12 (nI 0)) 255 13 (-1))) (a := 255) (k := 14) (b := 270) (j := 0) (x := (-1)) (by decide)).trans ((fg_u2ne (f := (fg_u2 (fg_u2 μ 255 14 (-1)) 255 12 (nI 0))) (a := 255) (k := 13) (b := 270) (j := 0) (x := (-1)) (by decide)).trans ((fg_u2ne (f := (fg_u2 μ 255 14 (-1))) (a := 255) (k := 12) (b := 270) (j := 0) (x := (nI 0)) (by decide)).trans ((fg_u2ne (f := μ) (a := 255) (k := 14) (b := 270) (j := 0) (x := (-1)) (by decide)).trans hw0))))))) (((fg_u2ne (f := (fg_u2 (fg_u2 (fg_u2 (fg_u2 (fg_u2 μ 255 14 (-1)) 255 12 (nI 0)) 255 13 (-1)) 255 14 (-1)) 255 2 (nI 3))) (a := 255) (k := 3) (b := 270) (j := 2) (x := (nI s)) (by decide)).trans ((fg_u2ne (f := (fg_u2 (fg_u2 (fg_u2 (fg_u2 μ 255 14 (-1)) 255 12 (nI 0)) 255 13 (-1)) 255 14 (-1))) (a := 255) (k := 2) (b := 270) (j := 2) (x := (nI 3)) (by decide)).trans ((fg_u2ne (f := (fg_u2 (fg_u2 (fg_u2 μ 255 14 (-1)) 255 12 (nI 0)) 255 13 (-1))) (a := 255) (k := 14) (b := 270) (j := 2) (x := (-1)) (by decide)).trans ((fg_u2ne (f := (fg_u2 (fg_u2 μ 255 14 (-1)) 255 12 (nI 0))) (a := 255) (k := 13) (b := 270) (j := 2) (x := (-1)) (by decide)).trans ((fg_u2ne (f := (fg_u2 μ 255 14 (-1))) (a := 255) (k := 12) (b := 270) (j := 2) (x := (nI 0)) (by decide)).trans ((fg_u2ne (f := μ) (a := 255) (k := 14) (b := 270) (j := 2) (x := (-1)) (by decide)).trans hs2))))))) (by omega) (by decide) (by omega) (fun h => h.1 (by decide)) ?_)
      exact fg_vret (fg_ft (pc := 95) tb_Reader_openRow 51 rfl) rfl rfl (hN hroom _ (fun a j h => ((fg_u2nx (by omega)).trans ((fg_u2nx (by omega)).trans ((fg_u2nx (by omega)).trans ((fg_u2nx (by omega)).trans ((fg_u2nx (by omega)).trans ((fg_u2nx (by omega)).trans rfl))))))) (fun _ => ⟨(fg_u2ns (by decide)).trans fg_u2eq, fg_u2eq⟩) (fun h => absurd cF h))
    · refine fg_aloadn (fg_ft (pc := 69) tb_Reader_openRow 37 rfl) rfl ?_
      refine fg_iconst (fg_ft (pc := 70) tb_Reader_openRow 38 rfl) ic_3 ?_
      refine fg_callV (fg_ft (pc := 71) tb_Reader_openRow 39 rfl) cf_Reader_192 (fg_isOf ly_255 rfl (fg_lt ly_255 (by decide))) (as := [.int (nI 3)]) (st := []) rfl rfl (Nat.le_of_ble_eq_true rfl) (Nat.le_refl _) (Nat.le_refl _) (ev_Reader_noteFault1 (F := F) (((fg_u2ns (f := (fg_u2 (fg_u2 (fg_u2 μ 255 14 (-1)) 255 12 (nI 0)) 255 13 (-1))) (a := 255) (k := 14) (b := 255) (j := 2) (x := (-1)) (by decide)).trans ((fg_u2ns (f := (fg_u2 (fg_u2 μ 255 14 (-1)) 255 12 (nI 0))) (a := 255) (k := 13) (b := 255) (j := 2) (x := (-1)) (by decide)).trans ((fg_u2ns (f := (fg_u2 μ 255 14 (-1))) (a := 255) (k := 12) (b := 255) (j := 2) (x := (nI 0)) (by decide)).trans ((fg_u2ns (f := μ) (a := 255) (k := 14) (b := 255) (j := 2) (x := (-1)) (by decide)).trans hF))))) hF5 cF ?_)
      refine fg_aloadn (fg_ft (pc := 74) tb_Reader_openRow 40 rfl) rfl ?_
      refine fg_callV (fg_ft (pc := 75) tb_Reader_openRow 41 rfl) cf_Reader_117 (Or.inr (pz_isW (w := 14) (by decide))) (as := []) (st := []) rfl rfl (Nat.le_of_ble_eq_true rfl) (Nat.le_refl _) (Nat.le_refl _) (ev_Word_sort_14 ?_)
      refine fg_iconst (fg_ft (pc := 78) tb_Reader_openRow 42 rfl) ic_1 ?_
      refine fg_icmp_neN (tgt := 95) (fg_ft (pc := 79) tb_Reader_openRow 43 rfl) (by decide) (by decide) (by decide) (fun c79 => (absurd rfl c79)) (fun c79 => ?_)
      refine fg_aloadn (fg_ft (pc := 82) tb_Reader_openRow 44 rfl) rfl ?_
      refine fg_aloadn (fg_ft (pc := 83) tb_Reader_openRow 45 rfl) rfl ?_
      refine fg_getV (v := (-1)) (fg_ft (pc := 84) tb_Reader_openRow 46 rfl) ff_Reader_180 ly_255 rfl (fg_lt ly_255 (by decide)) (show (fg_u2 (fg_u2 (fg_u2 (fg_u2 μ 255 14 (-1)) 255 12 (nI 0)) 255 13 (-1)) 255 14 (-1)) 255 14 = -1 from fg_u2eq) ?_
      refine fg_iconst (fg_ft (pc := 87) tb_Reader_openRow 47 rfl) ic_0 ?_
      refine fg_aloadn (fg_ft (pc := 88) tb_Reader_openRow 48 rfl) rfl ?_
      refine fg_getK (fg_ft (pc := 89) tb_Reader_openRow 49 rfl) fk_Reader_196_14 ?_
      refine fg_callV (fg_ft (pc := 92) tb_Reader_openRow 50 rfl) cf_Reader_199 (fg_isOf ly_270 rfl (fg_lt ly_270 (by decide))) (as := [.int (-1), .int (nI 0), .int (nI 4)]) (st := []) rfl rfl (Nat.le_of_ble_eq_true rfl) (Nat.le_refl _) (Nat.le_refl _) (ev_Rows_putOut (r := 270) (c := 271) (n := 120) (w := 4) (sz := sz) ⟨ly_270, rh_270_1 R, ly_271⟩ (((fg_u2ne (f := (fg_u2 (fg_u2 (fg_u2 μ 255 14 (-1)) 255 12 (nI 0)) 255 13 (-1))) (a := 255) (k := 14) (b := 270) (j := 0) (x := (-1)) (by decide)).trans ((fg_u2ne (f := (fg_u2 (fg_u2 μ 255 14 (-1)) 255 12 (nI 0))) (a := 255) (k := 13) (b := 270) (j := 0) (x := (-1)) (by decide)).trans ((fg_u2ne (f := (fg_u2 μ 255 14 (-1))) (a := 255) (k := 12) (b := 270) (j := 0) (x := (nI 0)) (by decide)).trans ((fg_u2ne (f := μ) (a := 255) (k := 14) (b := 270) (j := 0) (x := (-1)) (by decide)).trans hw0))))) (((fg_u2ne (f := (fg_u2 (fg_u2 (fg_u2 μ 255 14 (-1)) 255 12 (nI 0)) 255 13 (-1))) (a := 255) (k := 14) (b := 270) (j := 2) (x := (-1)) (by decide)).trans ((fg_u2ne (f := (fg_u2 (fg_u2 μ 255 14 (-1)) 255 12 (nI 0))) (a := 255) (k := 13) (b := 270) (j := 2) (x := (-1)) (by decide)).trans ((fg_u2ne (f := (fg_u2 μ 255 14 (-1))) (a := 255) (k := 12) (b := 270) (j := 2) (x := (nI 0)) (by decide)).trans ((fg_u2ne (f := μ) (a := 255) (k := 14) (b := 270) (j := 2) (x := (-1)) (by decide)).trans hs2))))) (by omega) (by decide) (by omega) (fun h => h.1 (by decide)) ?_)
      exact fg_vret (fg_ft (pc := 95) tb_Reader_openRow 51 rfl) rfl rfl (hN hroom _ (fun a j h => ((fg_u2nx (by omega)).trans ((fg_u2nx (by omega)).trans ((fg_u2nx (by omega)).trans ((fg_u2nx (by omega)).trans rfl))))) (fun h => absurd h cF) (fun _ => ⟨((fg_u2nx (by decide)).trans ((fg_u2nx (by decide)).trans ((fg_u2nx (by decide)).trans ((fg_u2nx (by decide)).trans rfl)))), ((fg_u2nx (by decide)).trans ((fg_u2nx (by decide)).trans ((fg_u2nx (by decide)).trans ((fg_u2nx (by decide)).trans rfl))))⟩))
theorem fk_Reader_196_15 : fg_KF "ForgetBread$Reader" 196 15 (.int (nI 5)) := ⟨_, List.mem_of_getElem? (l := fg_ofld) (i := 90) rfl, rfl, rfl, fg_tblIn 1728 (by decide +kernel) (by decide +kernel)⟩
theorem ev_Reader_openRow_15 {E : fg_E} {d : Nat} {μ : Nat → Nat → Int32} {R : fg_T4} {Q : Option Value → fg_M → Prop} {sz F s : Nat} (h9 : μ 255 9 = nI s) (hF : μ 255 2 = nI F) (hF5 : F < 5) (hw0 : μ 270 0 = nI 4) (hs2 : μ 270 2 = nI sz) (hsz : sz ≤ 30) (hR : sz < pz_mx (pz_rt 15) → ∀ μ' : Nat → Nat → Int32, (∀ a j, a ≠ pz_rc (pz_rt 15) → (a ≠ pz_ro (pz_rt 15) ∨ j ≠ 2) → (a ≠ 255 ∨ (j ≠ 12 ∧ j ≠ 13 ∧ j ≠ 14)) → μ' a j = μ a j) → μ' (pz_ro (pz_rt 15)) 2 = nI (sz + 1) → (∀ i, i < pz_wi (pz_rt 15) → μ' (pz_rc (pz_rt 15)) (sz * pz_wi (pz_rt 15) + i) = nI (if 15 < 10 then 0 else if i = 0 then 15 - 10 else 4294967295)) → (∀ i, i < sz * pz_wi (pz_rt 15) → μ' (pz_rc (pz_rt 15)) i = μ (pz_rc (pz_rt 15)) i) → μ' 255 14 = nI sz → μ' 255 12 = nI 0 → μ' 255 13 = -1 → Q none (μ', fg_rho R, 304)) (hN : ¬ sz < pz_mx (pz_rt 15) → ∀ μ' : Nat → Nat → Int32, (∀ a j, (a ≠ 255 ∨ (j ≠ 2 ∧ j ≠ 3 ∧ j ≠ 12 ∧ j ≠ 13 ∧ j ≠ 14)) → μ' a j = μ a j) → (F = 0 → μ' 255 2 = nI 3 ∧ μ' 255 3 = nI s) → (¬ F = 0 → μ' 255 2 = μ 255 2 ∧ μ' 255 3 = μ 255 3) → Q none (μ', fg_rho R, 304)) : fg_Ev E yy_Reader_openRow (d + 5) [.ref 255, .ref 15] (μ, fg_rho R, 304) 304 Q := by
  refine fg_intro (by decide +kernel) (Nat.le_of_ble_eq_true rfl) (fg_okAs rfl) (Nat.le_refl _) ?_
  by_cases hroom : sz < 30
  · refine fg_aloadn (fg_ft (pc := 0) tb_Reader_openRow 0 rfl) rfl ?_
    refine fg_aloadn (fg_ft (pc := 1) tb_Reader_openRow 1 rfl) rfl ?_
    refine fg_callV (fg_ft (pc := 2) tb_Reader_openRow 2 rfl) cf_Reader_176 (fg_isOf ly_255 rfl (fg_lt ly_255 (by decide))) (as := [.ref 15]) (st := []) rfl rfl (Nat.le_of_ble_eq_true rfl) (Nat.le_refl _) (Nat.le_refl _) (ev_Reader_rowsOf_15 ?_)
    refine fg_astoren (fg_ft (pc := 5) tb_Reader_openRow 3 rfl) (Nat.le_of_ble_eq_true rfl) ?_
    refine fg_aloadn (fg_ft (pc := 6) tb_Reader_openRow 4 rfl) rfl ?_
    refine fg_iconst (fg_ft (pc := 7) tb_Reader_openRow 5 rfl) ic_m1 ?_
    refine fg_putI (fg_ft (pc := 8) tb_Reader_openRow 6 rfl) ff_Reader_180 ly_255 rfl (fg_lt ly_255 (by decide)) (fg_nokI _) (fun _ _ h => by cases h; rfl) ?_
    show fg_wp _ _ _ _ _ _ _ _ _ (fg_u2 μ 255 14 (-1), fg_rho R, 304)
    refine fg_aloadn (fg_ft (pc := 11) tb_Reader_openRow 7 rfl) rfl ?_
    refine fg_iconst (fg_ft (pc := 12) tb_Reader_openRow 8 rfl) ic_0 ?_
    refine fg_putI (fg_ft (pc := 13) tb_Reader_openRow 9 rfl) ff_Reader_183 ly_255 rfl (fg_lt ly_255 (by decide)) (fg_nokI _) (fun _ _ h => by cases h; rfl) ?_
    show fg_wp _ _ _ _ _ _ _ _ _ (fg_u2 (fg_u2 μ 255 14 (-1)) 255 12 (nI 0), fg_rho R, 304)
    refine fg_aloadn (fg_ft (pc := 16) tb_Reader_openRow 10 rfl) rfl ?_
    refine fg_iconst (fg_ft (pc := 17) tb_Reader_openRow 11 rfl) ic_m1 ?_
    refine fg_putI (fg_ft (pc := 18) tb_Reader_openRow 12 rfl) ff_Reader_186 ly_255 rfl (fg_lt ly_255 (by decide)) (fg_nokI _) (fun _ _ h => by cases h; rfl) ?_
    show fg_wp _ _ _ _ _ _ _ _ _ (fg_u2 (fg_u2 (fg_u2 μ 255 14 (-1)) 255 12 (nI 0)) 255 13 (-1), fg_rho R, 304)
    refine fg_aloadn (fg_ft (pc := 21) tb_Reader_openRow 13 rfl) rfl ?_
    refine fg_ifnull_r (fg_ft (pc := 22) tb_Reader_openRow 14 rfl) ?_
    refine fg_aloadn (fg_ft (pc := 25) tb_Reader_openRow 15 rfl) rfl ?_
    refine fg_gets (fg_ft (pc := 26) tb_Reader_openRow 16 rfl) fs_Reader_143 ?_
    refine fg_acmp_eq (tgt := 39) (fg_ft (pc := 29) tb_Reader_openRow 17 rfl) (by decide) (by decide) (by decide) (fun h => absurd h (by decide)) (fun _ => ?_)
    refine fg_aloadn (fg_ft (pc := 32) tb_Reader_openRow 18 rfl) rfl ?_
    refine fg_gets (fg_ft (pc := 33) tb_Reader_openRow 19 rfl) fs_Reader_146 ?_
    refine fg_acmp_ne (tgt := 40) (fg_ft (pc := 36) tb_Reader_openRow 20 rfl) (by decide) (by decide) (by decide) (fun _ => ?_) (fun h => absurd h (by decide))
    refine fg_aloadn (fg_ft (pc := 40) tb_Reader_openRow 22 rfl) rfl ?_
    refine fg_aloadn (fg_ft (pc := 41) tb_Reader_openRow 23 rfl) rfl ?_
    refine fg_aloadn (fg_ft (pc := 42) tb_Reader_openRow 24 rfl) rfl ?_
    refine fg_callV (fg_ft (pc := 43) tb_Reader_openRow 25 rfl) cf_Reader_117 (Or.inr (pz_isW (w := 15) (by decide))) (as := []) (st := [.ref 270, .ref 255]) rfl rfl (Nat.le_of_ble_eq_true rfl) (Nat.le_refl _) (Nat.le_refl _) (ev_Word_sort_15 ?_)
    refine fg_iconst (fg_ft (pc := 46) tb_Reader_openRow 26 rfl) ic_1 ?_
    refine fg_icmp_neN (tgt := 54) (fg_ft (pc := 47) tb_Reader_openRow 27 rfl) (by decide) (by decide) (by decide) (fun c47 => (absurd rfl c47)) (fun c47 => ?_)
    refine fg_iconst (fg_ft (pc := 50) tb_Reader_openRow 28 rfl) ic_m1 ?_
    refine fg_goto (tgt := 55) (fg_ft (pc := 51) tb_Reader_openRow 29 rfl) (by decide) ?_
    refine fg_callV (fg_ft (pc := 55) tb_Reader_openRow 31 rfl) cf_Reader_189 (fg_isOf ly_270 rfl (fg_lt ly_270 (by decide))) (as := [.int (-1)]) (st := [.ref 255]) rfl rfl (Nat.le_of_ble_eq_true rfl) (Nat.le_refl _) (Nat.le_refl _) (ev_Rows_add (r := 270) (c := 271) (n := 120) (w := 4) (sz := sz) (x := (-1)) ⟨ly_270, rh_270_1 R, ly_271⟩ (by decide) (((fg_u2ne (f := (fg_u2 (fg_u2 μ 255 14 (-1)) 255 12 (nI 0))) (a := 255) (k := 13) (b := 270) (j := 0) (x := (-1)) (by decide)).trans ((fg_u2ne (f := (fg_u2 μ 255 14 (-1))) (a := 255) (k := 12) (b := 270) (j := 0) (x := (nI 0)) (by decide)).trans ((fg_u2ne (f := μ) (a := 255) (k := 14) (b := 270) (j := 0) (x := (-1)) (by decide)).trans hw0)))) (((fg_u2ne (f := (fg_u2 (fg_u2 μ 255 14 (-1)) 255 12 (nI 0))) (a := 255) (k := 13) (b := 270) (j := 2) (x := (-1)) (by decide)).trans ((fg_u2ne (f := (fg_u2 μ 255 14 (-1))) (a := 255) (k := 12) (b := 270) (j := 2) (x := (nI 0)) (by decide)).trans ((fg_u2ne (f := μ) (a := 255) (k := 14) (b := 270) (j := 2) (x := (-1)) (by decide)).trans hs2)))) (by omega) (by decide) (by omega) (by omega) (by omega) ?_)
    intro ν hfr hN2 hnew hold
    show fg_wp _ _ _ _ _ _ _ _ _ (ν, fg_rho R, 304)
    refine fg_putI (fg_ft (pc := 58) tb_Reader_openRow 32 rfl) ff_Reader_180 ly_255 rfl (fg_lt ly_255 (by decide)) (fg_nokI _) (fun _ _ h => by cases h; rfl) ?_
    show fg_wp _ _ _ _ _ _ _ _ _ (fg_u2 ν 255 14 (nI sz), fg_rho R, 304)
    refine fg_aloadn (fg_ft (pc := 61) tb_Reader_openRow 33 rfl) rfl ?_
    refine fg_getV (v := (nI sz)) (fg_ft (pc := 62) tb_Reader_openRow 34 rfl) ff_Reader_180 ly_255 rfl (fg_lt ly_255 (by decide)) (show (fg_u2 ν 255 14 (nI sz)) 255 14 = nI sz from fg_u2eq) ?_
    refine fg_iconst (fg_ft (pc := 65) tb_Reader_openRow 35 rfl) ic_m1 ?_
    refine fg_icmp_neM (tgt := 74) (fg_ft (pc := 66) tb_Reader_openRow 36 rfl) (by decide) (Nat.lt_trans (show _ < 2 ^ 31 from by omega) (by decide)) (fun c66 => ?_) (fun c66 => (absurd c66 (by omega)))
    refine fg_aloadn (fg_ft (pc := 74) tb_Reader_openRow 40 rfl) rfl ?_
    refine fg_callV (fg_ft (pc := 75) tb_Reader_openRow 41 rfl) cf_Reader_117 (Or.inr (pz_isW (w := 15) (by decide))) (as := []) (st := []) rfl rfl (Nat.le_of_ble_eq_true rfl) (Nat.le_refl _) (Nat.le_refl _) (ev_Word_sort_15 ?_)
    refine fg_iconst (fg_ft (pc := 78) tb_Reader_openRow 42 rfl) ic_1 ?_
    refine fg_icmp_neN (tgt := 95) (fg_ft (pc := 79) tb_Reader_openRow 43 rfl) (by decide) (by decide) (by decide) (fun c79 => (absurd rfl c79)) (fun c79 => ?_)
    refine fg_aloadn (fg_ft (pc := 82) tb_Reader_openRow 44 rfl) rfl ?_
    refine fg_aloadn (fg_ft (pc := 83) tb_Reader_openRow 45 rfl) rfl ?_
    refine fg_getV (v := (nI sz)) (fg_ft (pc := 84) tb_Reader_openRow 46 rfl) ff_Reader_180 ly_255 rfl (fg_lt ly_255 (by decide)) (show (fg_u2 ν 255 14 (nI sz)) 255 14 = nI sz from fg_u2eq) ?_
    refine fg_iconst (fg_ft (pc := 87) tb_Reader_openRow 47 rfl) ic_0 ?_
    refine fg_aloadn (fg_ft (pc := 88) tb_Reader_openRow 48 rfl) rfl ?_
    refine fg_getK (fg_ft (pc := 89) tb_Reader_openRow 49 rfl) fk_Reader_196_15 ?_
    refine fg_callV (fg_ft (pc := 92) tb_Reader_openRow 50 rfl) cf_Reader_199 (fg_isOf ly_270 rfl (fg_lt ly_270 (by decide))) (as := [.int (nI sz), .int (nI 0), .int (nI 5)]) (st := []) rfl rfl (Nat.le_of_ble_eq_true rfl) (Nat.le_refl _) (Nat.le_refl _) (ev_Rows_put (r := 270) (c := 271) (n := 120) (w := 4) (sz := sz + 1) (i := sz) (j := 0) ⟨ly_270, rh_270_1 R, ly_271⟩ (((fg_u2ne (f := ν) (a := 255) (k := 14) (b := 270) (j := 0) (x := (nI sz)) (by decide)).trans ((hfr 270 0 (by decide) (Or.inr (by decide))).trans (((fg_u2ne (f := (fg_u2 (fg_u2 μ 255 14 (-1)) 255 12 (nI 0))) (a := 255) (k := 13) (b := 270) (j := 0) (x := (-1)) (by decide)).trans ((fg_u2ne (f := (fg_u2 μ 255 14 (-1))) (a := 255) (k := 12) (b := 270) (j := 0) (x := (nI 0)) (by decide)).trans ((fg_u2ne (f := μ) (a := 255) (k := 14) (b := 270) (j := 0) (x := (-1)) (by decide)).trans hw0))))))) (((fg_u2ne (f := ν) (a := 255) (k := 14) (b := 270) (j := 2) (x := (nI sz)) (by decide)).trans hN2)) (by omega) (by decide) (by omega) (by omega) (by decide) ?_)
    show fg_wp _ _ _ _ _ _ _ _ _ (fg_u2 (fg_u2 ν 255 14 (nI sz)) 271 (sz * 4 + 0) (nI 5), fg_rho R, 304)
    exact fg_vret (fg_ft (pc := 95) tb_Reader_openRow 51 rfl) rfl rfl (hR hroom _ (fun a j g1 g2 g3 => (fg_u2ne g1).trans ((fg_u2nx (by omega)).trans ((hfr a j g1 g2).trans ((fg_u2nx (by omega)).trans ((fg_u2nx (by omega)).trans (fg_u2nx (by omega))))))) ((fg_u2ne (by decide)).trans ((fg_u2ne (by decide)).trans hN2)) (fun i hi => by
        rcases Nat.decEq i 0 with q | q
        · refine (fg_u2ns (show ¬ sz * 4 + i = sz * 4 + 0 by omega)).trans ((fg_u2ne (by decide)).trans ((hnew i hi).trans ?_))
          rw [if_neg (by decide), if_neg q]; rfl
        · rw [q]; exact fg_u2eq) (fun i hi => (fg_u2ns (show ¬ i = sz * 4 + 0 from by have hi4 : i < sz * 4 := hi; omega)).trans ((fg_u2ne (by decide)).trans ((hold i hi).trans ((fg_u2ne (by decide)).trans ((fg_u2ne (by decide)).trans (fg_u2ne (by decide))))))) ((fg_u2nx (by omega)).trans fg_u2eq) ((fg_u2nx (by omega)).trans ((fg_u2nx (by omega)).trans ((hfr 255 12 (by decide) (Or.inl (by decide))).trans ((fg_u2ns (by decide)).trans fg_u2eq)))) ((fg_u2nx (by omega)).trans ((fg_u2nx (by omega)).trans ((hfr 255 13 (by decide) (Or.inl (by decide))).trans fg_u2eq))))
  · refine fg_aloadn (fg_ft (pc := 0) tb_Reader_openRow 0 rfl) rfl ?_
    refine fg_aloadn (fg_ft (pc := 1) tb_Reader_openRow 1 rfl) rfl ?_
    refine fg_callV (fg_ft (pc := 2) tb_Reader_openRow 2 rfl) cf_Reader_176 (fg_isOf ly_255 rfl (fg_lt ly_255 (by decide))) (as := [.ref 15]) (st := []) rfl rfl (Nat.le_of_ble_eq_true rfl) (Nat.le_refl _) (Nat.le_refl _) (ev_Reader_rowsOf_15 ?_)
    refine fg_astoren (fg_ft (pc := 5) tb_Reader_openRow 3 rfl) (Nat.le_of_ble_eq_true rfl) ?_
    refine fg_aloadn (fg_ft (pc := 6) tb_Reader_openRow 4 rfl) rfl ?_
    refine fg_iconst (fg_ft (pc := 7) tb_Reader_openRow 5 rfl) ic_m1 ?_
    refine fg_putI (fg_ft (pc := 8) tb_Reader_openRow 6 rfl) ff_Reader_180 ly_255 rfl (fg_lt ly_255 (by decide)) (fg_nokI _) (fun _ _ h => by cases h; rfl) ?_
    show fg_wp _ _ _ _ _ _ _ _ _ (fg_u2 μ 255 14 (-1), fg_rho R, 304)
    refine fg_aloadn (fg_ft (pc := 11) tb_Reader_openRow 7 rfl) rfl ?_
    refine fg_iconst (fg_ft (pc := 12) tb_Reader_openRow 8 rfl) ic_0 ?_
    refine fg_putI (fg_ft (pc := 13) tb_Reader_openRow 9 rfl) ff_Reader_183 ly_255 rfl (fg_lt ly_255 (by decide)) (fg_nokI _) (fun _ _ h => by cases h; rfl) ?_
    show fg_wp _ _ _ _ _ _ _ _ _ (fg_u2 (fg_u2 μ 255 14 (-1)) 255 12 (nI 0), fg_rho R, 304)
    refine fg_aloadn (fg_ft (pc := 16) tb_Reader_openRow 10 rfl) rfl ?_
    refine fg_iconst (fg_ft (pc := 17) tb_Reader_openRow 11 rfl) ic_m1 ?_
    refine fg_putI (fg_ft (pc := 18) tb_Reader_openRow 12 rfl) ff_Reader_186 ly_255 rfl (fg_lt ly_255 (by decide)) (fg_nokI _) (fun _ _ h => by cases h; rfl) ?_
    show fg_wp _ _ _ _ _ _ _ _ _ (fg_u2 (fg_u2 (fg_u2 μ 255 14 (-1)) 255 12 (nI 0)) 255 13 (-1), fg_rho R, 304)
    refine fg_aloadn (fg_ft (pc := 21) tb_Reader_openRow 13 rfl) rfl ?_
    refine fg_ifnull_r (fg_ft (pc := 22) tb_Reader_openRow 14 rfl) ?_
    refine fg_aloadn (fg_ft (pc := 25) tb_Reader_openRow 15 rfl) rfl ?_
    refine fg_gets (fg_ft (pc := 26) tb_Reader_openRow 16 rfl) fs_Reader_143 ?_
    refine fg_acmp_eq (tgt := 39) (fg_ft (pc := 29) tb_Reader_openRow 17 rfl) (by decide) (by decide) (by decide) (fun h => absurd h (by decide)) (fun _ => ?_)
    refine fg_aloadn (fg_ft (pc := 32) tb_Reader_openRow 18 rfl) rfl ?_
    refine fg_gets (fg_ft (pc := 33) tb_Reader_openRow 19 rfl) fs_Reader_146 ?_
    refine fg_acmp_ne (tgt := 40) (fg_ft (pc := 36) tb_Reader_openRow 20 rfl) (by decide) (by decide) (by decide) (fun _ => ?_) (fun h => absurd h (by decide))
    refine fg_aloadn (fg_ft (pc := 40) tb_Reader_openRow 22 rfl) rfl ?_
    refine fg_aloadn (fg_ft (pc := 41) tb_Reader_openRow 23 rfl) rfl ?_
    refine fg_aloadn (fg_ft (pc := 42) tb_Reader_openRow 24 rfl) rfl ?_
    refine fg_callV (fg_ft (pc := 43) tb_Reader_openRow 25 rfl) cf_Reader_117 (Or.inr (pz_isW (w := 15) (by decide))) (as := []) (st := [.ref 270, .ref 255]) rfl rfl (Nat.le_of_ble_eq_true rfl) (Nat.le_refl _) (Nat.le_refl _) (ev_Word_sort_15 ?_)
    refine fg_iconst (fg_ft (pc := 46) tb_Reader_openRow 26 rfl) ic_1 ?_
    refine fg_icmp_neN (tgt := 54) (fg_ft (pc := 47) tb_Reader_openRow 27 rfl) (by decide) (by decide) (by decide) (fun c47 => (absurd rfl c47)) (fun c47 => ?_)
    refine fg_iconst (fg_ft (pc := 50) tb_Reader_openRow 28 rfl) ic_m1 ?_
    refine fg_goto (tgt := 55) (fg_ft (pc := 51) tb_Reader_openRow 29 rfl) (by decide) ?_
    refine fg_callV (fg_ft (pc := 55) tb_Reader_openRow 31 rfl) cf_Reader_189 (fg_isOf ly_270 rfl (fg_lt ly_270 (by decide))) (as := [.int (-1)]) (st := [.ref 255]) rfl rfl (Nat.le_of_ble_eq_true rfl) (Nat.le_refl _) (Nat.le_refl _) (ev_Rows_addFull (r := 270) (c := 271) (n := 120) (w := 4) (sz := sz) ⟨ly_270, rh_270_1 R, ly_271⟩ (by decide) (((fg_u2ne (f := (fg_u2 (fg_u2 μ 255 14 (-1)) 255 12 (nI 0))) (a := 255) (k := 13) (b := 270) (j := 0) (x := (-1)) (by decide)).trans ((fg_u2ne (f := (fg_u2 μ 255 14 (-1))) (a := 255) (k := 12) (b := 270) (j := 0) (x := (nI 0)) (by decide)).trans ((fg_u2ne (f := μ) (a := 255) (k := 14) (b := 270) (j := 0) (x := (-1)) (by decide)).trans hw0)))) (((fg_u2ne (f := (fg_u2 (fg_u2 μ 255 14 (-1)) 255 12 (nI 0))) (a := 255) (k := 13) (b := 270) (j := 2) (x := (-1)) (by decide)).trans ((fg_u2ne (f := (fg_u2 μ 255 14 (-1))) (a := 255) (k := 12) (b := 270) (j := 2) (x := (nI 0)) (by decide)).trans ((fg_u2ne (f := μ) (a := 255) (k := 14) (b := 270) (j := 2) (x := (-1)) (by decide)).trans hs2)))) (by omega) (by decide) (by omega) (by omega) (by omega) ?_)
    refine fg_putI (fg_ft (pc := 58) tb_Reader_openRow 32 rfl) ff_Reader_180 ly_255 rfl (fg_lt ly_255 (by decide)) (fg_nokI _) (fun _ _ h => by cases h; rfl) ?_
    show fg_wp _ _ _ _ _ _ _ _ _ (fg_u2 (fg_u2 (fg_u2 (fg_u2 μ 255 14 (-1)) 255 12 (nI 0)) 255 13 (-1)) 255 14 (-1), fg_rho R, 304)
    refine fg_aloadn (fg_ft (pc := 61) tb_Reader_openRow 33 rfl) rfl ?_
    refine fg_getV (v := (-1)) (fg_ft (pc := 62) tb_Reader_openRow 34 rfl) ff_Reader_180 ly_255 rfl (fg_lt ly_255 (by decide)) (show (fg_u2 (fg_u2 (fg_u2 (fg_u2 μ 255 14 (-1)) 255 12 (nI 0)) 255 13 (-1)) 255 14 (-1)) 255 14 = -1 from fg_u2eq) ?_
    refine fg_iconst (fg_ft (pc := 65) tb_Reader_openRow 35 rfl) ic_m1 ?_
    refine fg_icmp_ne (tgt := 74) (fg_ft (pc := 66) tb_Reader_openRow 36 rfl) (by decide) (fun c66 => (absurd rfl c66)) (fun c66 => ?_)
    by_cases cF : F = 0
    · refine fg_aloadn (fg_ft (pc := 69) tb_Reader_openRow 37 rfl) rfl ?_
      refine fg_iconst (fg_ft (pc := 70) tb_Reader_openRow 38 rfl) ic_3 ?_
      refine fg_callV (fg_ft (pc := 71) tb_Reader_openRow 39 rfl) cf_Reader_192 (fg_isOf ly_255 rfl (fg_lt ly_255 (by decide))) (as := [.int (nI 3)]) (st := []) rfl rfl (Nat.le_of_ble_eq_true rfl) (Nat.le_refl _) (Nat.le_refl _) (ev_Reader_noteFault0 (s := s) (((fg_u2ns (f := (fg_u2 (fg_u2 (fg_u2 μ 255 14 (-1)) 255 12 (nI 0)) 255 13 (-1))) (a := 255) (k := 14) (b := 255) (j := 2) (x := (-1)) (by decide)).trans ((fg_u2ns (f := (fg_u2 (fg_u2 μ 255 14 (-1)) 255 12 (nI 0))) (a := 255) (k := 13) (b := 255) (j := 2) (x := (-1)) (by decide)).trans ((fg_u2ns (f := (fg_u2 μ 255 14 (-1))) (a := 255) (k := 12) (b := 255) (j := 2) (x := (nI 0)) (by decide)).trans ((fg_u2ns (f := μ) (a := 255) (k := 14) (b := 255) (j := 2) (x := (-1)) (by decide)).trans (hF.trans (congrArg nI cF))))))) (((fg_u2ns (f := (fg_u2 (fg_u2 (fg_u2 μ 255 14 (-1)) 255 12 (nI 0)) 255 13 (-1))) (a := 255) (k := 14) (b := 255) (j := 9) (x := (-1)) (by decide)).trans ((fg_u2ns (f := (fg_u2 (fg_u2 μ 255 14 (-1)) 255 12 (nI 0))) (a := 255) (k := 13) (b := 255) (j := 9) (x := (-1)) (by decide)).trans ((fg_u2ns (f := (fg_u2 μ 255 14 (-1))) (a := 255) (k := 12) (b := 255) (j := 9) (x := (nI 0)) (by decide)).trans ((fg_u2ns (f := μ) (a := 255) (k := 14) (b := 255) (j := 9) (x := (-1)) (by decide)).trans h9))))) ?_)
      show fg_wp _ _ _ _ _ _ _ _ _ (fg_u2 (fg_u2 (fg_u2 (fg_u2 (fg_u2 (fg_u2 μ 255 14 (-1)) 255 12 (nI 0)) 255 13 (-1)) 255 14 (-1)) 255 2 (nI 3)) 255 3 (nI s), fg_rho R, 304)
      refine fg_aloadn (fg_ft (pc := 74) tb_Reader_openRow 40 rfl) rfl ?_
      refine fg_callV (fg_ft (pc := 75) tb_Reader_openRow 41 rfl) cf_Reader_117 (Or.inr (pz_isW (w := 15) (by decide))) (as := []) (st := []) rfl rfl (Nat.le_of_ble_eq_true rfl) (Nat.le_refl _) (Nat.le_refl _) (ev_Word_sort_15 ?_)
      refine fg_iconst (fg_ft (pc := 78) tb_Reader_openRow 42 rfl) ic_1 ?_
      refine fg_icmp_neN (tgt := 95) (fg_ft (pc := 79) tb_Reader_openRow 43 rfl) (by decide) (by decide) (by decide) (fun c79 => (absurd rfl c79)) (fun c79 => ?_)
      refine fg_aloadn (fg_ft (pc := 82) tb_Reader_openRow 44 rfl) rfl ?_
      refine fg_aloadn (fg_ft (pc := 83) tb_Reader_openRow 45 rfl) rfl ?_
      refine fg_getV (v := (-1)) (fg_ft (pc := 84) tb_Reader_openRow 46 rfl) ff_Reader_180 ly_255 rfl (fg_lt ly_255 (by decide)) (show (fg_u2 (fg_u2 (fg_u2 (fg_u2 (fg_u2 (fg_u2 μ 255 14 (-1)) 255 12 (nI 0)) 255 13 (-1)) 255 14 (-1)) 255 2 (nI 3)) 255 3 (nI s)) 255 14 = -1 from ((fg_u2nx (by decide)).trans ((fg_u2nx (by decide)).trans fg_u2eq))) ?_
      refine fg_iconst (fg_ft (pc := 87) tb_Reader_openRow 47 rfl) ic_0 ?_
      refine fg_aloadn (fg_ft (pc := 88) tb_Reader_openRow 48 rfl) rfl ?_
      refine fg_getK (fg_ft (pc := 89) tb_Reader_openRow 49 rfl) fk_Reader_196_15 ?_
      refine fg_callV (fg_ft (pc := 92) tb_Reader_openRow 50 rfl) cf_Reader_199 (fg_isOf ly_270 rfl (fg_lt ly_270 (by decide))) (as := [.int (-1), .int (nI 0), .int (nI 5)]) (st := []) rfl rfl (Nat.le_of_ble_eq_true rfl) (Nat.le_refl _) (Nat.le_refl _) (ev_Rows_putOut (r := 270) (c := 271) (n := 120) (w := 4) (sz := sz) ⟨ly_270, rh_270_1 R, ly_271⟩ (((fg_u2ne (f := (fg_u2 (fg_u2 (fg_u2 (fg_u2 (fg_u2 μ 255 14 (-1)) 255 12 (nI 0)) 255 13 (-1)) 255 14 (-1)) 255 2 (nI 3))) (a := 255) (k := 3) (b := 270) (j := 0) (x := (nI s)) (by decide)).trans ((fg_u2ne (f := (fg_u2 (fg_u2 (fg_u2 (fg_u2 μ 255 14 (-1)) 255 12 (nI 0)) 255 13 (-1)) 255 14 (-1))) (a := 255) (k := 2) (b := 270) (j := 0) (x := (nI 3)) (by decide)).trans ((fg_u2ne (f := (fg_u2 (fg_u2 (fg_u2 μ 255 14 (-1)) 255 12 (nI 0)) 255 13 (-1))) (a := 255) (k := 14) (b := 270) (j := 0) (x := (-1)) (by decide)).trans ((fg_u2ne (f := (fg_u2 (fg_u2 μ 255 14 (-1)) 255 12 (nI 0))) (a := 255) (k := 13) (b := 270) (j := 0) (x := (-1)) (by decide)).trans ((fg_u2ne (f := (fg_u2 μ 255 14 (-1))) (a := 255) (k := 12) (b := 270) (j := 0) (x := (nI 0)) (by decide)).trans ((fg_u2ne (f := μ) (a := 255) (k := 14) (b := 270) (j := 0) (x := (-1)) (by decide)).trans hw0))))))) (((fg_u2ne (f := (fg_u2 (fg_u2 (fg_u2 (fg_u2 (fg_u2 μ 255 14 (-1)) 255 12 (nI 0)) 255 13 (-1)) 255 14 (-1)) 255 2 (nI 3))) (a := 255) (k := 3) (b := 270) (j := 2) (x := (nI s)) (by decide)).trans ((fg_u2ne (f := (fg_u2 (fg_u2 (fg_u2 (fg_u2 μ 255 14 (-1)) 255 12 (nI 0)) 255 13 (-1)) 255 14 (-1))) (a := 255) (k := 2) (b := 270) (j := 2) (x := (nI 3)) (by decide)).trans ((fg_u2ne (f := (fg_u2 (fg_u2 (fg_u2 μ 255 14 (-1)) 255 12 (nI 0)) 255 13 (-1))) (a := 255) (k := 14) (b := 270) (j := 2) (x := (-1)) (by decide)).trans ((fg_u2ne (f := (fg_u2 (fg_u2 μ 255 14 (-1)) 255 12 (nI 0))) (a := 255) (k := 13) (b := 270) (j := 2) (x := (-1)) (by decide)).trans ((fg_u2ne (f := (fg_u2 μ 255 14 (-1))) (a := 255) (k := 12) (b := 270) (j := 2) (x := (nI 0)) (by decide)).trans ((fg_u2ne (f := μ) (a := 255) (k := 14) (b := 270) (j := 2) (x := (-1)) (by decide)).trans hs2))))))) (by omega) (by decide) (by omega) (fun h => h.1 (by decide)) ?_)
      exact fg_vret (fg_ft (pc := 95) tb_Reader_openRow 51 rfl) rfl rfl (hN hroom _ (fun a j h => ((fg_u2nx (by omega)).trans ((fg_u2nx (by omega)).trans ((fg_u2nx (by omega)).trans ((fg_u2nx (by omega)).trans ((fg_u2nx (by omega)).trans ((fg_u2nx (by omega)).trans rfl))))))) (fun _ => ⟨(fg_u2ns (by decide)).trans fg_u2eq, fg_u2eq⟩) (fun h => absurd cF h))
    · refine fg_aloadn (fg_ft (pc := 69) tb_Reader_openRow 37 rfl) rfl ?_
      refine fg_iconst (fg_ft (pc := 70) tb_Reader_openRow 38 rfl) ic_3 ?_
      refine fg_callV (fg_ft (pc := 71) tb_Reader_openRow 39 rfl) cf_Reader_192 (fg_isOf ly_255 rfl (fg_lt ly_255 (by decide))) (as := [.int (nI 3)]) (st := []) rfl rfl (Nat.le_of_ble_eq_true rfl) (Nat.le_refl _) (Nat.le_refl _) (ev_Reader_noteFault1 (F := F) (((fg_u2ns (f := (fg_u2 (fg_u2 (fg_u2 μ 255 14 (-1)) 255 12 (nI 0)) 255 13 (-1))) (a := 255) (k := 14) (b := 255) (j := 2) (x := (-1)) (by decide)).trans ((fg_u2ns (f := (fg_u2 (fg_u2 μ 255 14 (-1)) 255 12 (nI 0))) (a := 255) (k := 13) (b := 255) (j := 2) (x := (-1)) (by decide)).trans ((fg_u2ns (f := (fg_u2 μ 255 14 (-1))) (a := 255) (k := 12) (b := 255) (j := 2) (x := (nI 0)) (by decide)).trans ((fg_u2ns (f := μ) (a := 255) (k := 14) (b := 255) (j := 2) (x := (-1)) (by decide)).trans hF))))) hF5 cF ?_)
      refine fg_aloadn (fg_ft (pc := 74) tb_Reader_openRow 40 rfl) rfl ?_
      refine fg_callV (fg_ft (pc := 75) tb_Reader_openRow 41 rfl) cf_Reader_117 (Or.inr (pz_isW (w := 15) (by decide))) (as := []) (st := []) rfl rfl (Nat.le_of_ble_eq_true rfl) (Nat.le_refl _) (Nat.le_refl _) (ev_Word_sort_15 ?_)
      refine fg_iconst (fg_ft (pc := 78) tb_Reader_openRow 42 rfl) ic_1 ?_
      refine fg_icmp_neN (tgt := 95) (fg_ft (pc := 79) tb_Reader_openRow 43 rfl) (by decide) (by decide) (by decide) (fun c79 => (absurd rfl c79)) (fun c79 => ?_)
      refine fg_aloadn (fg_ft (pc := 82) tb_Reader_openRow 44 rfl) rfl ?_
      refine fg_aloadn (fg_ft (pc := 83) tb_Reader_openRow 45 rfl) rfl ?_
      refine fg_getV (v := (-1)) (fg_ft (pc := 84) tb_Reader_openRow 46 rfl) ff_Reader_180 ly_255 rfl (fg_lt ly_255 (by decide)) (show (fg_u2 (fg_u2 (fg_u2 (fg_u2 μ 255 14 (-1)) 255 12 (nI 0)) 255 13 (-1)) 255 14 (-1)) 255 14 = -1 from fg_u2eq) ?_
      refine fg_iconst (fg_ft (pc := 87) tb_Reader_openRow 47 rfl) ic_0 ?_
      refine fg_aloadn (fg_ft (pc := 88) tb_Reader_openRow 48 rfl) rfl ?_
      refine fg_getK (fg_ft (pc := 89) tb_Reader_openRow 49 rfl) fk_Reader_196_15 ?_
      refine fg_callV (fg_ft (pc := 92) tb_Reader_openRow 50 rfl) cf_Reader_199 (fg_isOf ly_270 rfl (fg_lt ly_270 (by decide))) (as := [.int (-1), .int (nI 0), .int (nI 5)]) (st := []) rfl rfl (Nat.le_of_ble_eq_true rfl) (Nat.le_refl _) (Nat.le_refl _) (ev_Rows_putOut (r := 270) (c := 271) (n := 120) (w := 4) (sz := sz) ⟨ly_270, rh_270_1 R, ly_271⟩ (((fg_u2ne (f := (fg_u2 (fg_u2 (fg_u2 μ 255 14 (-1)) 255 12 (nI 0)) 255 13 (-1))) (a := 255) (k := 14) (b := 270) (j := 0) (x := (-1)) (by decide)).trans ((fg_u2ne (f := (fg_u2 (fg_u2 μ 255 14 (-1)) 255 12 (nI 0))) (a := 255) (k := 13) (b := 270) (j := 0) (x := (-1)) (by decide)).trans ((fg_u2ne (f := (fg_u2 μ 255 14 (-1))) (a := 255) (k := 12) (b := 270) (j := 0) (x := (nI 0)) (by decide)).trans ((fg_u2ne (f := μ) (a := 255) (k := 14) (b := 270) (j := 0) (x := (-1)) (by decide)).trans hw0))))) (((fg_u2ne (f := (fg_u2 (fg_u2 (fg_u2 μ 255 14 (-1)) 255 12 (nI 0)) 255 13 (-1))) (a := 255) (k := 14) (b := 270) (j := 2) (x := (-1)) (by decide)).trans ((fg_u2ne (f := (fg_u2 (fg_u2 μ 255 14 (-1)) 255 12 (nI 0))) (a := 255) (k := 13) (b := 270) (j := 2) (x := (-1)) (by decide)).trans ((fg_u2ne (f := (fg_u2 μ 255 14 (-1))) (a := 255) (k := 12) (b := 270) (j := 2) (x := (nI 0)) (by decide)).trans ((fg_u2ne (f := μ) (a := 255) (k := 14) (b := 270) (j := 2) (x := (-1)) (by decide)).trans hs2))))) (by omega) (by decide) (by omega) (fun h => h.1 (by decide)) ?_)
      exact fg_vret (fg_ft (pc := 95) tb_Reader_openRow 51 rfl) rfl rfl (hN hroom _ (fun a j h => ((fg_u2nx (by omega)).trans ((fg_u2nx (by omega)).trans ((fg_u2nx (by omega)).trans ((fg_u2nx (by omega)).trans rfl))))) (fun h => absurd h cF) (fun _ => ⟨((fg_u2nx (by decide)).trans ((fg_u2nx (by decide)).trans ((fg_u2nx (by decide)).trans ((fg_u2nx (by decide)).trans rfl)))), ((fg_u2nx (by decide)).trans ((fg_u2nx (by decide)).trans ((fg_u2nx (by decide)).trans ((fg_u2nx (by decide)).trans rfl))))⟩))
theorem fk_Reader_196_16 : fg_KF "ForgetBread$Reader" 196 16 (.int (nI 6)) := ⟨_, List.mem_of_getElem? (l := fg_ofld) (i := 96) rfl, rfl, rfl, fg_tblIn 1728 (by decide +kernel) (by decide +kernel)⟩
theorem ev_Reader_openRow_16 {E : fg_E} {d : Nat} {μ : Nat → Nat → Int32} {R : fg_T4} {Q : Option Value → fg_M → Prop} {sz F s : Nat} (h9 : μ 255 9 = nI s) (hF : μ 255 2 = nI F) (hF5 : F < 5) (hw0 : μ 270 0 = nI 4) (hs2 : μ 270 2 = nI sz) (hsz : sz ≤ 30) (hR : sz < pz_mx (pz_rt 16) → ∀ μ' : Nat → Nat → Int32, (∀ a j, a ≠ pz_rc (pz_rt 16) → (a ≠ pz_ro (pz_rt 16) ∨ j ≠ 2) → (a ≠ 255 ∨ (j ≠ 12 ∧ j ≠ 13 ∧ j ≠ 14)) → μ' a j = μ a j) → μ' (pz_ro (pz_rt 16)) 2 = nI (sz + 1) → (∀ i, i < pz_wi (pz_rt 16) → μ' (pz_rc (pz_rt 16)) (sz * pz_wi (pz_rt 16) + i) = nI (if 16 < 10 then 0 else if i = 0 then 16 - 10 else 4294967295)) → (∀ i, i < sz * pz_wi (pz_rt 16) → μ' (pz_rc (pz_rt 16)) i = μ (pz_rc (pz_rt 16)) i) → μ' 255 14 = nI sz → μ' 255 12 = nI 0 → μ' 255 13 = -1 → Q none (μ', fg_rho R, 304)) (hN : ¬ sz < pz_mx (pz_rt 16) → ∀ μ' : Nat → Nat → Int32, (∀ a j, (a ≠ 255 ∨ (j ≠ 2 ∧ j ≠ 3 ∧ j ≠ 12 ∧ j ≠ 13 ∧ j ≠ 14)) → μ' a j = μ a j) → (F = 0 → μ' 255 2 = nI 3 ∧ μ' 255 3 = nI s) → (¬ F = 0 → μ' 255 2 = μ 255 2 ∧ μ' 255 3 = μ 255 3) → Q none (μ', fg_rho R, 304)) : fg_Ev E yy_Reader_openRow (d + 5) [.ref 255, .ref 16] (μ, fg_rho R, 304) 304 Q := by
  refine fg_intro (by decide +kernel) (Nat.le_of_ble_eq_true rfl) (fg_okAs rfl) (Nat.le_refl _) ?_
  by_cases hroom : sz < 30
  · refine fg_aloadn (fg_ft (pc := 0) tb_Reader_openRow 0 rfl) rfl ?_
    refine fg_aloadn (fg_ft (pc := 1) tb_Reader_openRow 1 rfl) rfl ?_
    refine fg_callV (fg_ft (pc := 2) tb_Reader_openRow 2 rfl) cf_Reader_176 (fg_isOf ly_255 rfl (fg_lt ly_255 (by decide))) (as := [.ref 16]) (st := []) rfl rfl (Nat.le_of_ble_eq_true rfl) (Nat.le_refl _) (Nat.le_refl _) (ev_Reader_rowsOf_16 ?_)
    refine fg_astoren (fg_ft (pc := 5) tb_Reader_openRow 3 rfl) (Nat.le_of_ble_eq_true rfl) ?_
    refine fg_aloadn (fg_ft (pc := 6) tb_Reader_openRow 4 rfl) rfl ?_
    refine fg_iconst (fg_ft (pc := 7) tb_Reader_openRow 5 rfl) ic_m1 ?_
    refine fg_putI (fg_ft (pc := 8) tb_Reader_openRow 6 rfl) ff_Reader_180 ly_255 rfl (fg_lt ly_255 (by decide)) (fg_nokI _) (fun _ _ h => by cases h; rfl) ?_
    show fg_wp _ _ _ _ _ _ _ _ _ (fg_u2 μ 255 14 (-1), fg_rho R, 304)
    refine fg_aloadn (fg_ft (pc := 11) tb_Reader_openRow 7 rfl) rfl ?_
    refine fg_iconst (fg_ft (pc := 12) tb_Reader_openRow 8 rfl) ic_0 ?_
    refine fg_putI (fg_ft (pc := 13) tb_Reader_openRow 9 rfl) ff_Reader_183 ly_255 rfl (fg_lt ly_255 (by decide)) (fg_nokI _) (fun _ _ h => by cases h; rfl) ?_
    show fg_wp _ _ _ _ _ _ _ _ _ (fg_u2 (fg_u2 μ 255 14 (-1)) 255 12 (nI 0), fg_rho R, 304)
    refine fg_aloadn (fg_ft (pc := 16) tb_Reader_openRow 10 rfl) rfl ?_
    refine fg_iconst (fg_ft (pc := 17) tb_Reader_openRow 11 rfl) ic_m1 ?_
    refine fg_putI (fg_ft (pc := 18) tb_Reader_openRow 12 rfl) ff_Reader_186 ly_255 rfl (fg_lt ly_255 (by decide)) (fg_nokI _) (fun _ _ h => by cases h; rfl) ?_
    show fg_wp _ _ _ _ _ _ _ _ _ (fg_u2 (fg_u2 (fg_u2 μ 255 14 (-1)) 255 12 (nI 0)) 255 13 (-1), fg_rho R, 304)
    refine fg_aloadn (fg_ft (pc := 21) tb_Reader_openRow 13 rfl) rfl ?_
    refine fg_ifnull_r (fg_ft (pc := 22) tb_Reader_openRow 14 rfl) ?_
    refine fg_aloadn (fg_ft (pc := 25) tb_Reader_openRow 15 rfl) rfl ?_
    refine fg_gets (fg_ft (pc := 26) tb_Reader_openRow 16 rfl) fs_Reader_143 ?_
    refine fg_acmp_eq (tgt := 39) (fg_ft (pc := 29) tb_Reader_openRow 17 rfl) (by decide) (by decide) (by decide) (fun h => absurd h (by decide)) (fun _ => ?_)
    refine fg_aloadn (fg_ft (pc := 32) tb_Reader_openRow 18 rfl) rfl ?_
    refine fg_gets (fg_ft (pc := 33) tb_Reader_openRow 19 rfl) fs_Reader_146 ?_
    refine fg_acmp_ne (tgt := 40) (fg_ft (pc := 36) tb_Reader_openRow 20 rfl) (by decide) (by decide) (by decide) (fun _ => ?_) (fun h => absurd h (by decide))
    refine fg_aloadn (fg_ft (pc := 40) tb_Reader_openRow 22 rfl) rfl ?_
    refine fg_aloadn (fg_ft (pc := 41) tb_Reader_openRow 23 rfl) rfl ?_
    refine fg_aloadn (fg_ft (pc := 42) tb_Reader_openRow 24 rfl) rfl ?_
    refine fg_callV (fg_ft (pc := 43) tb_Reader_openRow 25 rfl) cf_Reader_117 (Or.inr (pz_isW (w := 16) (by decide))) (as := []) (st := [.ref 270, .ref 255]) rfl rfl (Nat.le_of_ble_eq_true rfl) (Nat.le_refl _) (Nat.le_refl _) (ev_Word_sort_16 ?_)
    refine fg_iconst (fg_ft (pc := 46) tb_Reader_openRow 26 rfl) ic_1 ?_
    refine fg_icmp_neN (tgt := 54) (fg_ft (pc := 47) tb_Reader_openRow 27 rfl) (by decide) (by decide) (by decide) (fun c47 => (absurd rfl c47)) (fun c47 => ?_)
    refine fg_iconst (fg_ft (pc := 50) tb_Reader_openRow 28 rfl) ic_m1 ?_
    refine fg_goto (tgt := 55) (fg_ft (pc := 51) tb_Reader_openRow 29 rfl) (by decide) ?_
    refine fg_callV (fg_ft (pc := 55) tb_Reader_openRow 31 rfl) cf_Reader_189 (fg_isOf ly_270 rfl (fg_lt ly_270 (by decide))) (as := [.int (-1)]) (st := [.ref 255]) rfl rfl (Nat.le_of_ble_eq_true rfl) (Nat.le_refl _) (Nat.le_refl _) (ev_Rows_add (r := 270) (c := 271) (n := 120) (w := 4) (sz := sz) (x := (-1)) ⟨ly_270, rh_270_1 R, ly_271⟩ (by decide) (((fg_u2ne (f := (fg_u2 (fg_u2 μ 255 14 (-1)) 255 12 (nI 0))) (a := 255) (k := 13) (b := 270) (j := 0) (x := (-1)) (by decide)).trans ((fg_u2ne (f := (fg_u2 μ 255 14 (-1))) (a := 255) (k := 12) (b := 270) (j := 0) (x := (nI 0)) (by decide)).trans ((fg_u2ne (f := μ) (a := 255) (k := 14) (b := 270) (j := 0) (x := (-1)) (by decide)).trans hw0)))) (((fg_u2ne (f := (fg_u2 (fg_u2 μ 255 14 (-1)) 255 12 (nI 0))) (a := 255) (k := 13) (b := 270) (j := 2) (x := (-1)) (by decide)).trans ((fg_u2ne (f := (fg_u2 μ 255 14 (-1))) (a := 255) (k := 12) (b := 270) (j := 2) (x := (nI 0)) (by decide)).trans ((fg_u2ne (f := μ) (a := 255) (k := 14) (b := 270) (j := 2) (x := (-1)) (by decide)).trans hs2)))) (by omega) (by decide) (by omega) (by omega) (by omega) ?_)
    intro ν hfr hN2 hnew hold
    show fg_wp _ _ _ _ _ _ _ _ _ (ν, fg_rho R, 304)
    refine fg_putI (fg_ft (pc := 58) tb_Reader_openRow 32 rfl) ff_Reader_180 ly_255 rfl (fg_lt ly_255 (by decide)) (fg_nokI _) (fun _ _ h => by cases h; rfl) ?_
    show fg_wp _ _ _ _ _ _ _ _ _ (fg_u2 ν 255 14 (nI sz), fg_rho R, 304)
    refine fg_aloadn (fg_ft (pc := 61) tb_Reader_openRow 33 rfl) rfl ?_
    refine fg_getV (v := (nI sz)) (fg_ft (pc := 62) tb_Reader_openRow 34 rfl) ff_Reader_180 ly_255 rfl (fg_lt ly_255 (by decide)) (show (fg_u2 ν 255 14 (nI sz)) 255 14 = nI sz from fg_u2eq) ?_
    refine fg_iconst (fg_ft (pc := 65) tb_Reader_openRow 35 rfl) ic_m1 ?_
    refine fg_icmp_neM (tgt := 74) (fg_ft (pc := 66) tb_Reader_openRow 36 rfl) (by decide) (Nat.lt_trans (show _ < 2 ^ 31 from by omega) (by decide)) (fun c66 => ?_) (fun c66 => (absurd c66 (by omega)))
    refine fg_aloadn (fg_ft (pc := 74) tb_Reader_openRow 40 rfl) rfl ?_
    refine fg_callV (fg_ft (pc := 75) tb_Reader_openRow 41 rfl) cf_Reader_117 (Or.inr (pz_isW (w := 16) (by decide))) (as := []) (st := []) rfl rfl (Nat.le_of_ble_eq_true rfl) (Nat.le_refl _) (Nat.le_refl _) (ev_Word_sort_16 ?_)
    refine fg_iconst (fg_ft (pc := 78) tb_Reader_openRow 42 rfl) ic_1 ?_
    refine fg_icmp_neN (tgt := 95) (fg_ft (pc := 79) tb_Reader_openRow 43 rfl) (by decide) (by decide) (by decide) (fun c79 => (absurd rfl c79)) (fun c79 => ?_)
    refine fg_aloadn (fg_ft (pc := 82) tb_Reader_openRow 44 rfl) rfl ?_
    refine fg_aloadn (fg_ft (pc := 83) tb_Reader_openRow 45 rfl) rfl ?_
    refine fg_getV (v := (nI sz)) (fg_ft (pc := 84) tb_Reader_openRow 46 rfl) ff_Reader_180 ly_255 rfl (fg_lt ly_255 (by decide)) (show (fg_u2 ν 255 14 (nI sz)) 255 14 = nI sz from fg_u2eq) ?_
    refine fg_iconst (fg_ft (pc := 87) tb_Reader_openRow 47 rfl) ic_0 ?_
    refine fg_aloadn (fg_ft (pc := 88) tb_Reader_openRow 48 rfl) rfl ?_
    refine fg_getK (fg_ft (pc := 89) tb_Reader_openRow 49 rfl) fk_Reader_196_16 ?_
    refine fg_callV (fg_ft (pc := 92) tb_Reader_openRow 50 rfl) cf_Reader_199 (fg_isOf ly_270 rfl (fg_lt ly_270 (by decide))) (as := [.int (nI sz), .int (nI 0), .int (nI 6)]) (st := []) rfl rfl (Nat.le_of_ble_eq_true rfl) (Nat.le_refl _) (Nat.le_refl _) (ev_Rows_put (r := 270) (c := 271) (n := 120) (w := 4) (sz := sz + 1) (i := sz) (j := 0) ⟨ly_270, rh_270_1 R, ly_271⟩ (((fg_u2ne (f := ν) (a := 255) (k := 14) (b := 270) (j := 0) (x := (nI sz)) (by decide)).trans ((hfr 270 0 (by decide) (Or.inr (by decide))).trans (((fg_u2ne (f := (fg_u2 (fg_u2 μ 255 14 (-1)) 255 12 (nI 0))) (a := 255) (k := 13) (b := 270) (j := 0) (x := (-1)) (by decide)).trans ((fg_u2ne (f := (fg_u2 μ 255 14 (-1))) (a := 255) (k := 12) (b := 270) (j := 0) (x := (nI 0)) (by decide)).trans ((fg_u2ne (f := μ) (a := 255) (k := 14) (b := 270) (j := 0) (x := (-1)) (by decide)).trans hw0))))))) (((fg_u2ne (f := ν) (a := 255) (k := 14) (b := 270) (j := 2) (x := (nI sz)) (by decide)).trans hN2)) (by omega) (by decide) (by omega) (by omega) (by decide) ?_)
    show fg_wp _ _ _ _ _ _ _ _ _ (fg_u2 (fg_u2 ν 255 14 (nI sz)) 271 (sz * 4 + 0) (nI 6), fg_rho R, 304)
    exact fg_vret (fg_ft (pc := 95) tb_Reader_openRow 51 rfl) rfl rfl (hR hroom _ (fun a j g1 g2 g3 => (fg_u2ne g1).trans ((fg_u2nx (by omega)).trans ((hfr a j g1 g2).trans ((fg_u2nx (by omega)).trans ((fg_u2nx (by omega)).trans (fg_u2nx (by omega))))))) ((fg_u2ne (by decide)).trans ((fg_u2ne (by decide)).trans hN2)) (fun i hi => by
        rcases Nat.decEq i 0 with q | q
        · refine (fg_u2ns (show ¬ sz * 4 + i = sz * 4 + 0 by omega)).trans ((fg_u2ne (by decide)).trans ((hnew i hi).trans ?_))
          rw [if_neg (by decide), if_neg q]; rfl
        · rw [q]; exact fg_u2eq) (fun i hi => (fg_u2ns (show ¬ i = sz * 4 + 0 from by have hi4 : i < sz * 4 := hi; omega)).trans ((fg_u2ne (by decide)).trans ((hold i hi).trans ((fg_u2ne (by decide)).trans ((fg_u2ne (by decide)).trans (fg_u2ne (by decide))))))) ((fg_u2nx (by omega)).trans fg_u2eq) ((fg_u2nx (by omega)).trans ((fg_u2nx (by omega)).trans ((hfr 255 12 (by decide) (Or.inl (by decide))).trans ((fg_u2ns (by decide)).trans fg_u2eq)))) ((fg_u2nx (by omega)).trans ((fg_u2nx (by omega)).trans ((hfr 255 13 (by decide) (Or.inl (by decide))).trans fg_u2eq))))
  · refine fg_aloadn (fg_ft (pc := 0) tb_Reader_openRow 0 rfl) rfl ?_
    refine fg_aloadn (fg_ft (pc := 1) tb_Reader_openRow 1 rfl) rfl ?_
    refine fg_callV (fg_ft (pc := 2) tb_Reader_openRow 2 rfl) cf_Reader_176 (fg_isOf ly_255 rfl (fg_lt ly_255 (by decide))) (as := [.ref 16]) (st := []) rfl rfl (Nat.le_of_ble_eq_true rfl) (Nat.le_refl _) (Nat.le_refl _) (ev_Reader_rowsOf_16 ?_)
    refine fg_astoren (fg_ft (pc := 5) tb_Reader_openRow 3 rfl) (Nat.le_of_ble_eq_true rfl) ?_
    refine fg_aloadn (fg_ft (pc := 6) tb_Reader_openRow 4 rfl) rfl ?_
    refine fg_iconst (fg_ft (pc := 7) tb_Reader_openRow 5 rfl) ic_m1 ?_
    refine fg_putI (fg_ft (pc := 8) tb_Reader_openRow 6 rfl) ff_Reader_180 ly_255 rfl (fg_lt ly_255 (by decide)) (fg_nokI _) (fun _ _ h => by cases h; rfl) ?_
    show fg_wp _ _ _ _ _ _ _ _ _ (fg_u2 μ 255 14 (-1), fg_rho R, 304)
    refine fg_aloadn (fg_ft (pc := 11) tb_Reader_openRow 7 rfl) rfl ?_
    refine fg_iconst (fg_ft (pc := 12) tb_Reader_openRow 8 rfl) ic_0 ?_
    refine fg_putI (fg_ft (pc := 13) tb_Reader_openRow 9 rfl) ff_Reader_183 ly_255 rfl (fg_lt ly_255 (by decide)) (fg_nokI _) (fun _ _ h => by cases h; rfl) ?_
    show fg_wp _ _ _ _ _ _ _ _ _ (fg_u2 (fg_u2 μ 255 14 (-1)) 255 12 (nI 0), fg_rho R, 304)
    refine fg_aloadn (fg_ft (pc := 16) tb_Reader_openRow 10 rfl) rfl ?_
    refine fg_iconst (fg_ft (pc := 17) tb_Reader_openRow 11 rfl) ic_m1 ?_
    refine fg_putI (fg_ft (pc := 18) tb_Reader_openRow 12 rfl) ff_Reader_186 ly_255 rfl (fg_lt ly_255 (by decide)) (fg_nokI _) (fun _ _ h => by cases h; rfl) ?_
    show fg_wp _ _ _ _ _ _ _ _ _ (fg_u2 (fg_u2 (fg_u2 μ 255 14 (-1)) 255 12 (nI 0)) 255 13 (-1), fg_rho R, 304)
    refine fg_aloadn (fg_ft (pc := 21) tb_Reader_openRow 13 rfl) rfl ?_
    refine fg_ifnull_r (fg_ft (pc := 22) tb_Reader_openRow 14 rfl) ?_
    refine fg_aloadn (fg_ft (pc := 25) tb_Reader_openRow 15 rfl) rfl ?_
    refine fg_gets (fg_ft (pc := 26) tb_Reader_openRow 16 rfl) fs_Reader_143 ?_
    refine fg_acmp_eq (tgt := 39) (fg_ft (pc := 29) tb_Reader_openRow 17 rfl) (by decide) (by decide) (by decide) (fun h => absurd h (by decide)) (fun _ => ?_)
    refine fg_aloadn (fg_ft (pc := 32) tb_Reader_openRow 18 rfl) rfl ?_
    refine fg_gets (fg_ft (pc := 33) tb_Reader_openRow 19 rfl) fs_Reader_146 ?_
    refine fg_acmp_ne (tgt := 40) (fg_ft (pc := 36) tb_Reader_openRow 20 rfl) (by decide) (by decide) (by decide) (fun _ => ?_) (fun h => absurd h (by decide))
    refine fg_aloadn (fg_ft (pc := 40) tb_Reader_openRow 22 rfl) rfl ?_
    refine fg_aloadn (fg_ft (pc := 41) tb_Reader_openRow 23 rfl) rfl ?_
    refine fg_aloadn (fg_ft (pc := 42) tb_Reader_openRow 24 rfl) rfl ?_
    refine fg_callV (fg_ft (pc := 43) tb_Reader_openRow 25 rfl) cf_Reader_117 (Or.inr (pz_isW (w := 16) (by decide))) (as := []) (st := [.ref 270, .ref 255]) rfl rfl (Nat.le_of_ble_eq_true rfl) (Nat.le_refl _) (Nat.le_refl _) (ev_Word_sort_16 ?_)
    refine fg_iconst (fg_ft (pc := 46) tb_Reader_openRow 26 rfl) ic_1 ?_
    refine fg_icmp_neN (tgt := 54) (fg_ft (pc := 47) tb_Reader_openRow 27 rfl) (by decide) (by decide) (by decide) (fun c47 => (absurd rfl c47)) (fun c47 => ?_)
    refine fg_iconst (fg_ft (pc := 50) tb_Reader_openRow 28 rfl) ic_m1 ?_
    refine fg_goto (tgt := 55) (fg_ft (pc := 51) tb_Reader_openRow 29 rfl) (by decide) ?_
    refine fg_callV (fg_ft (pc := 55) tb_Reader_openRow 31 rfl) cf_Reader_189 (fg_isOf ly_270 rfl (fg_lt ly_270 (by decide))) (as := [.int (-1)]) (st := [.ref 255]) rfl rfl (Nat.le_of_ble_eq_true rfl) (Nat.le_refl _) (Nat.le_refl _) (ev_Rows_addFull (r := 270) (c := 271) (n := 120) (w := 4) (sz := sz) ⟨ly_270, rh_270_1 R, ly_271⟩ (by decide) (((fg_u2ne (f := (fg_u2 (fg_u2 μ 255 14 (-1)) 255 12 (nI 0))) (a := 255) (k := 13) (b := 270) (j := 0) (x := (-1)) (by decide)).trans ((fg_u2ne (f := (fg_u2 μ 255 14 (-1))) (a := 255) (k := 12) (b := 270) (j := 0) (x := (nI 0)) (by decide)).trans ((fg_u2ne (f := μ) (a := 255) (k := 14) (b := 270) (j := 0) (x := (-1)) (by decide)).trans hw0)))) (((fg_u2ne (f := (fg_u2 (fg_u2 μ 255 14 (-1)) 255 12 (nI 0))) (a := 255) (k := 13) (b := 270) (j := 2) (x := (-1)) (by decide)).trans ((fg_u2ne (f := (fg_u2 μ 255 14 (-1))) (a := 255) (k := 12) (b := 270) (j := 2) (x := (nI 0)) (by decide)).trans ((fg_u2ne (f := μ) (a := 255) (k := 14) (b := 270) (j := 2) (x := (-1)) (by decide)).trans hs2)))) (by omega) (by decide) (by omega) (by omega) (by omega) ?_)
    refine fg_putI (fg_ft (pc := 58) tb_Reader_openRow 32 rfl) ff_Reader_180 ly_255 rfl (fg_lt ly_255 (by decide)) (fg_nokI _) (fun _ _ h => by cases h; rfl) ?_
    show fg_wp _ _ _ _ _ _ _ _ _ (fg_u2 (fg_u2 (fg_u2 (fg_u2 μ 255 14 (-1)) 255 12 (nI 0)) 255 13 (-1)) 255 14 (-1), fg_rho R, 304)
    refine fg_aloadn (fg_ft (pc := 61) tb_Reader_openRow 33 rfl) rfl ?_
    refine fg_getV (v := (-1)) (fg_ft (pc := 62) tb_Reader_openRow 34 rfl) ff_Reader_180 ly_255 rfl (fg_lt ly_255 (by decide)) (show (fg_u2 (fg_u2 (fg_u2 (fg_u2 μ 255 14 (-1)) 255 12 (nI 0)) 255 13 (-1)) 255 14 (-1)) 255 14 = -1 from fg_u2eq) ?_
    refine fg_iconst (fg_ft (pc := 65) tb_Reader_openRow 35 rfl) ic_m1 ?_
    refine fg_icmp_ne (tgt := 74) (fg_ft (pc := 66) tb_Reader_openRow 36 rfl) (by decide) (fun c66 => (absurd rfl c66)) (fun c66 => ?_)
    by_cases cF : F = 0
    · refine fg_aloadn (fg_ft (pc := 69) tb_Reader_openRow 37 rfl) rfl ?_
      refine fg_iconst (fg_ft (pc := 70) tb_Reader_openRow 38 rfl) ic_3 ?_
      refine fg_callV (fg_ft (pc := 71) tb_Reader_openRow 39 rfl) cf_Reader_192 (fg_isOf ly_255 rfl (fg_lt ly_255 (by decide))) (as := [.int (nI 3)]) (st := []) rfl rfl (Nat.le_of_ble_eq_true rfl) (Nat.le_refl _) (Nat.le_refl _) (ev_Reader_noteFault0 (s := s) (((fg_u2ns (f := (fg_u2 (fg_u2 (fg_u2 μ 255 14 (-1)) 255 12 (nI 0)) 255 13 (-1))) (a := 255) (k := 14) (b := 255) (j := 2) (x := (-1)) (by decide)).trans ((fg_u2ns (f := (fg_u2 (fg_u2 μ 255 14 (-1)) 255 12 (nI 0))) (a := 255) (k := 13) (b := 255) (j := 2) (x := (-1)) (by decide)).trans ((fg_u2ns (f := (fg_u2 μ 255 14 (-1))) (a := 255) (k := 12) (b := 255) (j := 2) (x := (nI 0)) (by decide)).trans ((fg_u2ns (f := μ) (a := 255) (k := 14) (b := 255) (j := 2) (x := (-1)) (by decide)).trans (hF.trans (congrArg nI cF))))))) (((fg_u2ns (f := (fg_u2 (fg_u2 (fg_u2 μ 255 14 (-1)) 255 12 (nI 0)) 255 13 (-1))) (a := 255) (k := 14) (b := 255) (j := 9) (x := (-1)) (by decide)).trans ((fg_u2ns (f := (fg_u2 (fg_u2 μ 255 14 (-1)) 255 12 (nI 0))) (a := 255) (k := 13) (b := 255) (j := 9) (x := (-1)) (by decide)).trans ((fg_u2ns (f := (fg_u2 μ 255 14 (-1))) (a := 255) (k := 12) (b := 255) (j := 9) (x := (nI 0)) (by decide)).trans ((fg_u2ns (f := μ) (a := 255) (k := 14) (b := 255) (j := 9) (x := (-1)) (by decide)).trans h9))))) ?_)
      show fg_wp _ _ _ _ _ _ _ _ _ (fg_u2 (fg_u2 (fg_u2 (fg_u2 (fg_u2 (fg_u2 μ 255 14 (-1)) 255 12 (nI 0)) 255 13 (-1)) 255 14 (-1)) 255 2 (nI 3)) 255 3 (nI s), fg_rho R, 304)
      refine fg_aloadn (fg_ft (pc := 74) tb_Reader_openRow 40 rfl) rfl ?_
      refine fg_callV (fg_ft (pc := 75) tb_Reader_openRow 41 rfl) cf_Reader_117 (Or.inr (pz_isW (w := 16) (by decide))) (as := []) (st := []) rfl rfl (Nat.le_of_ble_eq_true rfl) (Nat.le_refl _) (Nat.le_refl _) (ev_Word_sort_16 ?_)
      refine fg_iconst (fg_ft (pc := 78) tb_Reader_openRow 42 rfl) ic_1 ?_
      refine fg_icmp_neN (tgt := 95) (fg_ft (pc := 79) tb_Reader_openRow 43 rfl) (by decide) (by decide) (by decide) (fun c79 => (absurd rfl c79)) (fun c79 => ?_)
      refine fg_aloadn (fg_ft (pc := 82) tb_Reader_openRow 44 rfl) rfl ?_
      refine fg_aloadn (fg_ft (pc := 83) tb_Reader_openRow 45 rfl) rfl ?_
      refine fg_getV (v := (-1)) (fg_ft (pc := 84) tb_Reader_openRow 46 rfl) ff_Reader_180 ly_255 rfl (fg_lt ly_255 (by decide)) (show (fg_u2 (fg_u2 (fg_u2 (fg_u2 (fg_u2 (fg_u2 μ 255 14 (-1)) 255 12 (nI 0)) 255 13 (-1)) 255 14 (-1)) 255 2 (nI 3)) 255 3 (nI s)) 255 14 = -1 from ((fg_u2nx (by decide)).trans ((fg_u2nx (by decide)).trans fg_u2eq))) ?_
      refine fg_iconst (fg_ft (pc := 87) tb_Reader_openRow 47 rfl) ic_0 ?_
      refine fg_aloadn (fg_ft (pc := 88) tb_Reader_openRow 48 rfl) rfl ?_
      refine fg_getK (fg_ft (pc := 89) tb_Reader_openRow 49 rfl) fk_Reader_196_16 ?_
      refine fg_callV (fg_ft (pc := 92) tb_Reader_openRow 50 rfl) cf_Reader_199 (fg_isOf ly_270 rfl (fg_lt ly_270 (by decide))) (as := [.int (-1), .int (nI 0), .int (nI 6)]) (st := []) rfl rfl (Nat.le_of_ble_eq_true rfl) (Nat.le_refl _) (Nat.le_refl _) (ev_Rows_putOut (r := 270) (c := 271) (n := 120) (w := 4) (sz := sz) ⟨ly_270, rh_270_1 R, ly_271⟩ (((fg_u2ne (f := (fg_u2 (fg_u2 (fg_u2 (fg_u2 (fg_u2 μ 255 14 (-1)) 255 12 (nI 0)) 255 13 (-1)) 255 14 (-1)) 255 2 (nI 3))) (a := 255) (k := 3) (b := 270) (j := 0) (x := (nI s)) (by decide)).trans ((fg_u2ne (f := (fg_u2 (fg_u2 (fg_u2 (fg_u2 μ 255 14 (-1)) 255 12 (nI 0)) 255 13 (-1)) 255 14 (-1))) (a := 255) (k := 2) (b := 270) (j := 0) (x := (nI 3)) (by decide)).trans ((fg_u2ne (f := (fg_u2 (fg_u2 (fg_u2 μ 255 14 (-1)) 255 12 (nI 0)) 255 13 (-1))) (a := 255) (k := 14) (b := 270) (j := 0) (x := (-1)) (by decide)).trans ((fg_u2ne (f := (fg_u2 (fg_u2 μ 255 14 (-1)) 255 12 (nI 0))) (a := 255) (k := 13) (b := 270) (j := 0) (x := (-1)) (by decide)).trans ((fg_u2ne (f := (fg_u2 μ 255 14 (-1))) (a := 255) (k := 12) (b := 270) (j := 0) (x := (nI 0)) (by decide)).trans ((fg_u2ne (f := μ) (a := 255) (k := 14) (b := 270) (j := 0) (x := (-1)) (by decide)).trans hw0))))))) (((fg_u2ne (f := (fg_u2 (fg_u2 (fg_u2 (fg_u2 (fg_u2 μ 255 14 (-1)) 255 12 (nI 0)) 255 13 (-1)) 255 14 (-1)) 255 2 (nI 3))) (a := 255) (k := 3) (b := 270) (j := 2) (x := (nI s)) (by decide)).trans ((fg_u2ne (f := (fg_u2 (fg_u2 (fg_u2 (fg_u2 μ 255 14 (-1)) 255 12 (nI 0)) 255 13 (-1)) 255 14 (-1))) (a := 255) (k := 2) (b := 270) (j := 2) (x := (nI 3)) (by decide)).trans ((fg_u2ne (f := (fg_u2 (fg_u2 (fg_u2 μ 255 14 (-1)) 255 12 (nI 0)) 255 13 (-1))) (a := 255) (k := 14) (b := 270) (j := 2) (x := (-1)) (by decide)).trans ((fg_u2ne (f := (fg_u2 (fg_u2 μ 255 14 (-1)) 255 12 (nI 0))) (a := 255) (k := 13) (b := 270) (j := 2) (x := (-1)) (by decide)).trans ((fg_u2ne (f := (fg_u2 μ 255 14 (-1))) (a := 255) (k := 12) (b := 270) (j := 2) (x := (nI 0)) (by decide)).trans ((fg_u2ne (f := μ) (a := 255) (k := 14) (b := 270) (j := 2) (x := (-1)) (by decide)).trans hs2))))))) (by omega) (by decide) (by omega) (fun h => h.1 (by decide)) ?_)
      exact fg_vret (fg_ft (pc := 95) tb_Reader_openRow 51 rfl) rfl rfl (hN hroom _ (fun a j h => ((fg_u2nx (by omega)).trans ((fg_u2nx (by omega)).trans ((fg_u2nx (by omega)).trans ((fg_u2nx (by omega)).trans ((fg_u2nx (by omega)).trans ((fg_u2nx (by omega)).trans rfl))))))) (fun _ => ⟨(fg_u2ns (by decide)).trans fg_u2eq, fg_u2eq⟩) (fun h => absurd cF h))
    · refine fg_aloadn (fg_ft (pc := 69) tb_Reader_openRow 37 rfl) rfl ?_
      refine fg_iconst (fg_ft (pc := 70) tb_Reader_openRow 38 rfl) ic_3 ?_
      refine fg_callV (fg_ft (pc := 71) tb_Reader_openRow 39 rfl) cf_Reader_192 (fg_isOf ly_255 rfl (fg_lt ly_255 (by decide))) (as := [.int (nI 3)]) (st := []) rfl rfl (Nat.le_of_ble_eq_true rfl) (Nat.le_refl _) (Nat.le_refl _) (ev_Reader_noteFault1 (F := F) (((fg_u2ns (f := (fg_u2 (fg_u2 (fg_u2 μ 255 14 (-1)) 255 12 (nI 0)) 255 13 (-1))) (a := 255) (k := 14) (b := 255) (j := 2) (x := (-1)) (by decide)).trans ((fg_u2ns (f := (fg_u2 (fg_u2 μ 255 14 (-1)) 255 12 (nI 0))) (a := 255) (k := 13) (b := 255) (j := 2) (x := (-1)) (by decide)).trans ((fg_u2ns (f := (fg_u2 μ 255 14 (-1))) (a := 255) (k := 12) (b := 255) (j := 2) (x := (nI 0)) (by decide)).trans ((fg_u2ns (f := μ) (a := 255) (k := 14) (b := 255) (j := 2) (x := (-1)) (by decide)).trans hF))))) hF5 cF ?_)
      refine fg_aloadn (fg_ft (pc := 74) tb_Reader_openRow 40 rfl) rfl ?_
      refine fg_callV (fg_ft (pc := 75) tb_Reader_openRow 41 rfl) cf_Reader_117 (Or.inr (pz_isW (w := 16) (by decide))) (as := []) (st := []) rfl rfl (Nat.le_of_ble_eq_true rfl) (Nat.le_refl _) (Nat.le_refl _) (ev_Word_sort_16 ?_)
      refine fg_iconst (fg_ft (pc := 78) tb_Reader_openRow 42 rfl) ic_1 ?_
      refine fg_icmp_neN (tgt := 95) (fg_ft (pc := 79) tb_Reader_openRow 43 rfl) (by decide) (by decide) (by decide) (fun c79 => (absurd rfl c79)) (fun c79 => ?_)
      refine fg_aloadn (fg_ft (pc := 82) tb_Reader_openRow 44 rfl) rfl ?_
      refine fg_aloadn (fg_ft (pc := 83) tb_Reader_openRow 45 rfl) rfl ?_
      refine fg_getV (v := (-1)) (fg_ft (pc := 84) tb_Reader_openRow 46 rfl) ff_Reader_180 ly_255 rfl (fg_lt ly_255 (by decide)) (show (fg_u2 (fg_u2 (fg_u2 (fg_u2 μ 255 14 (-1)) 255 12 (nI 0)) 255 13 (-1)) 255 14 (-1)) 255 14 = -1 from fg_u2eq) ?_
      refine fg_iconst (fg_ft (pc := 87) tb_Reader_openRow 47 rfl) ic_0 ?_
      refine fg_aloadn (fg_ft (pc := 88) tb_Reader_openRow 48 rfl) rfl ?_
      refine fg_getK (fg_ft (pc := 89) tb_Reader_openRow 49 rfl) fk_Reader_196_16 ?_
      refine fg_callV (fg_ft (pc := 92) tb_Reader_openRow 50 rfl) cf_Reader_199 (fg_isOf ly_270 rfl (fg_lt ly_270 (by decide))) (as := [.int (-1), .int (nI 0), .int (nI 6)]) (st := []) rfl rfl (Nat.le_of_ble_eq_true rfl) (Nat.le_refl _) (Nat.le_refl _) (ev_Rows_putOut (r := 270) (c := 271) (n := 120) (w := 4) (sz := sz) ⟨ly_270, rh_270_1 R, ly_271⟩ (((fg_u2ne (f := (fg_u2 (fg_u2 (fg_u2 μ 255 14 (-1)) 255 12 (nI 0)) 255 13 (-1))) (a := 255) (k := 14) (b := 270) (j := 0) (x := (-1)) (by decide)).trans ((fg_u2ne (f := (fg_u2 (fg_u2 μ 255 14 (-1)) 255 12 (nI 0))) (a := 255) (k := 13) (b := 270) (j := 0) (x := (-1)) (by decide)).trans ((fg_u2ne (f := (fg_u2 μ 255 14 (-1))) (a := 255) (k := 12) (b := 270) (j := 0) (x := (nI 0)) (by decide)).trans ((fg_u2ne (f := μ) (a := 255) (k := 14) (b := 270) (j := 0) (x := (-1)) (by decide)).trans hw0))))) (((fg_u2ne (f := (fg_u2 (fg_u2 (fg_u2 μ 255 14 (-1)) 255 12 (nI 0)) 255 13 (-1))) (a := 255) (k := 14) (b := 270) (j := 2) (x := (-1)) (by decide)).trans ((fg_u2ne (f := (fg_u2 (fg_u2 μ 255 14 (-1)) 255 12 (nI 0))) (a := 255) (k := 13) (b := 270) (j := 2) (x := (-1)) (by decide)).trans ((fg_u2ne (f := (fg_u2 μ 255 14 (-1))) (a := 255) (k := 12) (b := 270) (j := 2) (x := (nI 0)) (by decide)).trans ((fg_u2ne (f := μ) (a := 255) (k := 14) (b := 270) (j := 2) (x := (-1)) (by decide)).trans hs2))))) (by omega) (by decide) (by omega) (fun h => h.1 (by decide)) ?_)
      exact fg_vret (fg_ft (pc := 95) tb_Reader_openRow 51 rfl) rfl rfl (hN hroom _ (fun a j h => ((fg_u2nx (by omega)).trans ((fg_u2nx (by omega)).trans ((fg_u2nx (by omega)).trans ((fg_u2nx (by omega)).trans rfl))))) (fun h => absurd h cF) (fun _ => ⟨((fg_u2nx (by decide)).trans ((fg_u2nx (by decide)).trans ((fg_u2nx (by decide)).trans ((fg_u2nx (by decide)).trans rfl)))), ((fg_u2nx (by decide)).trans ((fg_u2nx (by decide)).trans ((fg_u2nx (by decide)).trans ((fg_u2nx (by decide)).trans rfl))))⟩))
