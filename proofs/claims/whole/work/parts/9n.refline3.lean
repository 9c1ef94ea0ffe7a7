/-! the reference's lines of a town -/
def rz_ahd (r : Nat) : Nat := if r = 4294967295 then 0 else 2 ^ r
theorem rz_ahd_lt {r : Nat} (h : r < 10 ∨ r = 4294967295) : rz_ahd r < 1024 := by
  unfold rz_ahd; split
  · decide
  · exact Nat.pow_lt_pow_right (n := 10) (by decide) (by omega)
def rz_p1 (cell mx base w a : Nat) (Z : rz_Z) : rz_Z := rz_sC Z (pz_up (if Z.2.2.2.2 cell < mx then pz_up Z.2.2.2.2 (base + w * Z.2.2.2.2 cell) a else Z.2.2.2.2) cell (Z.2.2.2.2 cell + 1))
def rz_pm (a b h f : Nat) (Z : rz_Z) : rz_Z := rz_sC Z (pz_up (if Z.2.2.2.2 4 < 12 then pz_up (pz_up (pz_up (pz_up Z.2.2.2.2 (79 + 4 * Z.2.2.2.2 4) a) (79 + 4 * Z.2.2.2.2 4 + 1) b) (79 + 4 * Z.2.2.2.2 4 + 2) h) (79 + 4 * Z.2.2.2.2 4 + 3) f else Z.2.2.2.2) 4 (Z.2.2.2.2 4 + 1))
/-- the other one is another one -/
def rz_dup (K V S : Nat → Nat) (a : Nat) (Z : rz_Z) : rz_Z := if K Z.1 = 1 ∧ V Z.1 = a then rz_al 2 (S Z.1) Z else Z
theorem rz_dup_C {K V S : Nat → Nat} {a : Nat} {Z : rz_Z} : (rz_dup K V S a Z).2.2.2.2 = Z.2.2.2.2 := by
  unfold rz_dup; split
  · exact rz_al_C
  · rfl
def rz_rl (K V S : Nat → Nat) (len at9 : Nat) (Z : rz_Z) : rz_Z := rz_pr 1 16 8 (rz_fa K V S (rz_c3 1 16 at9 Z)).1 (rz_un K V S len (rz_ahd (rz_fa K V S (rz_c3 1 16 at9 Z)).1) (rz_fa K V S (rz_c3 1 16 at9 Z)).2).1 (rz_un K V S len (rz_ahd (rz_fa K V S (rz_c3 1 16 at9 Z)).1) (rz_fa K V S (rz_c3 1 16 at9 Z)).2).2
def rz_sk (K V S : Nat → Nat) (len cell base at9 : Nat) (Z : rz_Z) : rz_Z := rz_pr cell 6 base (rz_nu K V S 0 100 (rz_c3 cell 6 at9 Z)).1 (rz_un K V S len 0 (rz_nu K V S 0 100 (rz_c3 cell 6 at9 Z)).2).1 (rz_un K V S len 0 (rz_nu K V S 0 100 (rz_c3 cell 6 at9 Z)).2).2
theorem ev_Mo_ruleLineX {E : fg_E} {d : Nat} {μ : Nat → Nat → Int32} {R : fg_T4} {Q : Option Value → fg_M → Prop} {b : Nat → Nat} {len : Nat} {Z : rz_Z} (hle : len ≤ 600) (hb256 : ∀ j, b j < 256) (h : rz_RZ μ b len Z) {at9 : Nat} (hat : at9 ≤ 600) (hcnt : ∀ k, 1 ≤ k → k ≤ 6 → Z.2.2.2.2 k ≤ 700) {r u : Nat × rz_Z} (hr : rz_fa (pz_K b len) (pz_V b len) (pz_S b len) (rz_c3 1 16 at9 Z) = r) (hu : rz_un (pz_K b len) (pz_V b len) (pz_S b len) len (rz_ahd r.1) r.2 = u) (hQ : ∀ μ' : Nat → Nat → Int32, rz_ag μ μ' → rz_RZ μ' b len (rz_pr 1 16 8 r.1 u.1 u.2) → Q none (μ', fg_rho R, 304)) : fg_Ev E yy_Mo_ruleLine (d + 8) [.ref 287, .int (nI at9)] (μ, fg_rho R, 304) 304 Q := by
  refine fg_intro (by decide +kernel) (Nat.le_of_ble_eq_true rfl) (fg_okAs rfl) (Nat.le_refl _) ?_
  refine fg_aloadn (fg_ft (pc := 0) tb_Mo_ruleLine 0 rfl) rfl ?_
  refine fg_getR (fg_ft (pc := 1) tb_Mo_ruleLine 1 rfl) ff_Mo_17 ly_287 rfl (fg_lt ly_287 (by decide)) (rh_287_10 R) ?_
  refine fg_iconst (fg_ft (pc := 4) tb_Mo_ruleLine 2 rfl) ic_1 ?_
  have hb0 := hcnt 1 (by decide) (by decide)
  refine fg_ialdV (v := (nI (Z.2.2.2.2 1))) (fg_ft (pc := 5) tb_Mo_ruleLine 3 rfl) ly_290 (fg_lt ly_290 (by decide)) (by omega) (h.2.2.2.2.2.2.1 1 (by omega)) ?_
  refine fg_bipush (fg_ft (pc := 6) tb_Mo_ruleLine 4 rfl) ib_16 ?_
  refine fg_icmp_ltN (tgt := 17) (fg_ft (pc := 8) tb_Mo_ruleLine 5 rfl) (by decide) (by omega) (by decide) (fun c8 => ?_) (fun c8 => ?_)
  · have hc : rz_RZ μ b len (rz_c3 1 16 at9 Z) := by
      unfold rz_c3
      rw [if_neg (by omega)]
      exact h
    refine fg_aloadn (fg_ft (pc := 17) tb_Mo_ruleLine 10 rfl) rfl ?_
    refine fg_callV (fg_ft (pc := 18) tb_Mo_ruleLine 11 rfl) cf_Mo_128 (fg_isOf ly_287 rfl (fg_lt ly_287 (by decide))) (as := []) (st := []) rfl rfl (Nat.le_of_ble_eq_true rfl) (Nat.le_refl _) (Nat.le_refl _) (ev_Mo_factOf hle hb256 hc ?_)
    intro ν1 hg1 h1
    have ag1 := hg1
    rw [hr] at h1 ⊢
    show fg_wp _ _ _ _ _ _ _ _ _ (ν1, fg_rho R, 304)
    have hrb : r.1 < 10 ∨ r.1 = 4294967295 := by rw [← hr]; exact rz_fa_hi
    refine fg_istoren (fg_ft (pc := 21) tb_Mo_ruleLine 12 rfl) (Nat.le_of_ble_eq_true rfl) ?_
    refine fg_aloadn (fg_ft (pc := 22) tb_Mo_ruleLine 13 rfl) rfl ?_
    refine fg_iloadn (fg_ft (pc := 23) tb_Mo_ruleLine 14 rfl) rfl ?_
    refine fg_if_geW (tgt := 31) (fg_ft (pc := 24) tb_Mo_ruleLine 15 rfl) (by decide) (by have := hrb; omega) (fun c24 => ?_) (fun c24 => ?_)
    · refine fg_iconst (fg_ft (pc := 31) tb_Mo_ruleLine 18 rfl) ic_1 ?_
      refine fg_iloadn (fg_ft (pc := 32) tb_Mo_ruleLine 19 rfl) rfl ?_
      refine fg_ishl1 (fg_ft (pc := 33) tb_Mo_ruleLine 20 rfl) (by omega) ?_
      refine fg_top (y := nI (rz_ahd r.1)) (congrArg nI (by unfold rz_ahd; first | rw [if_pos (by omega)] | rw [if_neg (by omega)])) ?_
      refine fg_callV (fg_ft (pc := 34) tb_Mo_ruleLine 21 rfl) cf_Mo_132 (fg_isOf ly_287 rfl (fg_lt ly_287 (by decide))) (as := [.int (nI (rz_ahd r.1))]) (st := []) rfl rfl (Nat.le_of_ble_eq_true rfl) (Nat.le_refl _) (Nat.le_refl _) (ev_Mo_unlike hle hb256 h1 (ah := rz_ahd r.1) (rz_ahd_lt hrb) ?_)
      intro ν2 hg2 h2
      have ag2 := rz_ag_tr ag1 hg2
      rw [hu] at h2 ⊢
      show fg_wp _ _ _ _ _ _ _ _ _ (ν2, fg_rho R, 304)
      refine fg_istoren (fg_ft (pc := 37) tb_Mo_ruleLine 22 rfl) (Nat.le_of_ble_eq_true rfl) ?_
      have hCu : u.2.2.2.2.2 = Z.2.2.2.2 := by rw [← hu, rz_un_C, ← hr, rz_fa_C, rz_c3_C]
      have hb1 : u.2.2.2.2.2 1 ≤ 700 := by rw [hCu]; exact hcnt 1 (by decide) (by decide)
      refine fg_aloadn (fg_ft (pc := 38) tb_Mo_ruleLine 23 rfl) rfl ?_
      refine fg_getR (fg_ft (pc := 39) tb_Mo_ruleLine 24 rfl) ff_Mo_17 ly_287 rfl (fg_lt ly_287 (by decide)) (rh_287_10 R) ?_
      refine fg_iconst (fg_ft (pc := 42) tb_Mo_ruleLine 25 rfl) ic_1 ?_
      refine fg_ialdV (v := (nI (u.2.2.2.2.2 1))) (fg_ft (pc := 43) tb_Mo_ruleLine 26 rfl) ly_290 (fg_lt ly_290 (by decide)) (by omega) (h2.2.2.2.2.2.2.1 1 (by omega)) ?_
      refine fg_bipush (fg_ft (pc := 44) tb_Mo_ruleLine 27 rfl) ib_16 ?_
      refine fg_icmp_geN (tgt := 85) (fg_ft (pc := 46) tb_Mo_ruleLine 28 rfl) (by decide) (by omega) (by decide) (fun c46 => ?_) (fun c46 => ?_)
      · refine fg_aloadn (fg_ft (pc := 85) tb_Mo_ruleLine 55 rfl) rfl ?_
        refine fg_getR (fg_ft (pc := 86) tb_Mo_ruleLine 56 rfl) ff_Mo_17 ly_287 rfl (fg_lt ly_287 (by decide)) (rh_287_10 R) ?_
        refine fg_iconst (fg_ft (pc := 89) tb_Mo_ruleLine 57 rfl) ic_1 ?_
        refine fg_dup2 (fg_ft (pc := 90) tb_Mo_ruleLine 58 rfl) rfl rfl ?_
        refine fg_ialdV (v := (nI (u.2.2.2.2.2 1))) (fg_ft (pc := 91) tb_Mo_ruleLine 59 rfl) ly_290 (fg_lt ly_290 (by decide)) (by omega) (h2.2.2.2.2.2.2.1 1 (by omega)) ?_
        refine fg_iconst (fg_ft (pc := 92) tb_Mo_ruleLine 60 rfl) ic_1 ?_
        refine fg_iaddN (fg_ft (pc := 93) tb_Mo_ruleLine 61 rfl) ?_
        refine fg_iastN (fg_ft (pc := 94) tb_Mo_ruleLine 62 rfl) ly_290 (fg_lt ly_290 (by decide)) (by omega) ?_
        show fg_wp _ _ _ _ _ _ _ _ _ (fg_u2 ν2 290 1 (nI ((u.2.2.2.2.2 1) + 1)), fg_rho R, 304)
        exact fg_vret (fg_ft (pc := 95) tb_Mo_ruleLine 63 rfl) rfl rfl (hQ _ (fun a j p q r => (fg_u2ne r).trans (ag2 a j p q r)) (by
    unfold rz_pr
    rw [if_neg (by omega)]
    exact (h2).put))
      · refine fg_aloadn (fg_ft (pc := 49) tb_Mo_ruleLine 29 rfl) rfl ?_
        refine fg_getR (fg_ft (pc := 50) tb_Mo_ruleLine 30 rfl) ff_Mo_17 ly_287 rfl (fg_lt ly_287 (by decide)) (rh_287_10 R) ?_
        refine fg_bipush (fg_ft (pc := 53) tb_Mo_ruleLine 31 rfl) ib_8 ?_
        refine fg_iconst (fg_ft (pc := 55) tb_Mo_ruleLine 32 rfl) ic_2 ?_
        refine fg_aloadn (fg_ft (pc := 56) tb_Mo_ruleLine 33 rfl) rfl ?_
        refine fg_getR (fg_ft (pc := 57) tb_Mo_ruleLine 34 rfl) ff_Mo_17 ly_287 rfl (fg_lt ly_287 (by decide)) (rh_287_10 R) ?_
        refine fg_iconst (fg_ft (pc := 60) tb_Mo_ruleLine 35 rfl) ic_1 ?_
        refine fg_ialdV (v := (nI (u.2.2.2.2.2 1))) (fg_ft (pc := 61) tb_Mo_ruleLine 36 rfl) ly_290 (fg_lt ly_290 (by decide)) (by omega) (h2.2.2.2.2.2.2.1 1 (by omega)) ?_
        refine fg_imulN (fg_ft (pc := 62) tb_Mo_ruleLine 37 rfl) ?_
        refine fg_iaddN (fg_ft (pc := 63) tb_Mo_ruleLine 38 rfl) ?_
        refine fg_iloadn (fg_ft (pc := 64) tb_Mo_ruleLine 39 rfl) rfl ?_
        refine fg_iastN (fg_ft (pc := 65) tb_Mo_ruleLine 40 rfl) ly_290 (fg_lt ly_290 (by decide)) (by omega) ?_
        show fg_wp _ _ _ _ _ _ _ _ _ (fg_u2 ν2 290 (8 + (2 * (u.2.2.2.2.2 1))) (nI (r.1)), fg_rho R, 304)
        refine fg_aloadn (fg_ft (pc := 66) tb_Mo_ruleLine 41 rfl) rfl ?_
        refine fg_getR (fg_ft (pc := 67) tb_Mo_ruleLine 42 rfl) ff_Mo_17 ly_287 rfl (fg_lt ly_287 (by decide)) (rh_287_10 R) ?_
        refine fg_bipush (fg_ft (pc := 70) tb_Mo_ruleLine 43 rfl) ib_8 ?_
        refine fg_iconst (fg_ft (pc := 72) tb_Mo_ruleLine 44 rfl) ic_2 ?_
        refine fg_aloadn (fg_ft (pc := 73) tb_Mo_ruleLine 45 rfl) rfl ?_
        refine fg_getR (fg_ft (pc := 74) tb_Mo_ruleLine 46 rfl) ff_Mo_17 ly_287 rfl (fg_lt ly_287 (by decide)) (rh_287_10 R) ?_
        refine fg_iconst (fg_ft (pc := 77) tb_Mo_ruleLine 47 rfl) ic_1 ?_
        refine fg_ialdV (v := (nI (u.2.2.2.2.2 1))) (fg_ft (pc := 78) tb_Mo_ruleLine 48 rfl) ly_290 (fg_lt ly_290 (by decide)) (by omega) ((fg_u2ns (f := ν2) (a := 290) (k := (8 + (2 * (u.2.2.2.2.2 1)))) (b := 290) (j := 1) (x := (nI (r.1))) (by omega)).trans (h2.2.2.2.2.2.2.1 1 (by omega))) ?_
        refine fg_imulN (fg_ft (pc := 79) tb_Mo_ruleLine 49 rfl) ?_
        refine fg_iaddN (fg_ft (pc := 80) tb_Mo_ruleLine 50 rfl) ?_
        refine fg_iconst (fg_ft (pc := 81) tb_Mo_ruleLine 51 rfl) ic_1 ?_
        refine fg_iaddN (fg_ft (pc := 82) tb_Mo_ruleLine 52 rfl) ?_
        refine fg_iloadn (fg_ft (pc := 83) tb_Mo_ruleLine 53 rfl) rfl ?_
        refine fg_iastN (fg_ft (pc := 84) tb_Mo_ruleLine 54 rfl) ly_290 (fg_lt ly_290 (by decide)) (by omega) ?_
        show fg_wp _ _ _ _ _ _ _ _ _ (fg_u2 (fg_u2 ν2 290 (8 + (2 * (u.2.2.2.2.2 1))) (nI (r.1))) 290 ((8 + (2 * (u.2.2.2.2.2 1))) + 1) (nI (u.1)), fg_rho R, 304)
        refine fg_aloadn (fg_ft (pc := 85) tb_Mo_ruleLine 55 rfl) rfl ?_
        refine fg_getR (fg_ft (pc := 86) tb_Mo_ruleLine 56 rfl) ff_Mo_17 ly_287 rfl (fg_lt ly_287 (by decide)) (rh_287_10 R) ?_
        refine fg_iconst (fg_ft (pc := 89) tb_Mo_ruleLine 57 rfl) ic_1 ?_
        refine fg_dup2 (fg_ft (pc := 90) tb_Mo_ruleLine 58 rfl) rfl rfl ?_
        refine fg_ialdV (v := (nI (u.2.2.2.2.2 1))) (fg_ft (pc := 91) tb_Mo_ruleLine 59 rfl) ly_290 (fg_lt ly_290 (by decide)) (by omega) ((fg_u2ns (f := (fg_u2 ν2 290 (8 + (2 * (u.2.2.2.2.2 1))) (nI (r.1)))) (a := 290) (k := ((8 + (2 * (u.2.2.2.2.2 1))) + 1)) (b := 290) (j := 1) (x := (nI (u.1))) (by omega)).trans ((fg_u2ns (f := ν2) (a := 290) (k := (8 + (2 * (u.2.2.2.2.2 1)))) (b := 290) (j := 1) (x := (nI (r.1))) (by omega)).trans (h2.2.2.2.2.2.2.1 1 (by omega)))) ?_
        refine fg_iconst (fg_ft (pc := 92) tb_Mo_ruleLine 60 rfl) ic_1 ?_
        refine fg_iaddN (fg_ft (pc := 93) tb_Mo_ruleLine 61 rfl) ?_
        refine fg_iastN (fg_ft (pc := 94) tb_Mo_ruleLine 62 rfl) ly_290 (fg_lt ly_290 (by decide)) (by omega) ?_
        show fg_wp _ _ _ _ _ _ _ _ _ (fg_u2 (fg_u2 (fg_u2 ν2 290 (8 + (2 * (u.2.2.2.2.2 1))) (nI (r.1))) 290 ((8 + (2 * (u.2.2.2.2.2 1))) + 1) (nI (u.1))) 290 1 (nI ((u.2.2.2.2.2 1) + 1)), fg_rho R, 304)
        exact fg_vret (fg_ft (pc := 95) tb_Mo_ruleLine 63 rfl) rfl rfl (hQ _ (fun a j p q r => (fg_u2ne r).trans ((fg_u2ne r).trans ((fg_u2ne r).trans (ag2 a j p q r)))) (by
    unfold rz_pr
    rw [if_pos (by omega)]
    exact (((h2).put).put).put))
    · refine fg_iconst (fg_ft (pc := 27) tb_Mo_ruleLine 16 rfl) ic_0 ?_
      refine fg_goto (tgt := 34) (fg_ft (pc := 28) tb_Mo_ruleLine 17 rfl) (by decide) ?_
      refine fg_top (y := nI (rz_ahd r.1)) (congrArg nI (by unfold rz_ahd; first | rw [if_pos (by omega)] | rw [if_neg (by omega)])) ?_
      refine fg_callV (fg_ft (pc := 34) tb_Mo_ruleLine 21 rfl) cf_Mo_132 (fg_isOf ly_287 rfl (fg_lt ly_287 (by decide))) (as := [.int (nI (rz_ahd r.1))]) (st := []) rfl rfl (Nat.le_of_ble_eq_true rfl) (Nat.le_refl _) (Nat.le_refl _) (ev_Mo_unlike hle hb256 h1 (ah := rz_ahd r.1) (rz_ahd_lt hrb) ?_)
      intro ν3 hg3 h3
      have ag3 := rz_ag_tr ag1 hg3
      rw [hu] at h3 ⊢
      show fg_wp _ _ _ _ _ _ _ _ _ (ν3, fg_rho R, 304)
      refine fg_istoren (fg_ft (pc := 37) tb_Mo_ruleLine 22 rfl) (Nat.le_of_ble_eq_true rfl) ?_
      have hCu : u.2.2.2.2.2 = Z.2.2.2.2 := by rw [← hu, rz_un_C, ← hr, rz_fa_C, rz_c3_C]
      have hb1 : u.2.2.2.2.2 1 ≤ 700 := by rw [hCu]; exact hcnt 1 (by decide) (by decide)
      refine fg_aloadn (fg_ft (pc := 38) tb_Mo_ruleLine 23 rfl) rfl ?_
      refine fg_getR (fg_ft (pc := 39) tb_Mo_ruleLine 24 rfl) ff_Mo_17 ly_287 rfl (fg_lt ly_287 (by decide)) (rh_287_10 R) ?_
      refine fg_iconst (fg_ft (pc := 42) tb_Mo_ruleLine 25 rfl) ic_1 ?_
      refine fg_ialdV (v := (nI (u.2.2.2.2.2 1))) (fg_ft (pc := 43) tb_Mo_ruleLine 26 rfl) ly_290 (fg_lt ly_290 (by decide)) (by omega) (h3.2.2.2.2.2.2.1 1 (by omega)) ?_
      refine fg_bipush (fg_ft (pc := 44) tb_Mo_ruleLine 27 rfl) ib_16 ?_
      refine fg_icmp_geN (tgt := 85) (fg_ft (pc := 46) tb_Mo_ruleLine 28 rfl) (by decide) (by omega) (by decide) (fun c46 => ?_) (fun c46 => ?_)
      · refine fg_aloadn (fg_ft (pc := 85) tb_Mo_ruleLine 55 rfl) rfl ?_
        refine fg_getR (fg_ft (pc := 86) tb_Mo_ruleLine 56 rfl) ff_Mo_17 ly_287 rfl (fg_lt ly_287 (by decide)) (rh_287_10 R) ?_
        refine fg_iconst (fg_ft (pc := 89) tb_Mo_ruleLine 57 rfl) ic_1 ?_
        refine fg_dup2 (fg_ft (pc := 90) tb_Mo_ruleLine 58 rfl) rfl rfl ?_
        refine fg_ialdV (v := (nI (u.2.2.2.2.2 1))) (fg_ft (pc := 91) tb_Mo_ruleLine 59 rfl) ly_290 (fg_lt ly_290 (by decide)) (by omega) (h3.2.2.2.2.2.2.1 1 (by omega)) ?_
        refine fg_iconst (fg_ft (pc := 92) tb_Mo_ruleLine 60 rfl) ic_1 ?_
        refine fg_iaddN (fg_ft (pc := 93) tb_Mo_ruleLine 61 rfl) ?_
        refine fg_iastN (fg_ft (pc := 94) tb_Mo_ruleLine 62 rfl) ly_290 (fg_lt ly_290 (by decide)) (by omega) ?_
        show fg_wp _ _ _ _ _ _ _ _ _ (fg_u2 ν3 290 1 (nI ((u.2.2.2.2.2 1) + 1)), fg_rho R, 304)
        exact fg_vret (fg_ft (pc := 95) tb_Mo_ruleLine 63 rfl) rfl rfl (hQ _ (fun a j p q r => (fg_u2ne r).trans (ag3 a j p q r)) (by
    unfold rz_pr
    rw [if_neg (by omega)]
    exact (h3).put))
      · refine fg_aloadn (fg_ft (pc := 49) tb_Mo_ruleLine 29 rfl) rfl ?_
        refine fg_getR (fg_ft (pc := 50) tb_Mo_ruleLine 30 rfl) ff_Mo_17 ly_287 rfl (fg_lt ly_287 (by decide)) (rh_287_10 R) ?_
        refine fg_bipush (fg_ft (pc := 53) tb_Mo_ruleLine 31 rfl) ib_8 ?_
        refine fg_iconst (fg_ft (pc := 55) tb_Mo_ruleLine 32 rfl) ic_2 ?_
        refine fg_aloadn (fg_ft (pc := 56) tb_Mo_ruleLine 33 rfl) rfl ?_
        refine fg_getR (fg_ft (pc := 57) tb_Mo_ruleLine 34 rfl) ff_Mo_17 ly_287 rfl (fg_lt ly_287 (by decide)) (rh_287_10 R) ?_
        refine fg_iconst (fg_ft (pc := 60) tb_Mo_ruleLine 35 rfl) ic_1 ?_
        refine fg_ialdV (v := (nI (u.2.2.2.2.2 1))) (fg_ft (pc := 61) tb_Mo_ruleLine 36 rfl) ly_290 (fg_lt ly_290 (by decide)) (by omega) (h3.2.2.2.2.2.2.1 1 (by omega)) ?_
        refine fg_imulN (fg_ft (pc := 62) tb_Mo_ruleLine 37 rfl) ?_
        refine fg_iaddN (fg_ft (pc := 63) tb_Mo_ruleLine 38 rfl) ?_
        refine fg_iloadn (fg_ft (pc := 64) tb_Mo_ruleLine 39 rfl) rfl ?_
        refine fg_iastN (fg_ft (pc := 65) tb_Mo_ruleLine 40 rfl) ly_290 (fg_lt ly_290 (by decide)) (by omega) ?_
        show fg_wp _ _ _ _ _ _ _ _ _ (fg_u2 ν3 290 (8 + (2 * (u.2.2.2.2.2 1))) (nI (r.1)), fg_rho R, 304)
        refine fg_aloadn (fg_ft (pc := 66) tb_Mo_ruleLine 41 rfl) rfl ?_
        refine fg_getR (fg_ft (pc := 67) tb_Mo_ruleLine 42 rfl) ff_Mo_17 ly_287 rfl (fg_lt ly_287 (by decide)) (rh_287_10 R) ?_
        refine fg_bipush (fg_ft (pc := 70) tb_Mo_ruleLine 43 rfl) ib_8 ?_
        refine fg_iconst (fg_ft (pc := 72) tb_Mo_ruleLine 44 rfl) ic_2 ?_
        refine fg_aloadn (fg_ft (pc := 73) tb_Mo_ruleLine 45 rfl) rfl ?_
        refine fg_getR (fg_ft (pc := 74) tb_Mo_ruleLine 46 rfl) ff_Mo_17 ly_287 rfl (fg_lt ly_287 (by decide)) (rh_287_10 R) ?_
        refine fg_iconst (fg_ft (pc := 77) tb_Mo_ruleLine 47 rfl) ic_1 ?_
        refine fg_ialdV (v := (nI (u.2.2.2.2.2 1))) (fg_ft (pc := 78) tb_Mo_ruleLine 48 rfl) ly_290 (fg_lt ly_290 (by decide)) (by omega) ((fg_u2ns (f := ν3) (a := 290) (k := (8 + (2 * (u.2.2.2.2.2 1)))) (b := 290) (j := 1) (x := (nI (r.1))) (by omega)).trans (h3.2.2.2.2.2.2.1 1 (by omega))) ?_
        refine fg_imulN (fg_ft (pc := 79) tb_Mo_ruleLine 49 rfl) ?_
        refine fg_iaddN (fg_ft (pc := 80) tb_Mo_ruleLine 50 rfl) ?_
        refine fg_iconst (fg_ft (pc := 81) tb_Mo_ruleLine 51 rfl) ic_1 ?_
        refine fg_iaddN (fg_ft (pc := 82) tb_Mo_ruleLine 52 rfl) ?_
        refine fg_iloadn (fg_ft (pc := 83) tb_Mo_ruleLine 53 rfl) rfl ?_
        refine fg_iastN (fg_ft (pc := 84) tb_Mo_ruleLine 54 rfl) ly_290 (fg_lt ly_290 (by decide)) (by omega) ?_
        show fg_wp _ _ _ _ _ _ _ _ _ (fg_u2 (fg_u2 ν3 290 (8 + (2 * (u.2.2.2.2.2 1))) (nI (r.1))) 290 ((8 + (2 * (u.2.2.2.2.2 1))) + 1) (nI (u.1)), fg_rho R, 304)
        refine fg_aloadn (fg_ft (pc := 85) tb_Mo_ruleLine 55 rfl) rfl ?_
        refine fg_getR (fg_ft (pc := 86) tb_Mo_ruleLine 56 rfl) ff_Mo_17 ly_287 rfl (fg_lt ly_287 (by decide)) (rh_287_10 R) ?_
        refine fg_iconst (fg_ft (pc := 89) tb_Mo_ruleLine 57 rfl) ic_1 ?_
        refine fg_dup2 (fg_ft (pc := 90) tb_Mo_ruleLine 58 rfl) rfl rfl ?_
        refine fg_ialdV (v := (nI (u.2.2.2.2.2 1))) (fg_ft (pc := 91) tb_Mo_ruleLine 59 rfl) ly_290 (fg_lt ly_290 (by decide)) (by omega) ((fg_u2ns (f := (fg_u2 ν3 290 (8 + (2 * (u.2.2.2.2.2 1))) (nI (r.1)))) (a := 290) (k := ((8 + (2 * (u.2.2.2.2.2 1))) + 1)) (b := 290) (j := 1) (x := (nI (u.1))) (by omega)).trans ((fg_u2ns (f := ν3) (a := 290) (k := (8 + (2 * (u.2.2.2.2.2 1)))) (b := 290) (j := 1) (x := (nI (r.1))) (by omega)).trans (h3.2.2.2.2.2.2.1 1 (by omega)))) ?_
        refine fg_iconst (fg_ft (pc := 92) tb_Mo_ruleLine 60 rfl) ic_1 ?_
        refine fg_iaddN (fg_ft (pc := 93) tb_Mo_ruleLine 61 rfl) ?_
        refine fg_iastN (fg_ft (pc := 94) tb_Mo_ruleLine 62 rfl) ly_290 (fg_lt ly_290 (by decide)) (by omega) ?_
        show fg_wp _ _ _ _ _ _ _ _ _ (fg_u2 (fg_u2 (fg_u2 ν3 290 (8 + (2 * (u.2.2.2.2.2 1))) (nI (r.1))) 290 ((8 + (2 * (u.2.2.2.2.2 1))) + 1) (nI (u.1))) 290 1 (nI ((u.2.2.2.2.2 1) + 1)), fg_rho R, 304)
        exact fg_vret (fg_ft (pc := 95) tb_Mo_ruleLine 63 rfl) rfl rfl (hQ _ (fun a j p q r => (fg_u2ne r).trans ((fg_u2ne r).trans ((fg_u2ne r).trans (ag3 a j p q r)))) (by
    unfold rz_pr
    rw [if_pos (by omega)]
    exact (((h3).put).put).put))
  · refine fg_aloadn (fg_ft (pc := 11) tb_Mo_ruleLine 6 rfl) rfl ?_
    refine fg_iconst (fg_ft (pc := 12) tb_Mo_ruleLine 7 rfl) ic_3 ?_
    refine fg_iloadn (fg_ft (pc := 13) tb_Mo_ruleLine 8 rfl) rfl ?_
    refine fg_callV (fg_ft (pc := 14) tb_Mo_ruleLine 9 rfl) cf_Mo_114 (fg_isOf ly_287 rfl (fg_lt ly_287 (by decide))) (as := [.int (nI 3), .int (nI at9)]) (st := []) rfl rfl (Nat.le_of_ble_eq_true rfl) (Nat.le_refl _) (Nat.le_refl _) (ev_Mo_also (kd := 3) (at9 := at9) hle hb256 h (by decide) (by decide) (by decide) (hat) ?_)
    intro ν4 hg4 h4
    have ag4 := hg4
    show fg_wp _ _ _ _ _ _ _ _ _ (ν4, fg_rho R, 304)
    have hc : rz_RZ ν4 b len (rz_c3 1 16 at9 Z) := by
      unfold rz_c3
      rw [if_pos (by omega)]
      exact h4
    refine fg_aloadn (fg_ft (pc := 17) tb_Mo_ruleLine 10 rfl) rfl ?_
    refine fg_callV (fg_ft (pc := 18) tb_Mo_ruleLine 11 rfl) cf_Mo_128 (fg_isOf ly_287 rfl (fg_lt ly_287 (by decide))) (as := []) (st := []) rfl rfl (Nat.le_of_ble_eq_true rfl) (Nat.le_refl _) (Nat.le_refl _) (ev_Mo_factOf hle hb256 hc ?_)
    intro ν5 hg5 h5
    have ag5 := rz_ag_tr ag4 hg5
    rw [hr] at h5 ⊢
    show fg_wp _ _ _ _ _ _ _ _ _ (ν5, fg_rho R, 304)
    have hrb : r.1 < 10 ∨ r.1 = 4294967295 := by rw [← hr]; exact rz_fa_hi
    refine fg_istoren (fg_ft (pc := 21) tb_Mo_ruleLine 12 rfl) (Nat.le_of_ble_eq_true rfl) ?_
    refine fg_aloadn (fg_ft (pc := 22) tb_Mo_ruleLine 13 rfl) rfl ?_
    refine fg_iloadn (fg_ft (pc := 23) tb_Mo_ruleLine 14 rfl) rfl ?_
    refine fg_if_geW (tgt := 31) (fg_ft (pc := 24) tb_Mo_ruleLine 15 rfl) (by decide) (by have := hrb; omega) (fun c24 => ?_) (fun c24 => ?_)
    · refine fg_iconst (fg_ft (pc := 31) tb_Mo_ruleLine 18 rfl) ic_1 ?_
      refine fg_iloadn (fg_ft (pc := 32) tb_Mo_ruleLine 19 rfl) rfl ?_
      refine fg_ishl1 (fg_ft (pc := 33) tb_Mo_ruleLine 20 rfl) (by omega) ?_
      refine fg_top (y := nI (rz_ahd r.1)) (congrArg nI (by unfold rz_ahd; first | rw [if_pos (by omega)] | rw [if_neg (by omega)])) ?_
      refine fg_callV (fg_ft (pc := 34) tb_Mo_ruleLine 21 rfl) cf_Mo_132 (fg_isOf ly_287 rfl (fg_lt ly_287 (by decide))) (as := [.int (nI (rz_ahd r.1))]) (st := []) rfl rfl (Nat.le_of_ble_eq_true rfl) (Nat.le_refl _) (Nat.le_refl _) (ev_Mo_unlike hle hb256 h5 (ah := rz_ahd r.1) (rz_ahd_lt hrb) ?_)
      intro ν6 hg6 h6
      have ag6 := rz_ag_tr ag5 hg6
      rw [hu] at h6 ⊢
      show fg_wp _ _ _ _ _ _ _ _ _ (ν6, fg_rho R, 304)
      refine fg_istoren (fg_ft (pc := 37) tb_Mo_ruleLine 22 rfl) (Nat.le_of_ble_eq_true rfl) ?_
      have hCu : u.2.2.2.2.2 = Z.2.2.2.2 := by rw [← hu, rz_un_C, ← hr, rz_fa_C, rz_c3_C]
      have hb1 : u.2.2.2.2.2 1 ≤ 700 := by rw [hCu]; exact hcnt 1 (by decide) (by decide)
      refine fg_aloadn (fg_ft (pc := 38) tb_Mo_ruleLine 23 rfl) rfl ?_
      refine fg_getR (fg_ft (pc := 39) tb_Mo_ruleLine 24 rfl) ff_Mo_17 ly_287 rfl (fg_lt ly_287 (by decide)) (rh_287_10 R) ?_
      refine fg_iconst (fg_ft (pc := 42) tb_Mo_ruleLine 25 rfl) ic_1 ?_
      refine fg_ialdV (v := (nI (u.2.2.2.2.2 1))) (fg_ft (pc := 43) tb_Mo_ruleLine 26 rfl) ly_290 (fg_lt ly_290 (by decide)) (by omega) (h6.2.2.2.2.2.2.1 1 (by omega)) ?_
      refine fg_bipush (fg_ft (pc := 44) tb_Mo_ruleLine 27 rfl) ib_16 ?_
      refine fg_icmp_geN (tgt := 85) (fg_ft (pc := 46) tb_Mo_ruleLine 28 rfl) (by decide) (by omega) (by decide) (fun c46 => ?_) (fun c46 => ?_)
      · refine fg_aloadn (fg_ft (pc := 85) tb_Mo_ruleLine 55 rfl) rfl ?_
        refine fg_getR (fg_ft (pc := 86) tb_Mo_ruleLine 56 rfl) ff_Mo_17 ly_287 rfl (fg_lt ly_287 (by decide)) (rh_287_10 R) ?_
        refine fg_iconst (fg_ft (pc := 89) tb_Mo_ruleLine 57 rfl) ic_1 ?_
        refine fg_dup2 (fg_ft (pc := 90) tb_Mo_ruleLine 58 rfl) rfl rfl ?_
        refine fg_ialdV (v := (nI (u.2.2.2.2.2 1))) (fg_ft (pc := 91) tb_Mo_ruleLine 59 rfl) ly_290 (fg_lt ly_290 (by decide)) (by omega) (h6.2.2.2.2.2.2.1 1 (by omega)) ?_
        refine fg_iconst (fg_ft (pc := 92) tb_Mo_ruleLine 60 rfl) ic_1 ?_
        refine fg_iaddN (fg_ft (pc := 93) tb_Mo_ruleLine 61 rfl) ?_
        refine fg_iastN (fg_ft (pc := 94) tb_Mo_ruleLine 62 rfl) ly_290 (fg_lt ly_290 (by decide)) (by omega) ?_
        show fg_wp _ _ _ _ _ _ _ _ _ (fg_u2 ν6 290 1 (nI ((u.2.2.2.2.2 1) + 1)), fg_rho R, 304)
        exact fg_vret (fg_ft (pc := 95) tb_Mo_ruleLine 63 rfl) rfl rfl (hQ _ (fun a j p q r => (fg_u2ne r).trans (ag6 a j p q r)) (by
    unfold rz_pr
    rw [if_neg (by omega)]
    exact (h6).put))
      · refine fg_aloadn (fg_ft (pc := 49) tb_Mo_ruleLine 29 rfl) rfl ?_
        refine fg_getR (fg_ft (pc := 50) tb_Mo_ruleLine 30 rfl) ff_Mo_17 ly_287 rfl (fg_lt ly_287 (by decide)) (rh_287_10 R) ?_
        refine fg_bipush (fg_ft (pc := 53) tb_Mo_ruleLine 31 rfl) ib_8 ?_
        refine fg_iconst (fg_ft (pc := 55) tb_Mo_ruleLine 32 rfl) ic_2 ?_
        refine fg_aloadn (fg_ft (pc := 56) tb_Mo_ruleLine 33 rfl) rfl ?_
        refine fg_getR (fg_ft (pc := 57) tb_Mo_ruleLine 34 rfl) ff_Mo_17 ly_287 rfl (fg_lt ly_287 (by decide)) (rh_287_10 R) ?_
        refine fg_iconst (fg_ft (pc := 60) tb_Mo_ruleLine 35 rfl) ic_1 ?_
        refine fg_ialdV (v := (nI (u.2.2.2.2.2 1))) (fg_ft (pc := 61) tb_Mo_ruleLine 36 rfl) ly_290 (fg_lt ly_290 (by decide)) (by omega) (h6.2.2.2.2.2.2.1 1 (by omega)) ?_
        refine fg_imulN (fg_ft (pc := 62) tb_Mo_ruleLine 37 rfl) ?_
        refine fg_iaddN (fg_ft (pc := 63) tb_Mo_ruleLine 38 rfl) ?_
        refine fg_iloadn (fg_ft (pc := 64) tb_Mo_ruleLine 39 rfl) rfl ?_
        refine fg_iastN (fg_ft (pc := 65) tb_Mo_ruleLine 40 rfl) ly_290 (fg_lt ly_290 (by decide)) (by omega) ?_
        show fg_wp _ _ _ _ _ _ _ _ _ (fg_u2 ν6 290 (8 + (2 * (u.2.2.2.2.2 1))) (nI (r.1)), fg_rho R, 304)
        refine fg_aloadn (fg_ft (pc := 66) tb_Mo_ruleLine 41 rfl) rfl ?_
        refine fg_getR (fg_ft (pc := 67) tb_Mo_ruleLine 42 rfl) ff_Mo_17 ly_287 rfl (fg_lt ly_287 (by decide)) (rh_287_10 R) ?_
        refine fg_bipush (fg_ft (pc := 70) tb_Mo_ruleLine 43 rfl) ib_8 ?_
        refine fg_iconst (fg_ft (pc := 72) tb_Mo_ruleLine 44 rfl) ic_2 ?_
        refine fg_aloadn (fg_ft (pc := 73) tb_Mo_ruleLine 45 rfl) rfl ?_
        refine fg_getR (fg_ft (pc := 74) tb_Mo_ruleLine 46 rfl) ff_Mo_17 ly_287 rfl (fg_lt ly_287 (by decide)) (rh_287_10 R) ?_
        refine fg_iconst (fg_ft (pc := 77) tb_Mo_ruleLine 47 rfl) ic_1 ?_
        refine fg_ialdV (v := (nI (u.2.2.2.2.2 1))) (fg_ft (pc := 78) tb_Mo_ruleLine 48 rfl) ly_290 (fg_lt ly_290 (by decide)) (by omega) ((fg_u2ns (f := ν6) (a := 290) (k := (8 + (2 * (u.2.2.2.2.2 1)))) (b := 290) (j := 1) (x := (nI (r.1))) (by omega)).trans (h6.2.2.2.2.2.2.1 1 (by omega))) ?_
        refine fg_imulN (fg_ft (pc := 79) tb_Mo_ruleLine 49 rfl) ?_
        refine fg_iaddN (fg_ft (pc := 80) tb_Mo_ruleLine 50 rfl) ?_
        refine fg_iconst (fg_ft (pc := 81) tb_Mo_ruleLine 51 rfl) ic_1 ?_
        refine fg_iaddN (fg_ft (pc := 82) tb_Mo_ruleLine 52 rfl) ?_
        refine fg_iloadn (fg_ft (pc := 83) tb_Mo_ruleLine 53 rfl) rfl ?_
        refine fg_iastN (fg_ft (pc := 84) tb_Mo_ruleLine 54 rfl) ly_290 (fg_lt ly_290 (by decide)) (by omega) ?_
        show fg_wp _ _ _ _ _ _ _ _ _ (fg_u2 (fg_u2 ν6 290 (8 + (2 * (u.2.2.2.2.2 1))) (nI (r.1))) 290 ((8 + (2 * (u.2.2.2.2.2 1))) + 1) (nI (u.1)), fg_rho R, 304)
        refine fg_aloadn (fg_ft (pc := 85) tb_Mo_ruleLine 55 rfl) rfl ?_
        refine fg_getR (fg_ft (pc := 86) tb_Mo_ruleLine 56 rfl) ff_Mo_17 ly_287 rfl (fg_lt ly_287 (by decide)) (rh_287_10 R) ?_
        refine fg_iconst (fg_ft (pc := 89) tb_Mo_ruleLine 57 rfl) ic_1 ?_
        refine fg_dup2 (fg_ft (pc := 90) tb_Mo_ruleLine 58 rfl) rfl rfl ?_
        refine fg_ialdV (v := (nI (u.2.2.2.2.2 1))) (fg_ft (pc := 91) tb_Mo_ruleLine 59 rfl) ly_290 (fg_lt ly_290 (by decide)) (by omega) ((fg_u2ns (f := (fg_u2 ν6 290 (8 + (2 * (u.2.2.2.2.2 1))) (nI (r.1)))) (a := 290) (k := ((8 + (2 * (u.2.2.2.2.2 1))) + 1)) (b := 290) (j := 1) (x := (nI (u.1))) (by omega)).trans ((fg_u2ns (f := ν6) (a := 290) (k := (8 + (2 * (u.2.2.2.2.2 1)))) (b := 290) (j := 1) (x := (nI (r.1))) (by omega)).trans (h6.2.2.2.2.2.2.1 1 (by omega)))) ?_
        refine fg_iconst (fg_ft (pc := 92) tb_Mo_ruleLine 60 rfl) ic_1 ?_
        refine fg_iaddN (fg_ft (pc := 93) tb_Mo_ruleLine 61 rfl) ?_
        refine fg_iastN (fg_ft (pc := 94) tb_Mo_ruleLine 62 rfl) ly_290 (fg_lt ly_290 (by decide)) (by omega) ?_
        show fg_wp _ _ _ _ _ _ _ _ _ (fg_u2 (fg_u2 (fg_u2 ν6 290 (8 + (2 * (u.2.2.2.2.2 1))) (nI (r.1))) 290 ((8 + (2 * (u.2.2.2.2.2 1))) + 1) (nI (u.1))) 290 1 (nI ((u.2.2.2.2.2 1) + 1)), fg_rho R, 304)
        exact fg_vret (fg_ft (pc := 95) tb_Mo_ruleLine 63 rfl) rfl rfl (hQ _ (fun a j p q r => (fg_u2ne r).trans ((fg_u2ne r).trans ((fg_u2ne r).trans (ag6 a j p q r)))) (by
    unfold rz_pr
    rw [if_pos (by omega)]
    exact (((h6).put).put).put))
    · refine fg_iconst (fg_ft (pc := 27) tb_Mo_ruleLine 16 rfl) ic_0 ?_
      refine fg_goto (tgt := 34) (fg_ft (pc := 28) tb_Mo_ruleLine 17 rfl) (by decide) ?_
      refine fg_top (y := nI (rz_ahd r.1)) (congrArg nI (by unfold rz_ahd; first | rw [if_pos (by omega)] | rw [if_neg (by omega)])) ?_
      refine fg_callV (fg_ft (pc := 34) tb_Mo_ruleLine 21 rfl) cf_Mo_132 (fg_isOf ly_287 rfl (fg_lt ly_287 (by decide))) (as := [.int (nI (rz_ahd r.1))]) (st := []) rfl rfl (Nat.le_of_ble_eq_true rfl) (Nat.le_refl _) (Nat.le_refl _) (ev_Mo_unlike hle hb256 h5 (ah := rz_ahd r.1) (rz_ahd_lt hrb) ?_)
      intro ν7 hg7 h7
      have ag7 := rz_ag_tr ag5 hg7
      rw [hu] at h7 ⊢
      show fg_wp _ _ _ _ _ _ _ _ _ (ν7, fg_rho R, 304)
      refine fg_istoren (fg_ft (pc := 37) tb_Mo_ruleLine 22 rfl) (Nat.le_of_ble_eq_true rfl) ?_
      have hCu : u.2.2.2.2.2 = Z.2.2.2.2 := by rw [← hu, rz_un_C, ← hr, rz_fa_C, rz_c3_C]
      have hb1 : u.2.2.2.2.2 1 ≤ 700 := by rw [hCu]; exact hcnt 1 (by decide) (by decide)
      refine fg_aloadn (fg_ft (pc := 38) tb_Mo_ruleLine 23 rfl) rfl ?_
      refine fg_getR (fg_ft (pc := 39) tb_Mo_ruleLine 24 rfl) ff_Mo_17 ly_287 rfl (fg_lt ly_287 (by decide)) (rh_287_10 R) ?_
      refine fg_iconst (fg_ft (pc := 42) tb_Mo_ruleLine 25 rfl) ic_1 ?_
      refine fg_ialdV (v := (nI (u.2.2.2.2.2 1))) (fg_ft (pc := 43) tb_Mo_ruleLine 26 rfl) ly_290 (fg_lt ly_290 (by decide)) (by omega) (h7.2.2.2.2.2.2.1 1 (by omega)) ?_
      refine fg_bipush (fg_ft (pc := 44) tb_Mo_ruleLine 27 rfl) ib_16 ?_
      refine fg_icmp_geN (tgt := 85) (fg_ft (pc := 46) tb_Mo_ruleLine 28 rfl) (by decide) (by omega) (by decide) (fun c46 => ?_) (fun c46 => ?_)
      · refine fg_aloadn (fg_ft (pc := 85) tb_Mo_ruleLine 55 rfl) rfl ?_
        refine fg_getR (fg_ft (pc := 86) tb_Mo_ruleLine 56 rfl) ff_Mo_17 ly_287 rfl (fg_lt ly_287 (by decide)) (rh_287_10 R) ?_
        refine fg_iconst (fg_ft (pc := 89) tb_Mo_ruleLine 57 rfl) ic_1 ?_
        refine fg_dup2 (fg_ft (pc := 90) tb_Mo_ruleLine 58 rfl) rfl rfl ?_
        refine fg_ialdV (v := (nI (u.2.2.2.2.2 1))) (fg_ft (pc := 91) tb_Mo_ruleLine 59 rfl) ly_290 (fg_lt ly_290 (by decide)) (by omega) (h7.2.2.2.2.2.2.1 1 (by omega)) ?_
        refine fg_iconst (fg_ft (pc := 92) tb_Mo_ruleLine 60 rfl) ic_1 ?_
        refine fg_iaddN (fg_ft (pc := 93) tb_Mo_ruleLine 61 rfl) ?_
        refine fg_iastN (fg_ft (pc := 94) tb_Mo_ruleLine 62 rfl) ly_290 (fg_lt ly_290 (by decide)) (by omega) ?_
        show fg_wp _ _ _ _ _ _ _ _ _ (fg_u2 ν7 290 1 (nI ((u.2.2.2.2.2 1) + 1)), fg_rho R, 304)
        exact fg_vret (fg_ft (pc := 95) tb_Mo_ruleLine 63 rfl) rfl rfl (hQ _ (fun a j p q r => (fg_u2ne r).trans (ag7 a j p q r)) (by
    unfold rz_pr
    rw [if_neg (by omega)]
    exact (h7).put))
      · refine fg_aloadn (fg_ft (pc := 49) tb_Mo_ruleLine 29 rfl) rfl ?_
        refine fg_getR (fg_ft (pc := 50) tb_Mo_ruleLine 30 rfl) ff_Mo_17 ly_287 rfl (fg_lt ly_287 (by decide)) (rh_287_10 R) ?_
        refine fg_bipush (fg_ft (pc := 53) tb_Mo_ruleLine 31 rfl) ib_8 ?_
        refine fg_iconst (fg_ft (pc := 55) tb_Mo_ruleLine 32 rfl) ic_2 ?_
        refine fg_aloadn (fg_ft (pc := 56) tb_Mo_ruleLine 33 rfl) rfl ?_
        refine fg_getR (fg_ft (pc := 57) tb_Mo_ruleLine 34 rfl) ff_Mo_17 ly_287 rfl (fg_lt ly_287 (by decide)) (rh_287_10 R) ?_
        refine fg_iconst (fg_ft (pc := 60) tb_Mo_ruleLine 35 rfl) ic_1 ?_
        refine fg_ialdV (v := (nI (u.2.2.2.2.2 1))) (fg_ft (pc := 61) tb_Mo_ruleLine 36 rfl) ly_290 (fg_lt ly_290 (by decide)) (by omega) (h7.2.2.2.2.2.2.1 1 (by omega)) ?_
        refine fg_imulN (fg_ft (pc := 62) tb_Mo_ruleLine 37 rfl) ?_
        refine fg_iaddN (fg_ft (pc := 63) tb_Mo_ruleLine 38 rfl) ?_
        refine fg_iloadn (fg_ft (pc := 64) tb_Mo_ruleLine 39 rfl) rfl ?_
        refine fg_iastN (fg_ft (pc := 65) tb_Mo_ruleLine 40 rfl) ly_290 (fg_lt ly_290 (by decide)) (by omega) ?_
        show fg_wp _ _ _ _ _ _ _ _ _ (fg_u2 ν7 290 (8 + (2 * (u.2.2.2.2.2 1))) (nI (r.1)), fg_rho R, 304)
        refine fg_aloadn (fg_ft (pc := 66) tb_Mo_ruleLine 41 rfl) rfl ?_
        refine fg_getR (fg_ft (pc := 67) tb_Mo_ruleLine 42 rfl) ff_Mo_17 ly_287 rfl (fg_lt ly_287 (by decide)) (rh_287_10 R) ?_
        refine fg_bipush (fg_ft (pc := 70) tb_Mo_ruleLine 43 rfl) ib_8 ?_
        refine fg_iconst (fg_ft (pc := 72) tb_Mo_ruleLine 44 rfl) ic_2 ?_
        refine fg_aloadn (fg_ft (pc := 73) tb_Mo_ruleLine 45 rfl) rfl ?_
        refine fg_getR (fg_ft (pc := 74) tb_Mo_ruleLine 46 rfl) ff_Mo_17 ly_287 rfl (fg_lt ly_287 (by decide)) (rh_287_10 R) ?_
        refine fg_iconst (fg_ft (pc := 77) tb_Mo_ruleLine 47 rfl) ic_1 ?_
        refine fg_ialdV (v := (nI (u.2.2.2.2.2 1))) (fg_ft (pc := 78) tb_Mo_ruleLine 48 rfl) ly_290 (fg_lt ly_290 (by decide)) (by omega) ((fg_u2ns (f := ν7) (a := 290) (k := (8 + (2 * (u.2.2.2.2.2 1)))) (b := 290) (j := 1) (x := (nI (r.1))) (by omega)).trans (h7.2.2.2.2.2.2.1 1 (by omega))) ?_
        refine fg_imulN (fg_ft (pc := 79) tb_Mo_ruleLine 49 rfl) ?_
        refine fg_iaddN (fg_ft (pc := 80) tb_Mo_ruleLine 50 rfl) ?_
        refine fg_iconst (fg_ft (pc := 81) tb_Mo_ruleLine 51 rfl) ic_1 ?_
        refine fg_iaddN (fg_ft (pc := 82) tb_Mo_ruleLine 52 rfl) ?_
        refine fg_iloadn (fg_ft (pc := 83) tb_Mo_ruleLine 53 rfl) rfl ?_
        refine fg_iastN (fg_ft (pc := 84) tb_Mo_ruleLine 54 rfl) ly_290 (fg_lt ly_290 (by decide)) (by omega) ?_
        show fg_wp _ _ _ _ _ _ _ _ _ (fg_u2 (fg_u2 ν7 290 (8 + (2 * (u.2.2.2.2.2 1))) (nI (r.1))) 290 ((8 + (2 * (u.2.2.2.2.2 1))) + 1) (nI (u.1)), fg_rho R, 304)
        refine fg_aloadn (fg_ft (pc := 85) tb_Mo_ruleLine 55 rfl) rfl ?_
        refine fg_getR (fg_ft (pc := 86) tb_Mo_ruleLine 56 rfl) ff_Mo_17 ly_287 rfl (fg_lt ly_287 (by decide)) (rh_287_10 R) ?_
        refine fg_iconst (fg_ft (pc := 89) tb_Mo_ruleLine 57 rfl) ic_1 ?_
        refine fg_dup2 (fg_ft (pc := 90) tb_Mo_ruleLine 58 rfl) rfl rfl ?_
        refine fg_ialdV (v := (nI (u.2.2.2.2.2 1))) (fg_ft (pc := 91) tb_Mo_ruleLine 59 rfl) ly_290 (fg_lt ly_290 (by decide)) (by omega) ((fg_u2ns (f := (fg_u2 ν7 290 (8 + (2 * (u.2.2.2.2.2 1))) (nI (r.1)))) (a := 290) (k := ((8 + (2 * (u.2.2.2.2.2 1))) + 1)) (b := 290) (j := 1) (x := (nI (u.1))) (by omega)).trans ((fg_u2ns (f := ν7) (a := 290) (k := (8 + (2 * (u.2.2.2.2.2 1)))) (b := 290) (j := 1) (x := (nI (r.1))) (by omega)).trans (h7.2.2.2.2.2.2.1 1 (by omega)))) ?_
        refine fg_iconst (fg_ft (pc := 92) tb_Mo_ruleLine 60 rfl) ic_1 ?_
        refine fg_iaddN (fg_ft (pc := 93) tb_Mo_ruleLine 61 rfl) ?_
        refine fg_iastN (fg_ft (pc := 94) tb_Mo_ruleLine 62 rfl) ly_290 (fg_lt ly_290 (by decide)) (by omega) ?_
        show fg_wp _ _ _ _ _ _ _ _ _ (fg_u2 (fg_u2 (fg_u2 ν7 290 (8 + (2 * (u.2.2.2.2.2 1))) (nI (r.1))) 290 ((8 + (2 * (u.2.2.2.2.2 1))) + 1) (nI (u.1))) 290 1 (nI ((u.2.2.2.2.2 1) + 1)), fg_rho R, 304)
        exact fg_vret (fg_ft (pc := 95) tb_Mo_ruleLine 63 rfl) rfl rfl (hQ _ (fun a j p q r => (fg_u2ne r).trans ((fg_u2ne r).trans ((fg_u2ne r).trans (ag7 a j p q r)))) (by
    unfold rz_pr
    rw [if_pos (by omega)]
    exact (((h7).put).put).put))
theorem ev_Mo_ruleLine {E : fg_E} {d : Nat} {μ : Nat → Nat → Int32} {R : fg_T4} {Q : Option Value → fg_M → Prop} {b : Nat → Nat} {len : Nat} {Z : rz_Z} (hle : len ≤ 600) (hb256 : ∀ j, b j < 256) (h : rz_RZ μ b len Z) {at9 : Nat} (hat : at9 ≤ 600) (hcnt : ∀ k, 1 ≤ k → k ≤ 6 → Z.2.2.2.2 k ≤ 700) (hQ : ∀ μ' : Nat → Nat → Int32, rz_ag μ μ' → rz_RZ μ' b len (rz_rl (pz_K b len) (pz_V b len) (pz_S b len) len at9 Z) → Q none (μ', fg_rho R, 304)) : fg_Ev E yy_Mo_ruleLine (d + 8) [.ref 287, .int (nI at9)] (μ, fg_rho R, 304) 304 Q := ev_Mo_ruleLineX hle hb256 h hat hcnt rfl rfl hQ
theorem ev_Mo_skillLineX5 {E : fg_E} {d : Nat} {μ : Nat → Nat → Int32} {R : fg_T4} {Q : Option Value → fg_M → Prop} {b : Nat → Nat} {len : Nat} {Z : rz_Z} (hle : len ≤ 600) (hb256 : ∀ j, b j < 256) (h : rz_RZ μ b len Z) {at9 : Nat} (hat : at9 ≤ 600) (hcnt : ∀ k, 1 ≤ k → k ≤ 6 → Z.2.2.2.2 k ≤ 700) {r u : Nat × rz_Z} (hr : rz_nu (pz_K b len) (pz_V b len) (pz_S b len) 0 100 (rz_c3 5 6 at9 Z) = r) (hu : rz_un (pz_K b len) (pz_V b len) (pz_S b len) len 0 r.2 = u) (hQ : ∀ μ' : Nat → Nat → Int32, rz_ag μ μ' → rz_RZ μ' b len (rz_pr 5 6 127 r.1 u.1 u.2) → Q none (μ', fg_rho R, 304)) : fg_Ev E yy_Mo_skillLine (d + 8) [.ref 287, .int (nI 5), .int (nI 127), .int (nI at9)] (μ, fg_rho R, 304) 304 Q := by
  refine fg_intro (by decide +kernel) (Nat.le_of_ble_eq_true rfl) (fg_okAs rfl) (Nat.le_refl _) ?_
  refine fg_aloadn (fg_ft (pc := 0) tb_Mo_skillLine 0 rfl) rfl ?_
  refine fg_getR (fg_ft (pc := 1) tb_Mo_skillLine 1 rfl) ff_Mo_17 ly_287 rfl (fg_lt ly_287 (by decide)) (rh_287_10 R) ?_
  refine fg_iloadn (fg_ft (pc := 4) tb_Mo_skillLine 2 rfl) rfl ?_
  have hb0 := hcnt 5 (by decide) (by decide)
  refine fg_ialdV (v := (nI (Z.2.2.2.2 5))) (fg_ft (pc := 5) tb_Mo_skillLine 3 rfl) ly_290 (fg_lt ly_290 (by decide)) (by omega) (h.2.2.2.2.2.2.1 5 (by omega)) ?_
  refine fg_bipush (fg_ft (pc := 6) tb_Mo_skillLine 4 rfl) ib_6 ?_
  refine fg_icmp_ltN (tgt := 17) (fg_ft (pc := 8) tb_Mo_skillLine 5 rfl) (by decide) (by omega) (by decide) (fun c8 => ?_) (fun c8 => ?_)
  · have hc : rz_RZ μ b len (rz_c3 5 6 at9 Z) := by
      unfold rz_c3
      rw [if_neg (by omega)]
      exact h
    refine fg_aloadn (fg_ft (pc := 17) tb_Mo_skillLine 10 rfl) rfl ?_
    refine fg_iconst (fg_ft (pc := 18) tb_Mo_skillLine 11 rfl) ic_0 ?_
    refine fg_bipush (fg_ft (pc := 19) tb_Mo_skillLine 12 rfl) ib_99 ?_
    refine fg_callV (fg_ft (pc := 21) tb_Mo_skillLine 13 rfl) cf_Mo_121 (fg_isOf ly_287 rfl (fg_lt ly_287 (by decide))) (as := [.int (nI 0), .int (nI 99)]) (st := []) rfl rfl (Nat.le_of_ble_eq_true rfl) (Nat.le_refl _) (Nat.le_refl _) (ev_Mo_numbered (lo := 0) (hi := 99 + 1) hle hb256 hc (rz_m (by decide) (by decide)) ?_)
    intro ν1 hg1 h1
    have ag1 := hg1
    rw [hr] at h1 ⊢
    show fg_wp _ _ _ _ _ _ _ _ _ (ν1, fg_rho R, 304)
    refine fg_istore (fg_ft (pc := 24) tb_Mo_skillLine 14 rfl) (Nat.le_of_ble_eq_true rfl) ?_
    refine fg_aloadn (fg_ft (pc := 26) tb_Mo_skillLine 15 rfl) rfl ?_
    refine fg_iconst (fg_ft (pc := 27) tb_Mo_skillLine 16 rfl) ic_0 ?_
    refine fg_callV (fg_ft (pc := 28) tb_Mo_skillLine 17 rfl) cf_Mo_132 (fg_isOf ly_287 rfl (fg_lt ly_287 (by decide))) (as := [.int (nI 0)]) (st := []) rfl rfl (Nat.le_of_ble_eq_true rfl) (Nat.le_refl _) (Nat.le_refl _) (ev_Mo_unlike hle hb256 h1 (ah := 0) (by decide) ?_)
    intro ν2 hg2 h2
    have ag2 := rz_ag_tr ag1 hg2
    rw [hu] at h2 ⊢
    show fg_wp _ _ _ _ _ _ _ _ _ (ν2, fg_rho R, 304)
    refine fg_istore (fg_ft (pc := 31) tb_Mo_skillLine 18 rfl) (Nat.le_of_ble_eq_true rfl) ?_
    have hCu : u.2.2.2.2.2 = Z.2.2.2.2 := by rw [← hu, rz_un_C, ← hr, rz_nu_C, rz_c3_C]
    have hb1 : u.2.2.2.2.2 5 ≤ 700 := by rw [hCu]; exact hcnt 5 (by decide) (by decide)
    refine fg_aloadn (fg_ft (pc := 33) tb_Mo_skillLine 19 rfl) rfl ?_
    refine fg_getR (fg_ft (pc := 34) tb_Mo_skillLine 20 rfl) ff_Mo_17 ly_287 rfl (fg_lt ly_287 (by decide)) (rh_287_10 R) ?_
    refine fg_iloadn (fg_ft (pc := 37) tb_Mo_skillLine 21 rfl) rfl ?_
    refine fg_ialdV (v := (nI (u.2.2.2.2.2 5))) (fg_ft (pc := 38) tb_Mo_skillLine 22 rfl) ly_290 (fg_lt ly_290 (by decide)) (by omega) (h2.2.2.2.2.2.2.1 5 (by omega)) ?_
    refine fg_bipush (fg_ft (pc := 39) tb_Mo_skillLine 23 rfl) ib_6 ?_
    refine fg_icmp_geN (tgt := 80) (fg_ft (pc := 41) tb_Mo_skillLine 24 rfl) (by decide) (by omega) (by decide) (fun c41 => ?_) (fun c41 => ?_)
    · refine fg_aloadn (fg_ft (pc := 80) tb_Mo_skillLine 51 rfl) rfl ?_
      refine fg_getR (fg_ft (pc := 81) tb_Mo_skillLine 52 rfl) ff_Mo_17 ly_287 rfl (fg_lt ly_287 (by decide)) (rh_287_10 R) ?_
      refine fg_iloadn (fg_ft (pc := 84) tb_Mo_skillLine 53 rfl) rfl ?_
      refine fg_dup2 (fg_ft (pc := 85) tb_Mo_skillLine 54 rfl) rfl rfl ?_
      refine fg_ialdV (v := (nI (u.2.2.2.2.2 5))) (fg_ft (pc := 86) tb_Mo_skillLine 55 rfl) ly_290 (fg_lt ly_290 (by decide)) (by omega) (h2.2.2.2.2.2.2.1 5 (by omega)) ?_
      refine fg_iconst (fg_ft (pc := 87) tb_Mo_skillLine 56 rfl) ic_1 ?_
      refine fg_iaddN (fg_ft (pc := 88) tb_Mo_skillLine 57 rfl) ?_
      refine fg_iastN (fg_ft (pc := 89) tb_Mo_skillLine 58 rfl) ly_290 (fg_lt ly_290 (by decide)) (by omega) ?_
      show fg_wp _ _ _ _ _ _ _ _ _ (fg_u2 ν2 290 5 (nI ((u.2.2.2.2.2 5) + 1)), fg_rho R, 304)
      exact fg_vret (fg_ft (pc := 90) tb_Mo_skillLine 59 rfl) rfl rfl (hQ _ (fun a j p q r => (fg_u2ne r).trans (ag2 a j p q r)) (by
    unfold rz_pr
    rw [if_neg (by omega)]
    exact (h2).put))
    · refine fg_aloadn (fg_ft (pc := 44) tb_Mo_skillLine 25 rfl) rfl ?_
      refine fg_getR (fg_ft (pc := 45) tb_Mo_skillLine 26 rfl) ff_Mo_17 ly_287 rfl (fg_lt ly_287 (by decide)) (rh_287_10 R) ?_
      refine fg_iloadn (fg_ft (pc := 48) tb_Mo_skillLine 27 rfl) rfl ?_
      refine fg_iconst (fg_ft (pc := 49) tb_Mo_skillLine 28 rfl) ic_2 ?_
      refine fg_aloadn (fg_ft (pc := 50) tb_Mo_skillLine 29 rfl) rfl ?_
      refine fg_getR (fg_ft (pc := 51) tb_Mo_skillLine 30 rfl) ff_Mo_17 ly_287 rfl (fg_lt ly_287 (by decide)) (rh_287_10 R) ?_
      refine fg_iloadn (fg_ft (pc := 54) tb_Mo_skillLine 31 rfl) rfl ?_
      refine fg_ialdV (v := (nI (u.2.2.2.2.2 5))) (fg_ft (pc := 55) tb_Mo_skillLine 32 rfl) ly_290 (fg_lt ly_290 (by decide)) (by omega) (h2.2.2.2.2.2.2.1 5 (by omega)) ?_
      refine fg_imulN (fg_ft (pc := 56) tb_Mo_skillLine 33 rfl) ?_
      refine fg_iaddN (fg_ft (pc := 57) tb_Mo_skillLine 34 rfl) ?_
      refine fg_iload (fg_ft (pc := 58) tb_Mo_skillLine 35 rfl) rfl ?_
      refine fg_iastN (fg_ft (pc := 60) tb_Mo_skillLine 36 rfl) ly_290 (fg_lt ly_290 (by decide)) (by omega) ?_
      show fg_wp _ _ _ _ _ _ _ _ _ (fg_u2 ν2 290 (127 + (2 * (u.2.2.2.2.2 5))) (nI (r.1)), fg_rho R, 304)
      refine fg_aloadn (fg_ft (pc := 61) tb_Mo_skillLine 37 rfl) rfl ?_
      refine fg_getR (fg_ft (pc := 62) tb_Mo_skillLine 38 rfl) ff_Mo_17 ly_287 rfl (fg_lt ly_287 (by decide)) (rh_287_10 R) ?_
      refine fg_iloadn (fg_ft (pc := 65) tb_Mo_skillLine 39 rfl) rfl ?_
      refine fg_iconst (fg_ft (pc := 66) tb_Mo_skillLine 40 rfl) ic_2 ?_
      refine fg_aloadn (fg_ft (pc := 67) tb_Mo_skillLine 41 rfl) rfl ?_
      refine fg_getR (fg_ft (pc := 68) tb_Mo_skillLine 42 rfl) ff_Mo_17 ly_287 rfl (fg_lt ly_287 (by decide)) (rh_287_10 R) ?_
      refine fg_iloadn (fg_ft (pc := 71) tb_Mo_skillLine 43 rfl) rfl ?_
      refine fg_ialdV (v := (nI (u.2.2.2.2.2 5))) (fg_ft (pc := 72) tb_Mo_skillLine 44 rfl) ly_290 (fg_lt ly_290 (by decide)) (by omega) ((fg_u2ns (f := ν2) (a := 290) (k := (127 + (2 * (u.2.2.2.2.2 5)))) (b := 290) (j := 5) (x := (nI (r.1))) (by omega)).trans (h2.2.2.2.2.2.2.1 5 (by omega))) ?_
      refine fg_imulN (fg_ft (pc := 73) tb_Mo_skillLine 45 rfl) ?_
      refine fg_iaddN (fg_ft (pc := 74) tb_Mo_skillLine 46 rfl) ?_
      refine fg_iconst (fg_ft (pc := 75) tb_Mo_skillLine 47 rfl) ic_1 ?_
      refine fg_iaddN (fg_ft (pc := 76) tb_Mo_skillLine 48 rfl) ?_
      refine fg_iload (fg_ft (pc := 77) tb_Mo_skillLine 49 rfl) rfl ?_
      refine fg_iastN (fg_ft (pc := 79) tb_Mo_skillLine 50 rfl) ly_290 (fg_lt ly_290 (by decide)) (by omega) ?_
      show fg_wp _ _ _ _ _ _ _ _ _ (fg_u2 (fg_u2 ν2 290 (127 + (2 * (u.2.2.2.2.2 5))) (nI (r.1))) 290 ((127 + (2 * (u.2.2.2.2.2 5))) + 1) (nI (u.1)), fg_rho R, 304)
      refine fg_aloadn (fg_ft (pc := 80) tb_Mo_skillLine 51 rfl) rfl ?_
      refine fg_getR (fg_ft (pc := 81) tb_Mo_skillLine 52 rfl) ff_Mo_17 ly_287 rfl (fg_lt ly_287 (by decide)) (rh_287_10 R) ?_
      refine fg_iloadn (fg_ft (pc := 84) tb_Mo_skillLine 53 rfl) rfl ?_
      refine fg_dup2 (fg_ft (pc := 85) tb_Mo_skillLine 54 rfl) rfl rfl ?_
      refine fg_ialdV (v := (nI (u.2.2.2.2.2 5))) (fg_ft (pc := 86) tb_Mo_skillLine 55 rfl) ly_290 (fg_lt ly_290 (by decide)) (by omega) ((fg_u2ns (f := (fg_u2 ν2 290 (127 + (2 * (u.2.2.2.2.2 5))) (nI (r.1)))) (a := 290) (k := ((127 + (2 * (u.2.2.2.2.2 5))) + 1)) (b := 290) (j := 5) (x := (nI (u.1))) (by omega)).trans ((fg_u2ns (f := ν2) (a := 290) (k := (127 + (2 * (u.2.2.2.2.2 5)))) (b := 290) (j := 5) (x := (nI (r.1))) (by omega)).trans (h2.2.2.2.2.2.2.1 5 (by omega)))) ?_
      refine fg_iconst (fg_ft (pc := 87) tb_Mo_skillLine 56 rfl) ic_1 ?_
      refine fg_iaddN (fg_ft (pc := 88) tb_Mo_skillLine 57 rfl) ?_
      refine fg_iastN (fg_ft (pc := 89) tb_Mo_skillLine 58 rfl) ly_290 (fg_lt ly_290 (by decide)) (by omega) ?_
      show fg_wp _ _ _ _ _ _ _ _ _ (fg_u2 (fg_u2 (fg_u2 ν2 290 (127 + (2 * (u.2.2.2.2.2 5))) (nI (r.1))) 290 ((127 + (2 * (u.2.2.2.2.2 5))) + 1) (nI (u.1))) 290 5 (nI ((u.2.2.2.2.2 5) + 1)), fg_rho R, 304)
      exact fg_vret (fg_ft (pc := 90) tb_Mo_skillLine 59 rfl) rfl rfl (hQ _ (fun a j p q r => (fg_u2ne r).trans ((fg_u2ne r).trans ((fg_u2ne r).trans (ag2 a j p q r)))) (by
    unfold rz_pr
    rw [if_pos (by omega)]
    exact (((h2).put).put).put))
  · refine fg_aloadn (fg_ft (pc := 11) tb_Mo_skillLine 6 rfl) rfl ?_
    refine fg_iconst (fg_ft (pc := 12) tb_Mo_skillLine 7 rfl) ic_3 ?_
    refine fg_iloadn (fg_ft (pc := 13) tb_Mo_skillLine 8 rfl) rfl ?_
    refine fg_callV (fg_ft (pc := 14) tb_Mo_skillLine 9 rfl) cf_Mo_114 (fg_isOf ly_287 rfl (fg_lt ly_287 (by decide))) (as := [.int (nI 3), .int (nI at9)]) (st := []) rfl rfl (Nat.le_of_ble_eq_true rfl) (Nat.le_refl _) (Nat.le_refl _) (ev_Mo_also (kd := 3) (at9 := at9) hle hb256 h (by decide) (by decide) (by decide) (hat) ?_)
    intro ν3 hg3 h3
    have ag3 := hg3
    show fg_wp _ _ _ _ _ _ _ _ _ (ν3, fg_rho R, 304)
    have hc : rz_RZ ν3 b len (rz_c3 5 6 at9 Z) := by
      unfold rz_c3
      rw [if_pos (by omega)]
      exact h3
    refine fg_aloadn (fg_ft (pc := 17) tb_Mo_skillLine 10 rfl) rfl ?_
    refine fg_iconst (fg_ft (pc := 18) tb_Mo_skillLine 11 rfl) ic_0 ?_
    refine fg_bipush (fg_ft (pc := 19) tb_Mo_skillLine 12 rfl) ib_99 ?_
    refine fg_callV (fg_ft (pc := 21) tb_Mo_skillLine 13 rfl) cf_Mo_121 (fg_isOf ly_287 rfl (fg_lt ly_287 (by decide))) (as := [.int (nI 0), .int (nI 99)]) (st := []) rfl rfl (Nat.le_of_ble_eq_true rfl) (Nat.le_refl _) (Nat.le_refl _) (ev_Mo_numbered (lo := 0) (hi := 99 + 1) hle hb256 hc (rz_m (by decide) (by decide)) ?_)
    intro ν4 hg4 h4
    have ag4 := rz_ag_tr ag3 hg4
    rw [hr] at h4 ⊢
    show fg_wp _ _ _ _ _ _ _ _ _ (ν4, fg_rho R, 304)
    refine fg_istore (fg_ft (pc := 24) tb_Mo_skillLine 14 rfl) (Nat.le_of_ble_eq_true rfl) ?_
    refine fg_aloadn (fg_ft (pc := 26) tb_Mo_skillLine 15 rfl) rfl ?_
    refine fg_iconst (fg_ft (pc := 27) tb_Mo_skillLine 16 rfl) ic_0 ?_
    refine fg_callV (fg_ft (pc := 28) tb_Mo_skillLine 17 rfl) cf_Mo_132 (fg_isOf ly_287 rfl (fg_lt ly_287 (by decide))) (as := [.int (nI 0)]) (st := []) rfl rfl (Nat.le_of_ble_eq_true rfl) (Nat.le_refl _) (Nat.le_refl _) (ev_Mo_unlike hle hb256 h4 (ah := 0) (by decide) ?_)
    intro ν5 hg5 h5
    have ag5 := rz_ag_tr ag4 hg5
    rw [hu] at h5 ⊢
    show fg_wp _ _ _ _ _ _ _ _ _ (ν5, fg_rho R, 304)
    refine fg_istore (fg_ft (pc := 31) tb_Mo_skillLine 18 rfl) (Nat.le_of_ble_eq_true rfl) ?_
    have hCu : u.2.2.2.2.2 = Z.2.2.2.2 := by rw [← hu, rz_un_C, ← hr, rz_nu_C, rz_c3_C]
    have hb1 : u.2.2.2.2.2 5 ≤ 700 := by rw [hCu]; exact hcnt 5 (by decide) (by decide)
    refine fg_aloadn (fg_ft (pc := 33) tb_Mo_skillLine 19 rfl) rfl ?_
    refine fg_getR (fg_ft (pc := 34) tb_Mo_skillLine 20 rfl) ff_Mo_17 ly_287 rfl (fg_lt ly_287 (by decide)) (rh_287_10 R) ?_
    refine fg_iloadn (fg_ft (pc := 37) tb_Mo_skillLine 21 rfl) rfl ?_
    refine fg_ialdV (v := (nI (u.2.2.2.2.2 5))) (fg_ft (pc := 38) tb_Mo_skillLine 22 rfl) ly_290 (fg_lt ly_290 (by decide)) (by omega) (h5.2.2.2.2.2.2.1 5 (by omega)) ?_
    refine fg_bipush (fg_ft (pc := 39) tb_Mo_skillLine 23 rfl) ib_6 ?_
    refine fg_icmp_geN (tgt := 80) (fg_ft (pc := 41) tb_Mo_skillLine 24 rfl) (by decide) (by omega) (by decide) (fun c41 => ?_) (fun c41 => ?_)
    · refine fg_aloadn (fg_ft (pc := 80) tb_Mo_skillLine 51 rfl) rfl ?_
      refine fg_getR (fg_ft (pc := 81) tb_Mo_skillLine 52 rfl) ff_Mo_17 ly_287 rfl (fg_lt ly_287 (by decide)) (rh_287_10 R) ?_
      refine fg_iloadn (fg_ft (pc := 84) tb_Mo_skillLine 53 rfl) rfl ?_
      refine fg_dup2 (fg_ft (pc := 85) tb_Mo_skillLine 54 rfl) rfl rfl ?_
      refine fg_ialdV (v := (nI (u.2.2.2.2.2 5))) (fg_ft (pc := 86) tb_Mo_skillLine 55 rfl) ly_290 (fg_lt ly_290 (by decide)) (by omega) (h5.2.2.2.2.2.2.1 5 (by omega)) ?_
      refine fg_iconst (fg_ft (pc := 87) tb_Mo_skillLine 56 rfl) ic_1 ?_
      refine fg_iaddN (fg_ft (pc := 88) tb_Mo_skillLine 57 rfl) ?_
      refine fg_iastN (fg_ft (pc := 89) tb_Mo_skillLine 58 rfl) ly_290 (fg_lt ly_290 (by decide)) (by omega) ?_
      show fg_wp _ _ _ _ _ _ _ _ _ (fg_u2 ν5 290 5 (nI ((u.2.2.2.2.2 5) + 1)), fg_rho R, 304)
      exact fg_vret (fg_ft (pc := 90) tb_Mo_skillLine 59 rfl) rfl rfl (hQ _ (fun a j p q r => (fg_u2ne r).trans (ag5 a j p q r)) (by
    unfold rz_pr
    rw [if_neg (by omega)]
    exact (h5).put))
    · refine fg_aloadn (fg_ft (pc := 44) tb_Mo_skillLine 25 rfl) rfl ?_
      refine fg_getR (fg_ft (pc := 45) tb_Mo_skillLine 26 rfl) ff_Mo_17 ly_287 rfl (fg_lt ly_287 (by decide)) (rh_287_10 R) ?_
      refine fg_iloadn (fg_ft (pc := 48) tb_Mo_skillLine 27 rfl) rfl ?_
      refine fg_iconst (fg_ft (pc := 49) tb_Mo_skillLine 28 rfl) ic_2 ?_
      refine fg_aloadn (fg_ft (pc := 50) tb_Mo_skillLine 29 rfl) rfl ?_
      refine fg_getR (fg_ft (pc := 51) tb_Mo_skillLine 30 rfl) ff_Mo_17 ly_287 rfl (fg_lt ly_287 (by decide)) (rh_287_10 R) ?_
      refine fg_iloadn (fg_ft (pc := 54) tb_Mo_skillLine 31 rfl) rfl ?_
      refine fg_ialdV (v := (nI (u.2.2.2.2.2 5))) (fg_ft (pc := 55) tb_Mo_skillLine 32 rfl) ly_290 (fg_lt ly_290 (by decide)) (by omega) (h5.2.2.2.2.2.2.1 5 (by omega)) ?_
      refine fg_imulN (fg_ft (pc := 56) tb_Mo_skillLine 33 rfl) ?_
      refine fg_iaddN (fg_ft (pc := 57) tb_Mo_skillLine 34 rfl) ?_
      refine fg_iload (fg_ft (pc := 58) tb_Mo_skillLine 35 rfl) rfl ?_
      refine fg_iastN (fg_ft (pc := 60) tb_Mo_skillLine 36 rfl) ly_290 (fg_lt ly_290 (by decide)) (by omega) ?_
      show fg_wp _ _ _ _ _ _ _ _ _ (fg_u2 ν5 290 (127 + (2 * (u.2.2.2.2.2 5))) (nI (r.1)), fg_rho R, 304)
      refine fg_aloadn (fg_ft (pc := 61) tb_Mo_skillLine 37 rfl) rfl ?_
      refine fg_getR (fg_ft (pc := 62) tb_Mo_skillLine 38 rfl) ff_Mo_17 ly_287 rfl (fg_lt ly_287 (by decide)) (rh_287_10 R) ?_
      refine fg_iloadn (fg_ft (pc := 65) tb_Mo_skillLine 39 rfl) rfl ?_
      refine fg_iconst (fg_ft (pc := 66) tb_Mo_skillLine 40 rfl) ic_2 ?_
      refine fg_aloadn (fg_ft (pc := 67) tb_Mo_skillLine 41 rfl) rfl ?_
      refine fg_getR (fg_ft (pc := 68) tb_Mo_skillLine 42 rfl) ff_Mo_17 ly_287 rfl (fg_lt ly_287 (by decide)) (rh_287_10 R) ?_
      refine fg_iloadn (fg_ft (pc := 71) tb_Mo_skillLine 43 rfl) rfl ?_
      refine fg_ialdV (v := (nI (u.2.2.2.2.2 5))) (fg_ft (pc := 72) tb_Mo_skillLine 44 rfl) ly_290 (fg_lt ly_290 (by decide)) (by omega) ((fg_u2ns (f := ν5) (a := 290) (k := (127 + (2 * (u.2.2.2.2.2 5)))) (b := 290) (j := 5) (x := (nI (r.1))) (by omega)).trans (h5.2.2.2.2.2.2.1 5 (by omega))) ?_
      refine fg_imulN (fg_ft (pc := 73) tb_Mo_skillLine 45 rfl) ?_
      refine fg_iaddN (fg_ft (pc := 74) tb_Mo_skillLine 46 rfl) ?_
      refine fg_iconst (fg_ft (pc := 75) tb_Mo_skillLine 47 rfl) ic_1 ?_
      refine fg_iaddN (fg_ft (pc := 76) tb_Mo_skillLine 48 rfl) ?_
      refine fg_iload (fg_ft (pc := 77) tb_Mo_skillLine 49 rfl) rfl ?_
      refine fg_iastN (fg_ft (pc := 79) tb_Mo_skillLine 50 rfl) ly_290 (fg_lt ly_290 (by decide)) (by omega) ?_
      show fg_wp _ _ _ _ _ _ _ _ _ (fg_u2 (fg_u2 ν5 290 (127 + (2 * (u.2.2.2.2.2 5))) (nI (r.1))) 290 ((127 + (2 * (u.2.2.2.2.2 5))) + 1) (nI (u.1)), fg_rho R, 304)
      refine fg_aloadn (fg_ft (pc := 80) tb_Mo_skillLine 51 rfl) rfl ?_
      refine fg_getR (fg_ft (pc := 81) tb_Mo_skillLine 52 rfl) ff_Mo_17 ly_287 rfl (fg_lt ly_287 (by decide)) (rh_287_10 R) ?_
      refine fg_iloadn (fg_ft (pc := 84) tb_Mo_skillLine 53 rfl) rfl ?_
      refine fg_dup2 (fg_ft (pc := 85) tb_Mo_skillLine 54 rfl) rfl rfl ?_
      refine fg_ialdV (v := (nI (u.2.2.2.2.2 5))) (fg_ft (pc := 86) tb_Mo_skillLine 55 rfl) ly_290 (fg_lt ly_290 (by decide)) (by omega) ((fg_u2ns (f := (fg_u2 ν5 290 (127 + (2 * (u.2.2.2.2.2 5))) (nI (r.1)))) (a := 290) (k := ((127 + (2 * (u.2.2.2.2.2 5))) + 1)) (b := 290) (j := 5) (x := (nI (u.1))) (by omega)).trans ((fg_u2ns (f := ν5) (a := 290) (k := (127 + (2 * (u.2.2.2.2.2 5)))) (b := 290) (j := 5) (x := (nI (r.1))) (by omega)).trans (h5.2.2.2.2.2.2.1 5 (by omega)))) ?_
      refine fg_iconst (fg_ft (pc := 87) tb_Mo_skillLine 56 rfl) ic_1 ?_
      refine fg_iaddN (fg_ft (pc := 88) tb_Mo_skillLine 57 rfl) ?_
      refine fg_iastN (fg_ft (pc := 89) tb_Mo_skillLine 58 rfl) ly_290 (fg_lt ly_290 (by decide)) (by omega) ?_
      show fg_wp _ _ _ _ _ _ _ _ _ (fg_u2 (fg_u2 (fg_u2 ν5 290 (127 + (2 * (u.2.2.2.2.2 5))) (nI (r.1))) 290 ((127 + (2 * (u.2.2.2.2.2 5))) + 1) (nI (u.1))) 290 5 (nI ((u.2.2.2.2.2 5) + 1)), fg_rho R, 304)
      exact fg_vret (fg_ft (pc := 90) tb_Mo_skillLine 59 rfl) rfl rfl (hQ _ (fun a j p q r => (fg_u2ne r).trans ((fg_u2ne r).trans ((fg_u2ne r).trans (ag5 a j p q r)))) (by
    unfold rz_pr
    rw [if_pos (by omega)]
    exact (((h5).put).put).put))
theorem ev_Mo_skillLine5 {E : fg_E} {d : Nat} {μ : Nat → Nat → Int32} {R : fg_T4} {Q : Option Value → fg_M → Prop} {b : Nat → Nat} {len : Nat} {Z : rz_Z} (hle : len ≤ 600) (hb256 : ∀ j, b j < 256) (h : rz_RZ μ b len Z) {at9 : Nat} (hat : at9 ≤ 600) (hcnt : ∀ k, 1 ≤ k → k ≤ 6 → Z.2.2.2.2 k ≤ 700) (hQ : ∀ μ' : Nat → Nat → Int32, rz_ag μ μ' → rz_RZ μ' b len (rz_sk (pz_K b len) (pz_V b len) (pz_S b len) len 5 127 at9 Z) → Q none (μ', fg_rho R, 304)) : fg_Ev E yy_Mo_skillLine (d + 8) [.ref 287, .int (nI 5), .int (nI 127), .int (nI at9)] (μ, fg_rho R, 304) 304 Q := ev_Mo_skillLineX5 hle hb256 h hat hcnt rfl rfl hQ
theorem ev_Mo_skillLineX6 {E : fg_E} {d : Nat} {μ : Nat → Nat → Int32} {R : fg_T4} {Q : Option Value → fg_M → Prop} {b : Nat → Nat} {len : Nat} {Z : rz_Z} (hle : len ≤ 600) (hb256 : ∀ j, b j < 256) (h : rz_RZ μ b len Z) {at9 : Nat} (hat : at9 ≤ 600) (hcnt : ∀ k, 1 ≤ k → k ≤ 6 → Z.2.2.2.2 k ≤ 700) {r u : Nat × rz_Z} (hr : rz_nu (pz_K b len) (pz_V b len) (pz_S b len) 0 100 (rz_c3 6 6 at9 Z) = r) (hu : rz_un (pz_K b len) (pz_V b len) (pz_S b len) len 0 r.2 = u) (hQ : ∀ μ' : Nat → Nat → Int32, rz_ag μ μ' → rz_RZ μ' b len (rz_pr 6 6 139 r.1 u.1 u.2) → Q none (μ', fg_rho R, 304)) : fg_Ev E yy_Mo_skillLine (d + 8) [.ref 287, .int (nI 6), .int (nI 139), .int (nI at9)] (μ, fg_rho R, 304) 304 Q := by
  refine fg_intro (by decide +kernel) (Nat.le_of_ble_eq_true rfl) (fg_okAs rfl) (Nat.le_refl _) ?_
  refine fg_aloadn (fg_ft (pc := 0) tb_Mo_skillLine 0 rfl) rfl ?_
  refine fg_getR (fg_ft (pc := 1) tb_Mo_skillLine 1 rfl) ff_Mo_17 ly_287 rfl (fg_lt ly_287 (by decide)) (rh_287_10 R) ?_
  refine fg_iloadn (fg_ft (pc := 4) tb_Mo_skillLine 2 rfl) rfl ?_
  have hb0 := hcnt 6 (by decide) (by decide)
  refine fg_ialdV (v := (nI (Z.2.2.2.2 6))) (fg_ft (pc := 5) tb_Mo_skillLine 3 rfl) ly_290 (fg_lt ly_290 (by decide)) (by omega) (h.2.2.2.2.2.2.1 6 (by omega)) ?_
  refine fg_bipush (fg_ft (pc := 6) tb_Mo_skillLine 4 rfl) ib_6 ?_
  refine fg_icmp_ltN (tgt := 17) (fg_ft (pc := 8) tb_Mo_skillLine 5 rfl) (by decide) (by omega) (by decide) (fun c8 => ?_) (fun c8 => ?_)
  · have hc : rz_RZ μ b len (rz_c3 6 6 at9 Z) := by
      unfold rz_c3
      rw [if_neg (by omega)]
      exact h
    refine fg_aloadn (fg_ft (pc := 17) tb_Mo_skillLine 10 rfl) rfl ?_
    refine fg_iconst (fg_ft (pc := 18) tb_Mo_skillLine 11 rfl) ic_0 ?_
    refine fg_bipush (fg_ft (pc := 19) tb_Mo_skillLine 12 rfl) ib_99 ?_
    refine fg_callV (fg_ft (pc := 21) tb_Mo_skillLine 13 rfl) cf_Mo_121 (fg_isOf ly_287 rfl (fg_lt ly_287 (by decide))) (as := [.int (nI 0), .int (nI 99)]) (st := []) rfl rfl (Nat.le_of_ble_eq_true rfl) (Nat.le_refl _) (Nat.le_refl _) (ev_Mo_numbered (lo := 0) (hi := 99 + 1) hle hb256 hc (rz_m (by decide) (by decide)) ?_)
    intro ν1 hg1 h1
    have ag1 := hg1
    rw [hr] at h1 ⊢
    show fg_wp _ _ _ _ _ _ _ _ _ (ν1, fg_rho R, 304)
    refine fg_istore (fg_ft (pc := 24) tb_Mo_skillLine 14 rfl) (Nat.le_of_ble_eq_true rfl) ?_
    refine fg_aloadn (fg_ft (pc := 26) tb_Mo_skillLine 15 rfl) rfl ?_
    refine fg_iconst (fg_ft (pc := 27) tb_Mo_skillLine 16 rfl) ic_0 ?_
    refine fg_callV (fg_ft (pc := 28) tb_Mo_skillLine 17 rfl) cf_Mo_132 (fg_isOf ly_287 rfl (fg_lt ly_287 (by decide))) (as := [.int (nI 0)]) (st := []) rfl rfl (Nat.le_of_ble_eq_true rfl) (Nat.le_refl _) (Nat.le_refl _) (ev_Mo_unlike hle hb256 h1 (ah := 0) (by decide) ?_)
    intro ν2 hg2 h2
    have ag2 := rz_ag_tr ag1 hg2
    rw [hu] at h2 ⊢
    show fg_wp _ _ _ _ _ _ _ _ _ (ν2, fg_rho R, 304)
    refine fg_istore (fg_ft (pc := 31) tb_Mo_skillLine 18 rfl) (Nat.le_of_ble_eq_true rfl) ?_
    have hCu : u.2.2.2.2.2 = Z.2.2.2.2 := by rw [← hu, rz_un_C, ← hr, rz_nu_C, rz_c3_C]
    have hb1 : u.2.2.2.2.2 6 ≤ 700 := by rw [hCu]; exact hcnt 6 (by decide) (by decide)
    refine fg_aloadn (fg_ft (pc := 33) tb_Mo_skillLine 19 rfl) rfl ?_
    refine fg_getR (fg_ft (pc := 34) tb_Mo_skillLine 20 rfl) ff_Mo_17 ly_287 rfl (fg_lt ly_287 (by decide)) (rh_287_10 R) ?_
    refine fg_iloadn (fg_ft (pc := 37) tb_Mo_skillLine 21 rfl) rfl ?_
    refine fg_ialdV (v := (nI (u.2.2.2.2.2 6))) (fg_ft (pc := 38) tb_Mo_skillLine 22 rfl) ly_290 (fg_lt ly_290 (by decide)) (by omega) (h2.2.2.2.2.2.2.1 6 (by omega)) ?_
    refine fg_bipush (fg_ft (pc := 39) tb_Mo_skillLine 23 rfl) ib_6 ?_
    refine fg_icmp_geN (tgt := 80) (fg_ft (pc := 41) tb_Mo_skillLine 24 rfl) (by decide) (by omega) (by decide) (fun c41 => ?_) (fun c41 => ?_)
    · refine fg_aloadn (fg_ft (pc := 80) tb_Mo_skillLine 51 rfl) rfl ?_
      refine fg_getR (fg_ft (pc := 81) tb_Mo_skillLine 52 rfl) ff_Mo_17 ly_287 rfl (fg_lt ly_287 (by decide)) (rh_287_10 R) ?_
      refine fg_iloadn (fg_ft (pc := 84) tb_Mo_skillLine 53 rfl) rfl ?_
      refine fg_dup2 (fg_ft (pc := 85) tb_Mo_skillLine 54 rfl) rfl rfl ?_
      refine fg_ialdV (v := (nI (u.2.2.2.2.2 6))) (fg_ft (pc := 86) tb_Mo_skillLine 55 rfl) ly_290 (fg_lt ly_290 (by decide)) (by omega) (h2.2.2.2.2.2.2.1 6 (by omega)) ?_
      refine fg_iconst (fg_ft (pc := 87) tb_Mo_skillLine 56 rfl) ic_1 ?_
      refine fg_iaddN (fg_ft (pc := 88) tb_Mo_skillLine 57 rfl) ?_
      refine fg_iastN (fg_ft (pc := 89) tb_Mo_skillLine 58 rfl) ly_290 (fg_lt ly_290 (by decide)) (by omega) ?_
      show fg_wp _ _ _ _ _ _ _ _ _ (fg_u2 ν2 290 6 (nI ((u.2.2.2.2.2 6) + 1)), fg_rho R, 304)
      exact fg_vret (fg_ft (pc := 90) tb_Mo_skillLine 59 rfl) rfl rfl (hQ _ (fun a j p q r => (fg_u2ne r).trans (ag2 a j p q r)) (by
    unfold rz_pr
    rw [if_neg (by omega)]
    exact (h2).put))
    · refine fg_aloadn (fg_ft (pc := 44) tb_Mo_skillLine 25 rfl) rfl ?_
      refine fg_getR (fg_ft (pc := 45) tb_Mo_skillLine 26 rfl) ff_Mo_17 ly_287 rfl (fg_lt ly_287 (by decide)) (rh_287_10 R) ?_
      refine fg_iloadn (fg_ft (pc := 48) tb_Mo_skillLine 27 rfl) rfl ?_
      refine fg_iconst (fg_ft (pc := 49) tb_Mo_skillLine 28 rfl) ic_2 ?_
      refine fg_aloadn (fg_ft (pc := 50) tb_Mo_skillLine 29 rfl) rfl ?_
      refine fg_getR (fg_ft (pc := 51) tb_Mo_skillLine 30 rfl) ff_Mo_17 ly_287 rfl (fg_lt ly_287 (by decide)) (rh_287_10 R) ?_
      refine fg_iloadn (fg_ft (pc := 54) tb_Mo_skillLine 31 rfl) rfl ?_
      refine fg_ialdV (v := (nI (u.2.2.2.2.2 6))) (fg_ft (pc := 55) tb_Mo_skillLine 32 rfl) ly_290 (fg_lt ly_290 (by decide)) (by omega) (h2.2.2.2.2.2.2.1 6 (by omega)) ?_
      refine fg_imulN (fg_ft (pc := 56) tb_Mo_skillLine 33 rfl) ?_
      refine fg_iaddN (fg_ft (pc := 57) tb_Mo_skillLine 34 rfl) ?_
      refine fg_iload (fg_ft (pc := 58) tb_Mo_skillLine 35 rfl) rfl ?_
      refine fg_iastN (fg_ft (pc := 60) tb_Mo_skillLine 36 rfl) ly_290 (fg_lt ly_290 (by decide)) (by omega) ?_
      show fg_wp _ _ _ _ _ _ _ _ _ (fg_u2 ν2 290 (139 + (2 * (u.2.2.2.2.2 6))) (nI (r.1)), fg_rho R, 304)
      refine fg_aloadn (fg_ft (pc := 61) tb_Mo_skillLine 37 rfl) rfl ?_
      refine fg_getR (fg_ft (pc := 62) tb_Mo_skillLine 38 rfl) ff_Mo_17 ly_287 rfl (fg_lt ly_287 (by decide)) (rh_287_10 R) ?_
      refine fg_iloadn (fg_ft (pc := 65) tb_Mo_skillLine 39 rfl) rfl ?_
      refine fg_iconst (fg_ft (pc := 66) tb_Mo_skillLine 40 rfl) ic_2 ?_
      refine fg_aloadn (fg_ft (pc := 67) tb_Mo_skillLine 41 rfl) rfl ?_
      refine fg_getR (fg_ft (pc := 68) tb_Mo_skillLine 42 rfl) ff_Mo_17 ly_287 rfl (fg_lt ly_287 (by decide)) (rh_287_10 R) ?_
      refine fg_iloadn (fg_ft (pc := 71) tb_Mo_skillLine 43 rfl) rfl ?_
      refine fg_ialdV (v := (nI (u.2.2.2.2.2 6))) (fg_ft (pc := 72) tb_Mo_skillLine 44 rfl) ly_290 (fg_lt ly_290 (by decide)) (by omega) ((fg_u2ns (f := ν2) (a := 290) (k := (139 + (2 * (u.2.2.2.2.2 6)))) (b := 290) (j := 6) (x := (nI (r.1))) (by omega)).trans (h2.2.2.2.2.2.2.1 6 (by omega))) ?_
      refine fg_imulN (fg_ft (pc := 73) tb_Mo_skillLine 45 rfl) ?_
      refine fg_iaddN (fg_ft (pc := 74) tb_Mo_skillLine 46 rfl) ?_
      refine fg_iconst (fg_ft (pc := 75) tb_Mo_skillLine 47 rfl) ic_1 ?_
      refine fg_iaddN (fg_ft (pc := 76) tb_Mo_skillLine 48 rfl) ?_
      refine fg_iload (fg_ft (pc := 77) tb_Mo_skillLine 49 rfl) rfl ?_
      refine fg_iastN (fg_ft (pc := 79) tb_Mo_skillLine 50 rfl) ly_290 (fg_lt ly_290 (by decide)) (by omega) ?_
      show fg_wp _ _ _ _ _ _ _ _ _ (fg_u2 (fg_u2 ν2 290 (139 + (2 * (u.2.2.2.2.2 6))) (nI (r.1))) 290 ((139 + (2 * (u.2.2.2.2.2 6))) + 1) (nI (u.1)), fg_rho R, 304)
      refine fg_aloadn (fg_ft (pc := 80) tb_Mo_skillLine 51 rfl) rfl ?_
      refine fg_getR (fg_ft (pc := 81) tb_Mo_skillLine 52 rfl) ff_Mo_17 ly_287 rfl (fg_lt ly_287 (by decide)) (rh_287_10 R) ?_
      refine fg_iloadn (fg_ft (pc := 84) tb_Mo_skillLine 53 rfl) rfl ?_
      refine fg_dup2 (fg_ft (pc := 85) tb_Mo_skillLine 54 rfl) rfl rfl ?_
      refine fg_ialdV (v := (nI (u.2.2.2.2.2 6))) (fg_ft (pc := 86) tb_Mo_skillLine 55 rfl) ly_290 (fg_lt ly_290 (by decide)) (by omega) ((fg_u2ns (f := (fg_u2 ν2 290 (139 + (2 * (u.2.2.2.2.2 6))) (nI (r.1)))) (a := 290) (k := ((139 + (2 * (u.2.2.2.2.2 6))) + 1)) (b := 290) (j := 6) (x := (nI (u.1))) (by omega)).trans ((fg_u2ns (f := ν2) (a := 290) (k := (139 + (2 * (u.2.2.2.2.2 6)))) (b := 290) (j := 6) (x := (nI (r.1))) (by omega)).trans (h2.2.2.2.2.2.2.1 6 (by omega)))) ?_
      refine fg_iconst (fg_ft (pc := 87) tb_Mo_skillLine 56 rfl) ic_1 ?_
      refine fg_iaddN (fg_ft (pc := 88) tb_Mo_skillLine 57 rfl) ?_
      refine fg_iastN (fg_ft (pc := 89) tb_Mo_skillLine 58 rfl) ly_290 (fg_lt ly_290 (by decide)) (by omega) ?_
      show fg_wp _ _ _ _ _ _ _ _ _ (fg_u2 (fg_u2 (fg_u2 ν2 290 (139 + (2 * (u.2.2.2.2.2 6))) (nI (r.1))) 290 ((139 + (2 * (u.2.2.2.2.2 6))) + 1) (nI (u.1))) 290 6 (nI ((u.2.2.2.2.2 6) + 1)), fg_rho R, 304)
      exact fg_vret (fg_ft (pc := 90) tb_Mo_skillLine 59 rfl) rfl rfl (hQ _ (fun a j p q r => (fg_u2ne r).trans ((fg_u2ne r).trans ((fg_u2ne r).trans (ag2 a j p q r)))) (by
    unfold rz_pr
    rw [if_pos (by omega)]
    exact (((h2).put).put).put))
  · refine fg_aloadn (fg_ft (pc := 11) tb_Mo_skillLine 6 rfl) rfl ?_
    refine fg_iconst (fg_ft (pc := 12) tb_Mo_skillLine 7 rfl) ic_3 ?_
    refine fg_iloadn (fg_ft (pc := 13) tb_Mo_skillLine 8 rfl) rfl ?_
    refine fg_callV (fg_ft (pc := 14) tb_Mo_skillLine 9 rfl) cf_Mo_114 (fg_isOf ly_287 rfl (fg_lt ly_287 (by decide))) (as := [.int (nI 3), .int (nI at9)]) (st := []) rfl rfl (Nat.le_of_ble_eq_true rfl) (Nat.le_refl _) (Nat.le_refl _) (ev_Mo_also (kd := 3) (at9 := at9) hle hb256 h (by decide) (by decide) (by decide) (hat) ?_)
    intro ν3 hg3 h3
    have ag3 := hg3
    show fg_wp _ _ _ _ _ _ _ _ _ (ν3, fg_rho R, 304)
    have hc : rz_RZ ν3 b len (rz_c3 6 6 at9 Z) := by
      unfold rz_c3
      rw [if_pos (by omega)]
      exact h3
    refine fg_aloadn (fg_ft (pc := 17) tb_Mo_skillLine 10 rfl) rfl ?_
    refine fg_iconst (fg_ft (pc := 18) tb_Mo_skillLine 11 rfl) ic_0 ?_
    refine fg_bipush (fg_ft (pc := 19) tb_Mo_skillLine 12 rfl) ib_99 ?_
    refine fg_callV (fg_ft (pc := 21) tb_Mo_skillLine 13 rfl) cf_Mo_121 (fg_isOf ly_287 rfl (fg_lt ly_287 (by decide))) (as := [.int (nI 0), .int (nI 99)]) (st := []) rfl rfl (Nat.le_of_ble_eq_true rfl) (Nat.le_refl _) (Nat.le_refl _) (ev_Mo_numbered (lo := 0) (hi := 99 + 1) hle hb256 hc (rz_m (by decide) (by decide)) ?_)
    intro ν4 hg4 h4
    have ag4 := rz_ag_tr ag3 hg4
    rw [hr] at h4 ⊢
    show fg_wp _ _ _ _ _ _ _ _ _ (ν4, fg_rho R, 304)
    refine fg_istore (fg_ft (pc := 24) tb_Mo_skillLine 14 rfl) (Nat.le_of_ble_eq_true rfl) ?_
    refine fg_aloadn (fg_ft (pc := 26) tb_Mo_skillLine 15 rfl) rfl ?_
    refine fg_iconst (fg_ft (pc := 27) tb_Mo_skillLine 16 rfl) ic_0 ?_
    refine fg_callV (fg_ft (pc := 28) tb_Mo_skillLine 17 rfl) cf_Mo_132 (fg_isOf ly_287 rfl (fg_lt ly_287 (by decide))) (as := [.int (nI 0)]) (st := []) rfl rfl (Nat.le_of_ble_eq_true rfl) (Nat.le_refl _) (Nat.le_refl _) (ev_Mo_unlike hle hb256 h4 (ah := 0) (by decide) ?_)
    intro ν5 hg5 h5
    have ag5 := rz_ag_tr ag4 hg5
    rw [hu] at h5 ⊢
    show fg_wp _ _ _ _ _ _ _ _ _ (ν5, fg_rho R, 304)
    refine fg_istore (fg_ft (pc := 31) tb_Mo_skillLine 18 rfl) (Nat.le_of_ble_eq_true rfl) ?_
    have hCu : u.2.2.2.2.2 = Z.2.2.2.2 := by rw [← hu, rz_un_C, ← hr, rz_nu_C, rz_c3_C]
    have hb1 : u.2.2.2.2.2 6 ≤ 700 := by rw [hCu]; exact hcnt 6 (by decide) (by decide)
    refine fg_aloadn (fg_ft (pc := 33) tb_Mo_skillLine 19 rfl) rfl ?_
    refine fg_getR (fg_ft (pc := 34) tb_Mo_skillLine 20 rfl) ff_Mo_17 ly_287 rfl (fg_lt ly_287 (by decide)) (rh_287_10 R) ?_
    refine fg_iloadn (fg_ft (pc := 37) tb_Mo_skillLine 21 rfl) rfl ?_
    refine fg_ialdV (v := (nI (u.2.2.2.2.2 6))) (fg_ft (pc := 38) tb_Mo_skillLine 22 rfl) ly_290 (fg_lt ly_290 (by decide)) (by omega) (h5.2.2.2.2.2.2.1 6 (by omega)) ?_
    refine fg_bipush (fg_ft (pc := 39) tb_Mo_skillLine 23 rfl) ib_6 ?_
    refine fg_icmp_geN (tgt := 80) (fg_ft (pc := 41) tb_Mo_skillLine 24 rfl) (by decide) (by omega) (by decide) (fun c41 => ?_) (fun c41 => ?_)
    · refine fg_aloadn (fg_ft (pc := 80) tb_Mo_skillLine 51 rfl) rfl ?_
      refine fg_getR (fg_ft (pc := 81) tb_Mo_skillLine 52 rfl) ff_Mo_17 ly_287 rfl (fg_lt ly_287 (by decide)) (rh_287_10 R) ?_
      refine fg_iloadn (fg_ft (pc := 84) tb_Mo_skillLine 53 rfl) rfl ?_
      refine fg_dup2 (fg_ft (pc := 85) tb_Mo_skillLine 54 rfl) rfl rfl ?_
      refine fg_ialdV (v := (nI (u.2.2.2.2.2 6))) (fg_ft (pc := 86) tb_Mo_skillLine 55 rfl) ly_290 (fg_lt ly_290 (by decide)) (by omega) (h5.2.2.2.2.2.2.1 6 (by omega)) ?_
      refine fg_iconst (fg_ft (pc := 87) tb_Mo_skillLine 56 rfl) ic_1 ?_
      refine fg_iaddN (fg_ft (pc := 88) tb_Mo_skillLine 57 rfl) ?_
      refine fg_iastN (fg_ft (pc := 89) tb_Mo_skillLine 58 rfl) ly_290 (fg_lt ly_290 (by decide)) (by omega) ?_
      show fg_wp _ _ _ _ _ _ _ _ _ (fg_u2 ν5 290 6 (nI ((u.2.2.2.2.2 6) + 1)), fg_rho R, 304)
      exact fg_vret (fg_ft (pc := 90) tb_Mo_skillLine 59 rfl) rfl rfl (hQ _ (fun a j p q r => (fg_u2ne r).trans (ag5 a j p q r)) (by
    unfold rz_pr
    rw [if_neg (by omega)]
    exact (h5).put))
    · refine fg_aloadn (fg_ft (pc := 44) tb_Mo_skillLine 25 rfl) rfl ?_
      refine fg_getR (fg_ft (pc := 45) tb_Mo_skillLine 26 rfl) ff_Mo_17 ly_287 rfl (fg_lt ly_287 (by decide)) (rh_287_10 R) ?_
      refine fg_iloadn (fg_ft (pc := 48) tb_Mo_skillLine 27 rfl) rfl ?_
      refine fg_iconst (fg_ft (pc := 49) tb_Mo_skillLine 28 rfl) ic_2 ?_
      refine fg_aloadn (fg_ft (pc := 50) tb_Mo_skillLine 29 rfl) rfl ?_
      refine fg_getR (fg_ft (pc := 51) tb_Mo_skillLine 30 rfl) ff_Mo_17 ly_287 rfl (fg_lt ly_287 (by decide)) (rh_287_10 R) ?_
      refine fg_iloadn (fg_ft (pc := 54) tb_Mo_skillLine 31 rfl) rfl ?_
      refine fg_ialdV (v := (nI (u.2.2.2.2.2 6))) (fg_ft (pc := 55) tb_Mo_skillLine 32 rfl) ly_290 (fg_lt ly_290 (by decide)) (by omega) (h5.2.2.2.2.2.2.1 6 (by omega)) ?_
      refine fg_imulN (fg_ft (pc := 56) tb_Mo_skillLine 33 rfl) ?_
      refine fg_iaddN (fg_ft (pc := 57) tb_Mo_skillLine 34 rfl) ?_
      refine fg_iload (fg_ft (pc := 58) tb_Mo_skillLine 35 rfl) rfl ?_
      refine fg_iastN (fg_ft (pc := 60) tb_Mo_skillLine 36 rfl) ly_290 (fg_lt ly_290 (by decide)) (by omega) ?_
      show fg_wp _ _ _ _ _ _ _ _ _ (fg_u2 ν5 290 (139 + (2 * (u.2.2.2.2.2 6))) (nI (r.1)), fg_rho R, 304)
      refine fg_aloadn (fg_ft (pc := 61) tb_Mo_skillLine 37 rfl) rfl ?_
      refine fg_getR (fg_ft (pc := 62) tb_Mo_skillLine 38 rfl) ff_Mo_17 ly_287 rfl (fg_lt ly_287 (by decide)) (rh_287_10 R) ?_
      refine fg_iloadn (fg_ft (pc := 65) tb_Mo_skillLine 39 rfl) rfl ?_
      refine fg_iconst (fg_ft (pc := 66) tb_Mo_skillLine 40 rfl) ic_2 ?_
      refine fg_aloadn (fg_ft (pc := 67) tb_Mo_skillLine 41 rfl) rfl ?_
      refine fg_getR (fg_ft (pc := 68) tb_Mo_skillLine 42 rfl) ff_Mo_17 ly_287 rfl (fg_lt ly_287 (by decide)) (rh_287_10 R) ?_
      refine fg_iloadn (fg_ft (pc := 71) tb_Mo_skillLine 43 rfl) rfl ?_
      refine fg_ialdV (v := (nI (u.2.2.2.2.2 6))) (fg_ft (pc := 72) tb_Mo_skillLine 44 rfl) ly_290 (fg_lt ly_290 (by decide)) (by omega) ((fg_u2ns (f := ν5) (a := 290) (k := (139 + (2 * (u.2.2.2.2.2 6)))) (b := 290) (j := 6) (x := (nI (r.1))) (by omega)).trans (h5.2.2.2.2.2.2.1 6 (by omega))) ?_
      refine fg_imulN (fg_ft (pc := 73) tb_Mo_skillLine 45 rfl) ?_
      refine fg_iaddN (fg_ft (pc := 74) tb_Mo_skillLine 46 rfl) ?_
      refine fg_iconst (fg_ft (pc := 75) tb_Mo_skillLine 47 rfl) ic_1 ?_
      refine fg_iaddN (fg_ft (pc := 76) tb_Mo_skillLine 48 rfl) ?_
      refine fg_iload (fg_ft (pc := 77) tb_Mo_skillLine 49 rfl) rfl ?_
      refine fg_iastN (fg_ft (pc := 79) tb_Mo_skillLine 50 rfl) ly_290 (fg_lt ly_290 (by decide)) (by omega) ?_
      show fg_wp _ _ _ _ _ _ _ _ _ (fg_u2 (fg_u2 ν5 290 (139 + (2 * (u.2.2.2.2.2 6))) (nI (r.1))) 290 ((139 + (2 * (u.2.2.2.2.2 6))) + 1) (nI (u.1)), fg_rho R, 304)
      refine fg_aloadn (fg_ft (pc := 80) tb_Mo_skillLine 51 rfl) rfl ?_
      refine fg_getR (fg_ft (pc := 81) tb_Mo_skillLine 52 rfl) ff_Mo_17 ly_287 rfl (fg_lt ly_287 (by decide)) (rh_287_10 R) ?_
      refine fg_iloadn (fg_ft (pc := 84) tb_Mo_skillLine 53 rfl) rfl ?_
      refine fg_dup2 (fg_ft (pc := 85) tb_Mo_skillLine 54 rfl) rfl rfl ?_
      refine fg_ialdV (v := (nI (u.2.2.2.2.2 6))) (fg_ft (pc := 86) tb_Mo_skillLine 55 rfl) ly_290 (fg_lt ly_290 (by decide)) (by omega) ((fg_u2ns (f := (fg_u2 ν5 290 (139 + (2 * (u.2.2.2.2.2 6))) (nI (r.1)))) (a := 290) (k := ((139 + (2 * (u.2.2.2.2.2 6))) + 1)) (b := 290) (j := 6) (x := (nI (u.1))) (by omega)).trans ((fg_u2ns (f := ν5) (a := 290) (k := (139 + (2 * (u.2.2.2.2.2 6)))) (b := 290) (j := 6) (x := (nI (r.1))) (by omega)).trans (h5.2.2.2.2.2.2.1 6 (by omega)))) ?_
      refine fg_iconst (fg_ft (pc := 87) tb_Mo_skillLine 56 rfl) ic_1 ?_
      refine fg_iaddN (fg_ft (pc := 88) tb_Mo_skillLine 57 rfl) ?_
      refine fg_iastN (fg_ft (pc := 89) tb_Mo_skillLine 58 rfl) ly_290 (fg_lt ly_290 (by decide)) (by omega) ?_
      show fg_wp _ _ _ _ _ _ _ _ _ (fg_u2 (fg_u2 (fg_u2 ν5 290 (139 + (2 * (u.2.2.2.2.2 6))) (nI (r.1))) 290 ((139 + (2 * (u.2.2.2.2.2 6))) + 1) (nI (u.1))) 290 6 (nI ((u.2.2.2.2.2 6) + 1)), fg_rho R, 304)
      exact fg_vret (fg_ft (pc := 90) tb_Mo_skillLine 59 rfl) rfl rfl (hQ _ (fun a j p q r => (fg_u2ne r).trans ((fg_u2ne r).trans ((fg_u2ne r).trans (ag5 a j p q r)))) (by
    unfold rz_pr
    rw [if_pos (by omega)]
    exact (((h5).put).put).put))
theorem ev_Mo_skillLine6 {E : fg_E} {d : Nat} {μ : Nat → Nat → Int32} {R : fg_T4} {Q : Option Value → fg_M → Prop} {b : Nat → Nat} {len : Nat} {Z : rz_Z} (hle : len ≤ 600) (hb256 : ∀ j, b j < 256) (h : rz_RZ μ b len Z) {at9 : Nat} (hat : at9 ≤ 600) (hcnt : ∀ k, 1 ≤ k → k ≤ 6 → Z.2.2.2.2 k ≤ 700) (hQ : ∀ μ' : Nat → Nat → Int32, rz_ag μ μ' → rz_RZ μ' b len (rz_sk (pz_K b len) (pz_V b len) (pz_S b len) len 6 139 at9 Z) → Q none (μ', fg_rho R, 304)) : fg_Ev E yy_Mo_skillLine (d + 8) [.ref 287, .int (nI 6), .int (nI 139), .int (nI at9)] (μ, fg_rho R, 304) 304 Q := ev_Mo_skillLineX6 hle hb256 h hat hcnt rfl rfl hQ
def rz_mt (K V S : Nat → Nat) (at9 : Nat) (Z : rz_Z) : rz_Z :=
  (fun a : Nat × rz_Z => (fun b9 : Nat × rz_Z => (fun h : Nat × rz_Z => (fun f : Nat × rz_Z => rz_pm a.1 b9.1 h.1 f.1 f.2) (rz_fa K V S h.2)) (rz_nu K V S 1 10 b9.2)) (rz_nu K V S 0 ((rz_dup K V S a.1 a.2).2.2.2.2 2) (rz_dup K V S a.1 a.2))) (rz_nu K V S 0 ((rz_c3 4 12 at9 Z).2.2.2.2 2) (rz_c3 4 12 at9 Z))
theorem ev_Mo_meetLineX {E : fg_E} {d : Nat} {μ : Nat → Nat → Int32} {R : fg_T4} {Q : Option Value → fg_M → Prop} {b : Nat → Nat} {len : Nat} {Z : rz_Z} (hle : len ≤ 600) (hb256 : ∀ j, b j < 256) (h : rz_RZ μ b len Z) {at9 : Nat} (hat : at9 ≤ 600) (hcnt : ∀ k, 1 ≤ k → k ≤ 6 → Z.2.2.2.2 k ≤ 700) {a b9 hh f : Nat × rz_Z} (ha : rz_nu (pz_K b len) (pz_V b len) (pz_S b len) 0 ((rz_c3 4 12 at9 Z).2.2.2.2 2) (rz_c3 4 12 at9 Z) = a) (hb9 : rz_nu (pz_K b len) (pz_V b len) (pz_S b len) 0 ((rz_dup (pz_K b len) (pz_V b len) (pz_S b len) a.1 a.2).2.2.2.2 2) (rz_dup (pz_K b len) (pz_V b len) (pz_S b len) a.1 a.2) = b9) (hhh : rz_nu (pz_K b len) (pz_V b len) (pz_S b len) 1 10 b9.2 = hh) (hf : rz_fa (pz_K b len) (pz_V b len) (pz_S b len) hh.2 = f) (hQ : ∀ μ' : Nat → Nat → Int32, rz_ag μ μ' → rz_RZ μ' b len (rz_pm a.1 b9.1 hh.1 f.1 f.2) → Q none (μ', fg_rho R, 304)) : fg_Ev E yy_Mo_meetLine (d + 7) [.ref 287, .int (nI at9)] (μ, fg_rho R, 304) 304 Q := by
  refine fg_intro (by decide +kernel) (Nat.le_of_ble_eq_true rfl) (fg_okAs rfl) (Nat.le_refl _) ?_
  refine fg_aloadn (fg_ft (pc := 0) tb_Mo_meetLine 0 rfl) rfl ?_
  refine fg_getR (fg_ft (pc := 1) tb_Mo_meetLine 1 rfl) ff_Mo_17 ly_287 rfl (fg_lt ly_287 (by decide)) (rh_287_10 R) ?_
  refine fg_iconst (fg_ft (pc := 4) tb_Mo_meetLine 2 rfl) ic_4 ?_
  have hb0 := hcnt 4 (by decide) (by decide)
  refine fg_ialdV (v := (nI (Z.2.2.2.2 4))) (fg_ft (pc := 5) tb_Mo_meetLine 3 rfl) ly_290 (fg_lt ly_290 (by decide)) (by omega) (h.2.2.2.2.2.2.1 4 (by omega)) ?_
  refine fg_bipush (fg_ft (pc := 6) tb_Mo_meetLine 4 rfl) ib_12 ?_
  refine fg_icmp_ltN (tgt := 17) (fg_ft (pc := 8) tb_Mo_meetLine 5 rfl) (by decide) (by omega) (by decide) (fun c8 => ?_) (fun c8 => ?_)
  · have hc : rz_RZ μ b len (rz_c3 4 12 at9 Z) := by
      unfold rz_c3
      rw [if_neg (by omega)]
      exact h
    have hb2 : (rz_c3 4 12 at9 Z).2.2.2.2 2 ≤ 700 := by rw [rz_c3_C]; exact hcnt 2 (by decide) (by decide)
    refine fg_aloadn (fg_ft (pc := 17) tb_Mo_meetLine 10 rfl) rfl ?_
    refine fg_iconst (fg_ft (pc := 18) tb_Mo_meetLine 11 rfl) ic_0 ?_
    refine fg_aloadn (fg_ft (pc := 19) tb_Mo_meetLine 12 rfl) rfl ?_
    refine fg_getR (fg_ft (pc := 20) tb_Mo_meetLine 13 rfl) ff_Mo_17 ly_287 rfl (fg_lt ly_287 (by decide)) (rh_287_10 R) ?_
    refine fg_iconst (fg_ft (pc := 23) tb_Mo_meetLine 14 rfl) ic_2 ?_
    refine fg_ialdV (v := (nI ((rz_c3 4 12 at9 Z).2.2.2.2 2))) (fg_ft (pc := 24) tb_Mo_meetLine 15 rfl) ly_290 (fg_lt ly_290 (by decide)) (by omega) (hc.2.2.2.2.2.2.1 2 (by omega)) ?_
    refine fg_iconst (fg_ft (pc := 25) tb_Mo_meetLine 16 rfl) ic_1 ?_
    refine fg_isub (fg_ft (pc := 26) tb_Mo_meetLine 17 rfl) ?_
    refine fg_callV (fg_ft (pc := 27) tb_Mo_meetLine 18 rfl) cf_Mo_121 (fg_isOf ly_287 rfl (fg_lt ly_287 (by decide))) (as := [.int (nI 0), .int ((nI ((rz_c3 4 12 at9 Z).2.2.2.2 2)) - (nI 1))]) (st := []) rfl rfl (Nat.le_of_ble_eq_true rfl) (Nat.le_refl _) (Nat.le_refl _) (ev_Mo_numbered (lo := 0) (hi := ((rz_c3 4 12 at9 Z).2.2.2.2 2)) hle hb256 hc (rz_mp (by omega)) ?_)
    intro ν1 hg1 h1
    have ag1 := hg1
    rw [ha] at h1 ⊢
    show fg_wp _ _ _ _ _ _ _ _ _ (ν1, fg_rho R, 304)
    have hCa : a.2.2.2.2.2 = Z.2.2.2.2 := by rw [← ha, rz_nu_C, rz_c3_C]
    have hab : a.1 ≤ 99 ∨ a.1 = 4294967295 := by rw [← ha]; exact rz_nu_lt
    refine fg_istoren (fg_ft (pc := 30) tb_Mo_meetLine 19 rfl) (Nat.le_of_ble_eq_true rfl) ?_
    refine fg_aloadn (fg_ft (pc := 31) tb_Mo_meetLine 20 rfl) rfl ?_
    refine fg_getV (v := (nI (pz_K b len a.2.1))) (fg_ft (pc := 32) tb_Mo_meetLine 21 rfl) ff_Mo_84 ly_287 rfl (fg_lt ly_287 (by decide)) h1.2.1.2.2.1 ?_
    refine fg_iconst (fg_ft (pc := 35) tb_Mo_meetLine 22 rfl) ic_1 ?_
    refine fg_icmp_neN (tgt := 56) (fg_ft (pc := 36) tb_Mo_meetLine 23 rfl) (by decide) (by have := (pz_sp_i b len a.2.1).2.2.2.1; omega) (by decide) (fun c36 => ?_) (fun c36 => ?_)
    · have hd : rz_RZ ν1 b len (rz_dup (pz_K b len) (pz_V b len) (pz_S b len) a.1 a.2) := by
        unfold rz_dup
        rw [if_neg (fun q => by first | exact c36 q.1 | exact c44 q.2)]
        exact h1
      have hb3 : (rz_dup (pz_K b len) (pz_V b len) (pz_S b len) a.1 a.2).2.2.2.2 2 ≤ 700 := by rw [rz_dup_C, hCa]; exact hcnt 2 (by decide) (by decide)
      refine fg_aloadn (fg_ft (pc := 56) tb_Mo_meetLine 33 rfl) rfl ?_
      refine fg_iconst (fg_ft (pc := 57) tb_Mo_meetLine 34 rfl) ic_0 ?_
      refine fg_aloadn (fg_ft (pc := 58) tb_Mo_meetLine 35 rfl) rfl ?_
      refine fg_getR (fg_ft (pc := 59) tb_Mo_meetLine 36 rfl) ff_Mo_17 ly_287 rfl (fg_lt ly_287 (by decide)) (rh_287_10 R) ?_
      refine fg_iconst (fg_ft (pc := 62) tb_Mo_meetLine 37 rfl) ic_2 ?_
      refine fg_ialdV (v := (nI ((rz_dup (pz_K b len) (pz_V b len) (pz_S b len) a.1 a.2).2.2.2.2 2))) (fg_ft (pc := 63) tb_Mo_meetLine 38 rfl) ly_290 (fg_lt ly_290 (by decide)) (by omega) (hd.2.2.2.2.2.2.1 2 (by omega)) ?_
      refine fg_iconst (fg_ft (pc := 64) tb_Mo_meetLine 39 rfl) ic_1 ?_
      refine fg_isub (fg_ft (pc := 65) tb_Mo_meetLine 40 rfl) ?_
      refine fg_callV (fg_ft (pc := 66) tb_Mo_meetLine 41 rfl) cf_Mo_121 (fg_isOf ly_287 rfl (fg_lt ly_287 (by decide))) (as := [.int (nI 0), .int ((nI ((rz_dup (pz_K b len) (pz_V b len) (pz_S b len) a.1 a.2).2.2.2.2 2)) - (nI 1))]) (st := []) rfl rfl (Nat.le_of_ble_eq_true rfl) (Nat.le_refl _) (Nat.le_refl _) (ev_Mo_numbered (lo := 0) (hi := ((rz_dup (pz_K b len) (pz_V b len) (pz_S b len) a.1 a.2).2.2.2.2 2)) hle hb256 hd (rz_mp (by omega)) ?_)
      intro ν2 hg2 h2
      have ag2 := rz_ag_tr ag1 hg2
      rw [hb9] at h2 ⊢
      show fg_wp _ _ _ _ _ _ _ _ _ (ν2, fg_rho R, 304)
      refine fg_istoren (fg_ft (pc := 69) tb_Mo_meetLine 42 rfl) (Nat.le_of_ble_eq_true rfl) ?_
      refine fg_aloadn (fg_ft (pc := 70) tb_Mo_meetLine 43 rfl) rfl ?_
      refine fg_iconst (fg_ft (pc := 71) tb_Mo_meetLine 44 rfl) ic_1 ?_
      refine fg_bipush (fg_ft (pc := 72) tb_Mo_meetLine 45 rfl) ib_9 ?_
      refine fg_callV (fg_ft (pc := 74) tb_Mo_meetLine 46 rfl) cf_Mo_121 (fg_isOf ly_287 rfl (fg_lt ly_287 (by decide))) (as := [.int (nI 1), .int (nI 9)]) (st := []) rfl rfl (Nat.le_of_ble_eq_true rfl) (Nat.le_refl _) (Nat.le_refl _) (ev_Mo_numbered (lo := 1) (hi := 9 + 1) hle hb256 h2 (rz_m (by decide) (by decide)) ?_)
      intro ν3 hg3 h3
      have ag3 := rz_ag_tr ag2 hg3
      rw [hhh] at h3 ⊢
      show fg_wp _ _ _ _ _ _ _ _ _ (ν3, fg_rho R, 304)
      refine fg_istore (fg_ft (pc := 77) tb_Mo_meetLine 47 rfl) (Nat.le_of_ble_eq_true rfl) ?_
      refine fg_aloadn (fg_ft (pc := 79) tb_Mo_meetLine 48 rfl) rfl ?_
      refine fg_callV (fg_ft (pc := 80) tb_Mo_meetLine 49 rfl) cf_Mo_128 (fg_isOf ly_287 rfl (fg_lt ly_287 (by decide))) (as := []) (st := []) rfl rfl (Nat.le_of_ble_eq_true rfl) (Nat.le_refl _) (Nat.le_refl _) (ev_Mo_factOf hle hb256 h3 ?_)
      intro ν4 hg4 h4
      have ag4 := rz_ag_tr ag3 hg4
      rw [hf] at h4 ⊢
      show fg_wp _ _ _ _ _ _ _ _ _ (ν4, fg_rho R, 304)
      refine fg_istore (fg_ft (pc := 83) tb_Mo_meetLine 50 rfl) (Nat.le_of_ble_eq_true rfl) ?_
      have hCf : f.2.2.2.2.2 = Z.2.2.2.2 := by rw [← hf, rz_fa_C, ← hhh, rz_nu_C, ← hb9, rz_nu_C, rz_dup_C, hCa]
      have hb4 : f.2.2.2.2.2 4 ≤ 700 := by rw [hCf]; exact hcnt 4 (by decide) (by decide)
      refine fg_aloadn (fg_ft (pc := 85) tb_Mo_meetLine 51 rfl) rfl ?_
      refine fg_getR (fg_ft (pc := 86) tb_Mo_meetLine 52 rfl) ff_Mo_17 ly_287 rfl (fg_lt ly_287 (by decide)) (rh_287_10 R) ?_
      refine fg_iconst (fg_ft (pc := 89) tb_Mo_meetLine 53 rfl) ic_4 ?_
      refine fg_ialdV (v := (nI (f.2.2.2.2.2 4))) (fg_ft (pc := 90) tb_Mo_meetLine 54 rfl) ly_290 (fg_lt ly_290 (by decide)) (by omega) (h4.2.2.2.2.2.2.1 4 (by omega)) ?_
      refine fg_bipush (fg_ft (pc := 91) tb_Mo_meetLine 55 rfl) ib_12 ?_
      refine fg_icmp_geN (tgt := 149) (fg_ft (pc := 93) tb_Mo_meetLine 56 rfl) (by decide) (by omega) (by decide) (fun c93 => ?_) (fun c93 => ?_)
      · refine fg_aloadn (fg_ft (pc := 149) tb_Mo_meetLine 92 rfl) rfl ?_
        refine fg_getR (fg_ft (pc := 150) tb_Mo_meetLine 93 rfl) ff_Mo_17 ly_287 rfl (fg_lt ly_287 (by decide)) (rh_287_10 R) ?_
        refine fg_iconst (fg_ft (pc := 153) tb_Mo_meetLine 94 rfl) ic_4 ?_
        refine fg_dup2 (fg_ft (pc := 154) tb_Mo_meetLine 95 rfl) rfl rfl ?_
        refine fg_ialdV (v := (nI (f.2.2.2.2.2 4))) (fg_ft (pc := 155) tb_Mo_meetLine 96 rfl) ly_290 (fg_lt ly_290 (by decide)) (by omega) (h4.2.2.2.2.2.2.1 4 (by omega)) ?_
        refine fg_iconst (fg_ft (pc := 156) tb_Mo_meetLine 97 rfl) ic_1 ?_
        refine fg_iaddN (fg_ft (pc := 157) tb_Mo_meetLine 98 rfl) ?_
        refine fg_iastN (fg_ft (pc := 158) tb_Mo_meetLine 99 rfl) ly_290 (fg_lt ly_290 (by decide)) (by omega) ?_
        show fg_wp _ _ _ _ _ _ _ _ _ (fg_u2 ν4 290 4 (nI ((f.2.2.2.2.2 4) + 1)), fg_rho R, 304)
        exact fg_vret (fg_ft (pc := 159) tb_Mo_meetLine 100 rfl) rfl rfl (hQ _ (fun a j p q r => (fg_u2ne r).trans (ag4 a j p q r)) (by
    unfold rz_pm
    rw [if_neg (by omega)]
    exact (h4).put))
      · refine fg_bipush (fg_ft (pc := 96) tb_Mo_meetLine 57 rfl) ib_79 ?_
        refine fg_iconst (fg_ft (pc := 98) tb_Mo_meetLine 58 rfl) ic_4 ?_
        refine fg_aloadn (fg_ft (pc := 99) tb_Mo_meetLine 59 rfl) rfl ?_
        refine fg_getR (fg_ft (pc := 100) tb_Mo_meetLine 60 rfl) ff_Mo_17 ly_287 rfl (fg_lt ly_287 (by decide)) (rh_287_10 R) ?_
        refine fg_iconst (fg_ft (pc := 103) tb_Mo_meetLine 61 rfl) ic_4 ?_
        refine fg_ialdV (v := (nI (f.2.2.2.2.2 4))) (fg_ft (pc := 104) tb_Mo_meetLine 62 rfl) ly_290 (fg_lt ly_290 (by decide)) (by omega) (h4.2.2.2.2.2.2.1 4 (by omega)) ?_
        refine fg_imulN (fg_ft (pc := 105) tb_Mo_meetLine 63 rfl) ?_
        refine fg_iaddN (fg_ft (pc := 106) tb_Mo_meetLine 64 rfl) ?_
        refine fg_istore (fg_ft (pc := 107) tb_Mo_meetLine 65 rfl) (Nat.le_of_ble_eq_true rfl) ?_
        refine fg_aloadn (fg_ft (pc := 109) tb_Mo_meetLine 66 rfl) rfl ?_
        refine fg_getR (fg_ft (pc := 110) tb_Mo_meetLine 67 rfl) ff_Mo_17 ly_287 rfl (fg_lt ly_287 (by decide)) (rh_287_10 R) ?_
        refine fg_iload (fg_ft (pc := 113) tb_Mo_meetLine 68 rfl) rfl ?_
        refine fg_iloadn (fg_ft (pc := 115) tb_Mo_meetLine 69 rfl) rfl ?_
        refine fg_iastN (fg_ft (pc := 116) tb_Mo_meetLine 70 rfl) ly_290 (fg_lt ly_290 (by decide)) (by omega) ?_
        show fg_wp _ _ _ _ _ _ _ _ _ (fg_u2 ν4 290 (79 + (4 * (f.2.2.2.2.2 4))) (nI (a.1)), fg_rho R, 304)
        refine fg_aloadn (fg_ft (pc := 117) tb_Mo_meetLine 71 rfl) rfl ?_
        refine fg_getR (fg_ft (pc := 118) tb_Mo_meetLine 72 rfl) ff_Mo_17 ly_287 rfl (fg_lt ly_287 (by decide)) (rh_287_10 R) ?_
        refine fg_iload (fg_ft (pc := 121) tb_Mo_meetLine 73 rfl) rfl ?_
        refine fg_iconst (fg_ft (pc := 123) tb_Mo_meetLine 74 rfl) ic_1 ?_
        refine fg_iaddN (fg_ft (pc := 124) tb_Mo_meetLine 75 rfl) ?_
        refine fg_iloadn (fg_ft (pc := 125) tb_Mo_meetLine 76 rfl) rfl ?_
        refine fg_iastN (fg_ft (pc := 126) tb_Mo_meetLine 77 rfl) ly_290 (fg_lt ly_290 (by decide)) (by omega) ?_
        show fg_wp _ _ _ _ _ _ _ _ _ (fg_u2 (fg_u2 ν4 290 (79 + (4 * (f.2.2.2.2.2 4))) (nI (a.1))) 290 ((79 + (4 * (f.2.2.2.2.2 4))) + 1) (nI (b9.1)), fg_rho R, 304)
        refine fg_aloadn (fg_ft (pc := 127) tb_Mo_meetLine 78 rfl) rfl ?_
        refine fg_getR (fg_ft (pc := 128) tb_Mo_meetLine 79 rfl) ff_Mo_17 ly_287 rfl (fg_lt ly_287 (by decide)) (rh_287_10 R) ?_
        refine fg_iload (fg_ft (pc := 131) tb_Mo_meetLine 80 rfl) rfl ?_
        refine fg_iconst (fg_ft (pc := 133) tb_Mo_meetLine 81 rfl) ic_2 ?_
        refine fg_iaddN (fg_ft (pc := 134) tb_Mo_meetLine 82 rfl) ?_
        refine fg_iload (fg_ft (pc := 135) tb_Mo_meetLine 83 rfl) rfl ?_
        refine fg_iastN (fg_ft (pc := 137) tb_Mo_meetLine 84 rfl) ly_290 (fg_lt ly_290 (by decide)) (by omega) ?_
        show fg_wp _ _ _ _ _ _ _ _ _ (fg_u2 (fg_u2 (fg_u2 ν4 290 (79 + (4 * (f.2.2.2.2.2 4))) (nI (a.1))) 290 ((79 + (4 * (f.2.2.2.2.2 4))) + 1) (nI (b9.1))) 290 ((79 + (4 * (f.2.2.2.2.2 4))) + 2) (nI (hh.1)), fg_rho R, 304)
        refine fg_aloadn (fg_ft (pc := 138) tb_Mo_meetLine 85 rfl) rfl ?_
        refine fg_getR (fg_ft (pc := 139) tb_Mo_meetLine 86 rfl) ff_Mo_17 ly_287 rfl (fg_lt ly_287 (by decide)) (rh_287_10 R) ?_
        refine fg_iload (fg_ft (pc := 142) tb_Mo_meetLine 87 rfl) rfl ?_
        refine fg_iconst (fg_ft (pc := 144) tb_Mo_meetLine 88 rfl) ic_3 ?_
        refine fg_iaddN (fg_ft (pc := 145) tb_Mo_meetLine 89 rfl) ?_
        refine fg_iload (fg_ft (pc := 146) tb_Mo_meetLine 90 rfl) rfl ?_
        refine fg_iastN (fg_ft (pc := 148) tb_Mo_meetLine 91 rfl) ly_290 (fg_lt ly_290 (by decide)) (by omega) ?_
        show fg_wp _ _ _ _ _ _ _ _ _ (fg_u2 (fg_u2 (fg_u2 (fg_u2 ν4 290 (79 + (4 * (f.2.2.2.2.2 4))) (nI (a.1))) 290 ((79 + (4 * (f.2.2.2.2.2 4))) + 1) (nI (b9.1))) 290 ((79 + (4 * (f.2.2.2.2.2 4))) + 2) (nI (hh.1))) 290 ((79 + (4 * (f.2.2.2.2.2 4))) + 3) (nI (f.1)), fg_rho R, 304)
        refine fg_aloadn (fg_ft (pc := 149) tb_Mo_meetLine 92 rfl) rfl ?_
        refine fg_getR (fg_ft (pc := 150) tb_Mo_meetLine 93 rfl) ff_Mo_17 ly_287 rfl (fg_lt ly_287 (by decide)) (rh_287_10 R) ?_
        refine fg_iconst (fg_ft (pc := 153) tb_Mo_meetLine 94 rfl) ic_4 ?_
        refine fg_dup2 (fg_ft (pc := 154) tb_Mo_meetLine 95 rfl) rfl rfl ?_
        refine fg_ialdV (v := (nI (f.2.2.2.2.2 4))) (fg_ft (pc := 155) tb_Mo_meetLine 96 rfl) ly_290 (fg_lt ly_290 (by decide)) (by omega) ((fg_u2ns (f := (fg_u2 (fg_u2 (fg_u2 ν4 290 (79 + (4 * (f.2.2.2.2.2 4))) (nI (a.1))) 290 ((79 + (4 * (f.2.2.2.2.2 4))) + 1) (nI (b9.1))) 290 ((79 + (4 * (f.2.2.2.2.2 4))) + 2) (nI (hh.1)))) (a := 290) (k := ((79 + (4 * (f.2.2.2.2.2 4))) + 3)) (b := 290) (j := 4) (x := (nI (f.1))) (by omega)).trans ((fg_u2ns (f := (fg_u2 (fg_u2 ν4 290 (79 + (4 * (f.2.2.2.2.2 4))) (nI (a.1))) 290 ((79 + (4 * (f.2.2.2.2.2 4))) + 1) (nI (b9.1)))) (a := 290) (k := ((79 + (4 * (f.2.2.2.2.2 4))) + 2)) (b := 290) (j := 4) (x := (nI (hh.1))) (by omega)).trans ((fg_u2ns (f := (fg_u2 ν4 290 (79 + (4 * (f.2.2.2.2.2 4))) (nI (a.1)))) (a := 290) (k := ((79 + (4 * (f.2.2.2.2.2 4))) + 1)) (b := 290) (j := 4) (x := (nI (b9.1))) (by omega)).trans ((fg_u2ns (f := ν4) (a := 290) (k := (79 + (4 * (f.2.2.2.2.2 4)))) (b := 290) (j := 4) (x := (nI (a.1))) (by omega)).trans (h4.2.2.2.2.2.2.1 4 (by omega)))))) ?_
        refine fg_iconst (fg_ft (pc := 156) tb_Mo_meetLine 97 rfl) ic_1 ?_
        refine fg_iaddN (fg_ft (pc := 157) tb_Mo_meetLine 98 rfl) ?_
        refine fg_iastN (fg_ft (pc := 158) tb_Mo_meetLine 99 rfl) ly_290 (fg_lt ly_290 (by decide)) (by omega) ?_
        show fg_wp _ _ _ _ _ _ _ _ _ (fg_u2 (fg_u2 (fg_u2 (fg_u2 (fg_u2 ν4 290 (79 + (4 * (f.2.2.2.2.2 4))) (nI (a.1))) 290 ((79 + (4 * (f.2.2.2.2.2 4))) + 1) (nI (b9.1))) 290 ((79 + (4 * (f.2.2.2.2.2 4))) + 2) (nI (hh.1))) 290 ((79 + (4 * (f.2.2.2.2.2 4))) + 3) (nI (f.1))) 290 4 (nI ((f.2.2.2.2.2 4) + 1)), fg_rho R, 304)
        exact fg_vret (fg_ft (pc := 159) tb_Mo_meetLine 100 rfl) rfl rfl (hQ _ (fun a j p q r => (fg_u2ne r).trans ((fg_u2ne r).trans ((fg_u2ne r).trans ((fg_u2ne r).trans ((fg_u2ne r).trans (ag4 a j p q r)))))) (by
    unfold rz_pm
    rw [if_pos (by omega)]
    exact (((((h4).put).put).put).put).put))
    · have hK1 := c36
      refine fg_aloadn (fg_ft (pc := 39) tb_Mo_meetLine 24 rfl) rfl ?_
      refine fg_getV (v := (nI (pz_V b len a.2.1))) (fg_ft (pc := 40) tb_Mo_meetLine 25 rfl) ff_Mo_100 ly_287 rfl (fg_lt ly_287 (by decide)) (h1.2.1.2.2.2.1 hK1) ?_
      refine fg_iloadn (fg_ft (pc := 43) tb_Mo_meetLine 26 rfl) rfl ?_
      refine fg_icmp_neW (tgt := 56) (fg_ft (pc := 44) tb_Mo_meetLine 27 rfl) (by decide) (Nat.lt_trans (show _ < 2 ^ 31 from by have := (pz_sp_i b len a.2.1).2.2.2.2.2.2.1; omega) (by decide)) (by have := hab; omega) (fun c44 => ?_) (fun c44 => ?_)
      · have hd : rz_RZ ν1 b len (rz_dup (pz_K b len) (pz_V b len) (pz_S b len) a.1 a.2) := by
          unfold rz_dup
          rw [if_neg (fun q => by first | exact c36 q.1 | exact c44 q.2)]
          exact h1
        have hb3 : (rz_dup (pz_K b len) (pz_V b len) (pz_S b len) a.1 a.2).2.2.2.2 2 ≤ 700 := by rw [rz_dup_C, hCa]; exact hcnt 2 (by decide) (by decide)
        refine fg_aloadn (fg_ft (pc := 56) tb_Mo_meetLine 33 rfl) rfl ?_
        refine fg_iconst (fg_ft (pc := 57) tb_Mo_meetLine 34 rfl) ic_0 ?_
        refine fg_aloadn (fg_ft (pc := 58) tb_Mo_meetLine 35 rfl) rfl ?_
        refine fg_getR (fg_ft (pc := 59) tb_Mo_meetLine 36 rfl) ff_Mo_17 ly_287 rfl (fg_lt ly_287 (by decide)) (rh_287_10 R) ?_
        refine fg_iconst (fg_ft (pc := 62) tb_Mo_meetLine 37 rfl) ic_2 ?_
        refine fg_ialdV (v := (nI ((rz_dup (pz_K b len) (pz_V b len) (pz_S b len) a.1 a.2).2.2.2.2 2))) (fg_ft (pc := 63) tb_Mo_meetLine 38 rfl) ly_290 (fg_lt ly_290 (by decide)) (by omega) (hd.2.2.2.2.2.2.1 2 (by omega)) ?_
        refine fg_iconst (fg_ft (pc := 64) tb_Mo_meetLine 39 rfl) ic_1 ?_
        refine fg_isub (fg_ft (pc := 65) tb_Mo_meetLine 40 rfl) ?_
        refine fg_callV (fg_ft (pc := 66) tb_Mo_meetLine 41 rfl) cf_Mo_121 (fg_isOf ly_287 rfl (fg_lt ly_287 (by decide))) (as := [.int (nI 0), .int ((nI ((rz_dup (pz_K b len) (pz_V b len) (pz_S b len) a.1 a.2).2.2.2.2 2)) - (nI 1))]) (st := []) rfl rfl (Nat.le_of_ble_eq_true rfl) (Nat.le_refl _) (Nat.le_refl _) (ev_Mo_numbered (lo := 0) (hi := ((rz_dup (pz_K b len) (pz_V b len) (pz_S b len) a.1 a.2).2.2.2.2 2)) hle hb256 hd (rz_mp (by omega)) ?_)
        intro ν5 hg5 h5
        have ag5 := rz_ag_tr ag1 hg5
        rw [hb9] at h5 ⊢
        show fg_wp _ _ _ _ _ _ _ _ _ (ν5, fg_rho R, 304)
        refine fg_istoren (fg_ft (pc := 69) tb_Mo_meetLine 42 rfl) (Nat.le_of_ble_eq_true rfl) ?_
        refine fg_aloadn (fg_ft (pc := 70) tb_Mo_meetLine 43 rfl) rfl ?_
        refine fg_iconst (fg_ft (pc := 71) tb_Mo_meetLine 44 rfl) ic_1 ?_
        refine fg_bipush (fg_ft (pc := 72) tb_Mo_meetLine 45 rfl) ib_9 ?_
        refine fg_callV (fg_ft (pc := 74) tb_Mo_meetLine 46 rfl) cf_Mo_121 (fg_isOf ly_287 rfl (fg_lt ly_287 (by decide))) (as := [.int (nI 1), .int (nI 9)]) (st := []) rfl rfl (Nat.le_of_ble_eq_true rfl) (Nat.le_refl _) (Nat.le_refl _) (ev_Mo_numbered (lo := 1) (hi := 9 + 1) hle hb256 h5 (rz_m (by decide) (by decide)) ?_)
        intro ν6 hg6 h6
        have ag6 := rz_ag_tr ag5 hg6
        rw [hhh] at h6 ⊢
        show fg_wp _ _ _ _ _ _ _ _ _ (ν6, fg_rho R, 304)
        refine fg_istore (fg_ft (pc := 77) tb_Mo_meetLine 47 rfl) (Nat.le_of_ble_eq_true rfl) ?_
        refine fg_aloadn (fg_ft (pc := 79) tb_Mo_meetLine 48 rfl) rfl ?_
        refine fg_callV (fg_ft (pc := 80) tb_Mo_meetLine 49 rfl) cf_Mo_128 (fg_isOf ly_287 rfl (fg_lt ly_287 (by decide))) (as := []) (st := []) rfl rfl (Nat.le_of_ble_eq_true rfl) (Nat.le_refl _) (Nat.le_refl _) (ev_Mo_factOf hle hb256 h6 ?_)
        intro ν7 hg7 h7
        have ag7 := rz_ag_tr ag6 hg7
        rw [hf] at h7 ⊢
        show fg_wp _ _ _ _ _ _ _ _ _ (ν7, fg_rho R, 304)
        refine fg_istore (fg_ft (pc := 83) tb_Mo_meetLine 50 rfl) (Nat.le_of_ble_eq_true rfl) ?_
        have hCf : f.2.2.2.2.2 = Z.2.2.2.2 := by rw [← hf, rz_fa_C, ← hhh, rz_nu_C, ← hb9, rz_nu_C, rz_dup_C, hCa]
        have hb4 : f.2.2.2.2.2 4 ≤ 700 := by rw [hCf]; exact hcnt 4 (by decide) (by decide)
        refine fg_aloadn (fg_ft (pc := 85) tb_Mo_meetLine 51 rfl) rfl ?_
        refine fg_getR (fg_ft (pc := 86) tb_Mo_meetLine 52 rfl) ff_Mo_17 ly_287 rfl (fg_lt ly_287 (by decide)) (rh_287_10 R) ?_
        refine fg_iconst (fg_ft (pc := 89) tb_Mo_meetLine 53 rfl) ic_4 ?_
        refine fg_ialdV (v := (nI (f.2.2.2.2.2 4))) (fg_ft (pc := 90) tb_Mo_meetLine 54 rfl) ly_290 (fg_lt ly_290 (by decide)) (by omega) (h7.2.2.2.2.2.2.1 4 (by omega)) ?_
        refine fg_bipush (fg_ft (pc := 91) tb_Mo_meetLine 55 rfl) ib_12 ?_
        refine fg_icmp_geN (tgt := 149) (fg_ft (pc := 93) tb_Mo_meetLine 56 rfl) (by decide) (by omega) (by decide) (fun c93 => ?_) (fun c93 => ?_)
        · refine fg_aloadn (fg_ft (pc := 149) tb_Mo_meetLine 92 rfl) rfl ?_
          refine fg_getR (fg_ft (pc := 150) tb_Mo_meetLine 93 rfl) ff_Mo_17 ly_287 rfl (fg_lt ly_287 (by decide)) (rh_287_10 R) ?_
          refine fg_iconst (fg_ft (pc := 153) tb_Mo_meetLine 94 rfl) ic_4 ?_
          refine fg_dup2 (fg_ft (pc := 154) tb_Mo_meetLine 95 rfl) rfl rfl ?_
          refine fg_ialdV (v := (nI (f.2.2.2.2.2 4))) (fg_ft (pc := 155) tb_Mo_meetLine 96 rfl) ly_290 (fg_lt ly_290 (by decide)) (by omega) (h7.2.2.2.2.2.2.1 4 (by omega)) ?_
          refine fg_iconst (fg_ft (pc := 156) tb_Mo_meetLine 97 rfl) ic_1 ?_
          refine fg_iaddN (fg_ft (pc := 157) tb_Mo_meetLine 98 rfl) ?_
          refine fg_iastN (fg_ft (pc := 158) tb_Mo_meetLine 99 rfl) ly_290 (fg_lt ly_290 (by decide)) (by omega) ?_
          show fg_wp _ _ _ _ _ _ _ _ _ (fg_u2 ν7 290 4 (nI ((f.2.2.2.2.2 4) + 1)), fg_rho R, 304)
          exact fg_vret (fg_ft (pc := 159) tb_Mo_meetLine 100 rfl) rfl rfl (hQ _ (fun a j p q r => (fg_u2ne r).trans (ag7 a j p q r)) (by
    unfold rz_pm
    rw [if_neg (by omega)]
    exact (h7).put))
        · refine fg_bipush (fg_ft (pc := 96) tb_Mo_meetLine 57 rfl) ib_79 ?_
          refine fg_iconst (fg_ft (pc := 98) tb_Mo_meetLine 58 rfl) ic_4 ?_
          refine fg_aloadn (fg_ft (pc := 99) tb_Mo_meetLine 59 rfl) rfl ?_
          refine fg_getR (fg_ft (pc := 100) tb_Mo_meetLine 60 rfl) ff_Mo_17 ly_287 rfl (fg_lt ly_287 (by decide)) (rh_287_10 R) ?_
          refine fg_iconst (fg_ft (pc := 103) tb_Mo_meetLine 61 rfl) ic_4 ?_
          refine fg_ialdV (v := (nI (f.2.2.2.2.2 4))) (fg_ft (pc := 104) tb_Mo_meetLine 62 rfl) ly_290 (fg_lt ly_290 (by decide)) (by omega) (h7.2.2.2.2.2.2.1 4 (by omega)) ?_
          refine fg_imulN (fg_ft (pc := 105) tb_Mo_meetLine 63 rfl) ?_
          refine fg_iaddN (fg_ft (pc := 106) tb_Mo_meetLine 64 rfl) ?_
          refine fg_istore (fg_ft (pc := 107) tb_Mo_meetLine 65 rfl) (Nat.le_of_ble_eq_true rfl) ?_
          refine fg_aloadn (fg_ft (pc := 109) tb_Mo_meetLine 66 rfl) rfl ?_
          refine fg_getR (fg_ft (pc := 110) tb_Mo_meetLine 67 rfl) ff_Mo_17 ly_287 rfl (fg_lt ly_287 (by decide)) (rh_287_10 R) ?_
          refine fg_iload (fg_ft (pc := 113) tb_Mo_meetLine 68 rfl) rfl ?_
          refine fg_iloadn (fg_ft (pc := 115) tb_Mo_meetLine 69 rfl) rfl ?_
          refine fg_iastN (fg_ft (pc := 116) tb_Mo_meetLine 70 rfl) ly_290 (fg_lt ly_290 (by decide)) (by omega) ?_
          show fg_wp _ _ _ _ _ _ _ _ _ (fg_u2 ν7 290 (79 + (4 * (f.2.2.2.2.2 4))) (nI (a.1)), fg_rho R, 304)
          refine fg_aloadn (fg_ft (pc := 117) tb_Mo_meetLine 71 rfl) rfl ?_
          refine fg_getR (fg_ft (pc := 118) tb_Mo_meetLine 72 rfl) ff_Mo_17 ly_287 rfl (fg_lt ly_287 (by decide)) (rh_287_10 R) ?_
          refine fg_iload (fg_ft (pc := 121) tb_Mo_meetLine 73 rfl) rfl ?_
          refine fg_iconst (fg_ft (pc := 123) tb_Mo_meetLine 74 rfl) ic_1 ?_
          refine fg_iaddN (fg_ft (pc := 124) tb_Mo_meetLine 75 rfl) ?_
          refine fg_iloadn (fg_ft (pc := 125) tb_Mo_meetLine 76 rfl) rfl ?_
          refine fg_iastN (fg_ft (pc := 126) tb_Mo_meetLine 77 rfl) ly_290 (fg_lt ly_290 (by decide)) (by omega) ?_
          show fg_wp _ _ _ _ _ _ _ _ _ (fg_u2 (fg_u2 ν7 290 (79 + (4 * (f.2.2.2.2.2 4))) (nI (a.1))) 290 ((79 + (4 * (f.2.2.2.2.2 4))) + 1) (nI (b9.1)), fg_rho R, 304)
          refine fg_aloadn (fg_ft (pc := 127) tb_Mo_meetLine 78 rfl) rfl ?_
          refine fg_getR (fg_ft (pc := 128) tb_Mo_meetLine 79 rfl) ff_Mo_17 ly_287 rfl (fg_lt ly_287 (by decide)) (rh_287_10 R) ?_
          refine fg_iload (fg_ft (pc := 131) tb_Mo_meetLine 80 rfl) rfl ?_
          refine fg_iconst (fg_ft (pc := 133) tb_Mo_meetLine 81 rfl) ic_2 ?_
          refine fg_iaddN (fg_ft (pc := 134) tb_Mo_meetLine 82 rfl) ?_
          refine fg_iload (fg_ft (pc := 135) tb_Mo_meetLine 83 rfl) rfl ?_
          refine fg_iastN (fg_ft (pc := 137) tb_Mo_meetLine 84 rfl) ly_290 (fg_lt ly_290 (by decide)) (by omega) ?_
          show fg_wp _ _ _ _ _ _ _ _ _ (fg_u2 (fg_u2 (fg_u2 ν7 290 (79 + (4 * (f.2.2.2.2.2 4))) (nI (a.1))) 290 ((79 + (4 * (f.2.2.2.2.2 4))) + 1) (nI (b9.1))) 290 ((79 + (4 * (f.2.2.2.2.2 4))) + 2) (nI (hh.1)), fg_rho R, 304)
          refine fg_aloadn (fg_ft (pc := 138) tb_Mo_meetLine 85 rfl) rfl ?_
          refine fg_getR (fg_ft (pc := 139) tb_Mo_meetLine 86 rfl) ff_Mo_17 ly_287 rfl (fg_lt ly_287 (by decide)) (rh_287_10 R) ?_
          refine fg_iload (fg_ft (pc := 142) tb_Mo_meetLine 87 rfl) rfl ?_
          refine fg_iconst (fg_ft (pc := 144) tb_Mo_meetLine 88 rfl) ic_3 ?_
          refine fg_iaddN (fg_ft (pc := 145) tb_Mo_meetLine 89 rfl) ?_
          refine fg_iload (fg_ft (pc := 146) tb_Mo_meetLine 90 rfl) rfl ?_
          refine fg_iastN (fg_ft (pc := 148) tb_Mo_meetLine 91 rfl) ly_290 (fg_lt ly_290 (by decide)) (by omega) ?_
          show fg_wp _ _ _ _ _ _ _ _ _ (fg_u2 (fg_u2 (fg_u2 (fg_u2 ν7 290 (79 + (4 * (f.2.2.2.2.2 4))) (nI (a.1))) 290 ((79 + (4 * (f.2.2.2.2.2 4))) + 1) (nI (b9.1))) 290 ((79 + (4 * (f.2.2.2.2.2 4))) + 2) (nI (hh.1))) 290 ((79 + (4 * (f.2.2.2.2.2 4))) + 3) (nI (f.1)), fg_rho R, 304)
          refine fg_aloadn (fg_ft (pc := 149) tb_Mo_meetLine 92 rfl) rfl ?_
          refine fg_getR (fg_ft (pc := 150) tb_Mo_meetLine 93 rfl) ff_Mo_17 ly_287 rfl (fg_lt ly_287 (by decide)) (rh_287_10 R) ?_
          refine fg_iconst (fg_ft (pc := 153) tb_Mo_meetLine 94 rfl) ic_4 ?_
          refine fg_dup2 (fg_ft (pc := 154) tb_Mo_meetLine 95 rfl) rfl rfl ?_
          refine fg_ialdV (v := (nI (f.2.2.2.2.2 4))) (fg_ft (pc := 155) tb_Mo_meetLine 96 rfl) ly_290 (fg_lt ly_290 (by decide)) (by omega) ((fg_u2ns (f := (fg_u2 (fg_u2 (fg_u2 ν7 290 (79 + (4 * (f.2.2.2.2.2 4))) (nI (a.1))) 290 ((79 + (4 * (f.2.2.2.2.2 4))) + 1) (nI (b9.1))) 290 ((79 + (4 * (f.2.2.2.2.2 4))) + 2) (nI (hh.1)))) (a := 290) (k := ((79 + (4 * (f.2.2.2.2.2 4))) + 3)) (b := 290) (j := 4) (x := (nI (f.1))) (by omega)).trans ((fg_u2ns (f := (fg_u2 (fg_u2 ν7 290 (79 + (4 * (f.2.2.2.2.2 4))) (nI (a.1))) 290 ((79 + (4 * (f.2.2.2.2.2 4))) + 1) (nI (b9.1)))) (a := 290) (k := ((79 + (4 * (f.2.2.2.2.2 4))) + 2)) (b := 290) (j := 4) (x := (nI (hh.1))) (by omega)).trans ((fg_u2ns (f := (fg_u2 ν7 290 (79 + (4 * (f.2.2.2.2.2 4))) (nI (a.1)))) (a := 290) (k := ((79 + (4 * (f.2.2.2.2.2 4))) + 1)) (b := 290) (j := 4) (x := (nI (b9.1))) (by omega)).trans ((fg_u2ns (f := ν7) (a := 290) (k := (79 + (4 * (f.2.2.2.2.2 4)))) (b := 290) (j := 4) (x := (nI (a.1))) (by omega)).trans (h7.2.2.2.2.2.2.1 4 (by omega)))))) ?_
          refine fg_iconst (fg_ft (pc := 156) tb_Mo_meetLine 97 rfl) ic_1 ?_
          refine fg_iaddN (fg_ft (pc := 157) tb_Mo_meetLine 98 rfl) ?_
          refine fg_iastN (fg_ft (pc := 158) tb_Mo_meetLine 99 rfl) ly_290 (fg_lt ly_290 (by decide)) (by omega) ?_
          show fg_wp _ _ _ _ _ _ _ _ _ (fg_u2 (fg_u2 (fg_u2 (fg_u2 (fg_u2 ν7 290 (79 + (4 * (f.2.2.2.2.2 4))) (nI (a.1))) 290 ((79 + (4 * (f.2.2.2.2.2 4))) + 1) (nI (b9.1))) 290 ((79 + (4 * (f.2.2.2.2.2 4))) + 2) (nI (hh.1))) 290 ((79 + (4 * (f.2.2.2.2.2 4))) + 3) (nI (f.1))) 290 4 (nI ((f.2.2.2.2.2 4) + 1)), fg_rho R, 304)
          exact fg_vret (fg_ft (pc := 159) tb_Mo_meetLine 100 rfl) rfl rfl (hQ _ (fun a j p q r => (fg_u2ne r).trans ((fg_u2ne r).trans ((fg_u2ne r).trans ((fg_u2ne r).trans ((fg_u2ne r).trans (ag7 a j p q r)))))) (by
    unfold rz_pm
    rw [if_pos (by omega)]
    exact (((((h7).put).put).put).put).put))
      · refine fg_aloadn (fg_ft (pc := 47) tb_Mo_meetLine 28 rfl) rfl ?_
        refine fg_iconst (fg_ft (pc := 48) tb_Mo_meetLine 29 rfl) ic_2 ?_
        refine fg_aloadn (fg_ft (pc := 49) tb_Mo_meetLine 30 rfl) rfl ?_
        refine fg_getV (v := (nI (pz_S b len a.2.1))) (fg_ft (pc := 50) tb_Mo_meetLine 31 rfl) ff_Mo_81 ly_287 rfl (fg_lt ly_287 (by decide)) h1.2.1.2.1 ?_
        refine fg_callV (fg_ft (pc := 53) tb_Mo_meetLine 32 rfl) cf_Mo_114 (fg_isOf ly_287 rfl (fg_lt ly_287 (by decide))) (as := [.int (nI 2), .int (nI (pz_S b len a.2.1))]) (st := []) rfl rfl (Nat.le_of_ble_eq_true rfl) (Nat.le_refl _) (Nat.le_refl _) (ev_Mo_also (kd := 2) (at9 := (pz_S b len a.2.1)) hle hb256 h1 (by decide) (by decide) (by decide) (rz_S_le hle) ?_)
        intro ν8 hg8 h8
        have ag8 := rz_ag_tr ag1 hg8
        show fg_wp _ _ _ _ _ _ _ _ _ (ν8, fg_rho R, 304)
        have hd : rz_RZ ν8 b len (rz_dup (pz_K b len) (pz_V b len) (pz_S b len) a.1 a.2) := by
          unfold rz_dup
          rw [if_pos ⟨c36, c44⟩]
          exact h8
        have hb3 : (rz_dup (pz_K b len) (pz_V b len) (pz_S b len) a.1 a.2).2.2.2.2 2 ≤ 700 := by rw [rz_dup_C, hCa]; exact hcnt 2 (by decide) (by decide)
        refine fg_aloadn (fg_ft (pc := 56) tb_Mo_meetLine 33 rfl) rfl ?_
        refine fg_iconst (fg_ft (pc := 57) tb_Mo_meetLine 34 rfl) ic_0 ?_
        refine fg_aloadn (fg_ft (pc := 58) tb_Mo_meetLine 35 rfl) rfl ?_
        refine fg_getR (fg_ft (pc := 59) tb_Mo_meetLine 36 rfl) ff_Mo_17 ly_287 rfl (fg_lt ly_287 (by decide)) (rh_287_10 R) ?_
        refine fg_iconst (fg_ft (pc := 62) tb_Mo_meetLine 37 rfl) ic_2 ?_
        refine fg_ialdV (v := (nI ((rz_dup (pz_K b len) (pz_V b len) (pz_S b len) a.1 a.2).2.2.2.2 2))) (fg_ft (pc := 63) tb_Mo_meetLine 38 rfl) ly_290 (fg_lt ly_290 (by decide)) (by omega) (hd.2.2.2.2.2.2.1 2 (by omega)) ?_
        refine fg_iconst (fg_ft (pc := 64) tb_Mo_meetLine 39 rfl) ic_1 ?_
        refine fg_isub (fg_ft (pc := 65) tb_Mo_meetLine 40 rfl) ?_
        refine fg_callV (fg_ft (pc := 66) tb_Mo_meetLine 41 rfl) cf_Mo_121 (fg_isOf ly_287 rfl (fg_lt ly_287 (by decide))) (as := [.int (nI 0), .int ((nI ((rz_dup (pz_K b len) (pz_V b len) (pz_S b len) a.1 a.2).2.2.2.2 2)) - (nI 1))]) (st := []) rfl rfl (Nat.le_of_ble_eq_true rfl) (Nat.le_refl _) (Nat.le_refl _) (ev_Mo_numbered (lo := 0) (hi := ((rz_dup (pz_K b len) (pz_V b len) (pz_S b len) a.1 a.2).2.2.2.2 2)) hle hb256 hd (rz_mp (by omega)) ?_)
        intro ν9 hg9 h9
        have ag9 := rz_ag_tr ag8 hg9
        rw [hb9] at h9 ⊢
        show fg_wp _ _ _ _ _ _ _ _ _ (ν9, fg_rho R, 304)
        refine fg_istoren (fg_ft (pc := 69) tb_Mo_meetLine 42 rfl) (Nat.le_of_ble_eq_true rfl) ?_
        refine fg_aloadn (fg_ft (pc := 70) tb_Mo_meetLine 43 rfl) rfl ?_
        refine fg_iconst (fg_ft (pc := 71) tb_Mo_meetLine 44 rfl) ic_1 ?_
        refine fg_bipush (fg_ft (pc := 72) tb_Mo_meetLine 45 rfl) ib_9 ?_
        refine fg_callV (fg_ft (pc := 74) tb_Mo_meetLine 46 rfl) cf_Mo_121 (fg_isOf ly_287 rfl (fg_lt ly_287 (by decide))) (as := [.int (nI 1), .int (nI 9)]) (st := []) rfl rfl (Nat.le_of_ble_eq_true rfl) (Nat.le_refl _) (Nat.le_refl _) (ev_Mo_numbered (lo := 1) (hi := 9 + 1) hle hb256 h9 (rz_m (by decide) (by decide)) ?_)
        intro ν10 hg10 h10
        have ag10 := rz_ag_tr ag9 hg10
        rw [hhh] at h10 ⊢
        show fg_wp _ _ _ _ _ _ _ _ _ (ν10, fg_rho R, 304)
        refine fg_istore (fg_ft (pc := 77) tb_Mo_meetLine 47 rfl) (Nat.le_of_ble_eq_true rfl) ?_
        refine fg_aloadn (fg_ft (pc := 79) tb_Mo_meetLine 48 rfl) rfl ?_
        refine fg_callV (fg_ft (pc := 80) tb_Mo_meetLine 49 rfl) cf_Mo_128 (fg_isOf ly_287 rfl (fg_lt ly_287 (by decide))) (as := []) (st := []) rfl rfl (Nat.le_of_ble_eq_true rfl) (Nat.le_refl _) (Nat.le_refl _) (ev_Mo_factOf hle hb256 h10 ?_)
        intro ν11 hg11 h11
        have ag11 := rz_ag_tr ag10 hg11
        rw [hf] at h11 ⊢
        show fg_wp _ _ _ _ _ _ _ _ _ (ν11, fg_rho R, 304)
        refine fg_istore (fg_ft (pc := 83) tb_Mo_meetLine 50 rfl) (Nat.le_of_ble_eq_true rfl) ?_
        have hCf : f.2.2.2.2.2 = Z.2.2.2.2 := by rw [← hf, rz_fa_C, ← hhh, rz_nu_C, ← hb9, rz_nu_C, rz_dup_C, hCa]
        have hb4 : f.2.2.2.2.2 4 ≤ 700 := by rw [hCf]; exact hcnt 4 (by decide) (by decide)
        refine fg_aloadn (fg_ft (pc := 85) tb_Mo_meetLine 51 rfl) rfl ?_
        refine fg_getR (fg_ft (pc := 86) tb_Mo_meetLine 52 rfl) ff_Mo_17 ly_287 rfl (fg_lt ly_287 (by decide)) (rh_287_10 R) ?_
        refine fg_iconst (fg_ft (pc := 89) tb_Mo_meetLine 53 rfl) ic_4 ?_
        refine fg_ialdV (v := (nI (f.2.2.2.2.2 4))) (fg_ft (pc := 90) tb_Mo_meetLine 54 rfl) ly_290 (fg_lt ly_290 (by decide)) (by omega) (h11.2.2.2.2.2.2.1 4 (by omega)) ?_
        refine fg_bipush (fg_ft (pc := 91) tb_Mo_meetLine 55 rfl) ib_12 ?_
        refine fg_icmp_geN (tgt := 149) (fg_ft (pc := 93) tb_Mo_meetLine 56 rfl) (by decide) (by omega) (by decide) (fun c93 => ?_) (fun c93 => ?_)
        · refine fg_aloadn (fg_ft (pc := 149) tb_Mo_meetLine 92 rfl) rfl ?_
          refine fg_getR (fg_ft (pc := 150) tb_Mo_meetLine 93 rfl) ff_Mo_17 ly_287 rfl (fg_lt ly_287 (by decide)) (rh_287_10 R) ?_
          refine fg_iconst (fg_ft (pc := 153) tb_Mo_meetLine 94 rfl) ic_4 ?_
          refine fg_dup2 (fg_ft (pc := 154) tb_Mo_meetLine 95 rfl) rfl rfl ?_
          refine fg_ialdV (v := (nI (f.2.2.2.2.2 4))) (fg_ft (pc := 155) tb_Mo_meetLine 96 rfl) ly_290 (fg_lt ly_290 (by decide)) (by omega) (h11.2.2.2.2.2.2.1 4 (by omega)) ?_
          refine fg_iconst (fg_ft (pc := 156) tb_Mo_meetLine 97 rfl) ic_1 ?_
          refine fg_iaddN (fg_ft (pc := 157) tb_Mo_meetLine 98 rfl) ?_
          refine fg_iastN (fg_ft (pc := 158) tb_Mo_meetLine 99 rfl) ly_290 (fg_lt ly_290 (by decide)) (by omega) ?_
          show fg_wp _ _ _ _ _ _ _ _ _ (fg_u2 ν11 290 4 (nI ((f.2.2.2.2.2 4) + 1)), fg_rho R, 304)
          exact fg_vret (fg_ft (pc := 159) tb_Mo_meetLine 100 rfl) rfl rfl (hQ _ (fun a j p q r => (fg_u2ne r).trans (ag11 a j p q r)) (by
    unfold rz_pm
    rw [if_neg (by omega)]
    exact (h11).put))
        · refine fg_bipush (fg_ft (pc := 96) tb_Mo_meetLine 57 rfl) ib_79 ?_
          refine fg_iconst (fg_ft (pc := 98) tb_Mo_meetLine 58 rfl) ic_4 ?_
          refine fg_aloadn (fg_ft (pc := 99) tb_Mo_meetLine 59 rfl) rfl ?_
          refine fg_getR (fg_ft (pc := 100) tb_Mo_meetLine 60 rfl) ff_Mo_17 ly_287 rfl (fg_lt ly_287 (by decide)) (rh_287_10 R) ?_
          refine fg_iconst (fg_ft (pc := 103) tb_Mo_meetLine 61 rfl) ic_4 ?_
          refine fg_ialdV (v := (nI (f.2.2.2.2.2 4))) (fg_ft (pc := 104) tb_Mo_meetLine 62 rfl) ly_290 (fg_lt ly_290 (by decide)) (by omega) (h11.2.2.2.2.2.2.1 4 (by omega)) ?_
          refine fg_imulN (fg_ft (pc := 105) tb_Mo_meetLine 63 rfl) ?_
          refine fg_iaddN (fg_ft (pc := 106) tb_Mo_meetLine 64 rfl) ?_
          refine fg_istore (fg_ft (pc := 107) tb_Mo_meetLine 65 rfl) (Nat.le_of_ble_eq_true rfl) ?_
          refine fg_aloadn (fg_ft (pc := 109) tb_Mo_meetLine 66 rfl) rfl ?_
          refine fg_getR (fg_ft (pc := 110) tb_Mo_meetLine 67 rfl) ff_Mo_17 ly_287 rfl (fg_lt ly_287 (by decide)) (rh_287_10 R) ?_
          refine fg_iload (fg_ft (pc := 113) tb_Mo_meetLine 68 rfl) rfl ?_
          refine fg_iloadn (fg_ft (pc := 115) tb_Mo_meetLine 69 rfl) rfl ?_
          refine fg_iastN (fg_ft (pc := 116) tb_Mo_meetLine 70 rfl) ly_290 (fg_lt ly_290 (by decide)) (by omega) ?_
          show fg_wp _ _ _ _ _ _ _ _ _ (fg_u2 ν11 290 (79 + (4 * (f.2.2.2.2.2 4))) (nI (a.1)), fg_rho R, 304)
          refine fg_aloadn (fg_ft (pc := 117) tb_Mo_meetLine 71 rfl) rfl ?_
          refine fg_getR (fg_ft (pc := 118) tb_Mo_meetLine 72 rfl) ff_Mo_17 ly_287 rfl (fg_lt ly_287 (by decide)) (rh_287_10 R) ?_
          refine fg_iload (fg_ft (pc := 121) tb_Mo_meetLine 73 rfl) rfl ?_
          refine fg_iconst (fg_ft (pc := 123) tb_Mo_meetLine 74 rfl) ic_1 ?_
          refine fg_iaddN (fg_ft (pc := 124) tb_Mo_meetLine 75 rfl) ?_
          refine fg_iloadn (fg_ft (pc := 125) tb_Mo_meetLine 76 rfl) rfl ?_
          refine fg_iastN (fg_ft (pc := 126) tb_Mo_meetLine 77 rfl) ly_290 (fg_lt ly_290 (by decide)) (by omega) ?_
          show fg_wp _ _ _ _ _ _ _ _ _ (fg_u2 (fg_u2 ν11 290 (79 + (4 * (f.2.2.2.2.2 4))) (nI (a.1))) 290 ((79 + (4 * (f.2.2.2.2.2 4))) + 1) (nI (b9.1)), fg_rho R, 304)
          refine fg_aloadn (fg_ft (pc := 127) tb_Mo_meetLine 78 rfl) rfl ?_
          refine fg_getR (fg_ft (pc := 128) tb_Mo_meetLine 79 rfl) ff_Mo_17 ly_287 rfl (fg_lt ly_287 (by decide)) (rh_287_10 R) ?_
          refine fg_iload (fg_ft (pc := 131) tb_Mo_meetLine 80 rfl) rfl ?_
          refine fg_iconst (fg_ft (pc := 133) tb_Mo_meetLine 81 rfl) ic_2 ?_
          refine fg_iaddN (fg_ft (pc := 134) tb_Mo_meetLine 82 rfl) ?_
          refine fg_iload (fg_ft (pc := 135) tb_Mo_meetLine 83 rfl) rfl ?_
          refine fg_iastN (fg_ft (pc := 137) tb_Mo_meetLine 84 rfl) ly_290 (fg_lt ly_290 (by decide)) (by omega) ?_
          show fg_wp _ _ _ _ _ _ _ _ _ (fg_u2 (fg_u2 (fg_u2 ν11 290 (79 + (4 * (f.2.2.2.2.2 4))) (nI (a.1))) 290 ((79 + (4 * (f.2.2.2.2.2 4))) + 1) (nI (b9.1))) 290 ((79 + (4 * (f.2.2.2.2.2 4))) + 2) (nI (hh.1)), fg_rho R, 304)
          refine fg_aloadn (fg_ft (pc := 138) tb_Mo_meetLine 85 rfl) rfl ?_
          refine fg_getR (fg_ft (pc := 139) tb_Mo_meetLine 86 rfl) ff_Mo_17 ly_287 rfl (fg_lt ly_287 (by decide)) (rh_287_10 R) ?_
          refine fg_iload (fg_ft (pc := 142) tb_Mo_meetLine 87 rfl) rfl ?_
          refine fg_iconst (fg_ft (pc := 144) tb_Mo_meetLine 88 rfl) ic_3 ?_
          refine fg_iaddN (fg_ft (pc := 145) tb_Mo_meetLine 89 rfl) ?_
          refine fg_iload (fg_ft (pc := 146) tb_Mo_meetLine 90 rfl) rfl ?_
          refine fg_iastN (fg_ft (pc := 148) tb_Mo_meetLine 91 rfl) ly_290 (fg_lt ly_290 (by decide)) (by omega) ?_
          show fg_wp _ _ _ _ _ _ _ _ _ (fg_u2 (fg_u2 (fg_u2 (fg_u2 ν11 290 (79 + (4 * (f.2.2.2.2.2 4))) (nI (a.1))) 290 ((79 + (4 * (f.2.2.2.2.2 4))) + 1) (nI (b9.1))) 290 ((79 + (4 * (f.2.2.2.2.2 4))) + 2) (nI (hh.1))) 290 ((79 + (4 * (f.2.2.2.2.2 4))) + 3) (nI (f.1)), fg_rho R, 304)
          refine fg_aloadn (fg_ft (pc := 149) tb_Mo_meetLine 92 rfl) rfl ?_
          refine fg_getR (fg_ft (pc := 150) tb_Mo_meetLine 93 rfl) ff_Mo_17 ly_287 rfl (fg_lt ly_287 (by decide)) (rh_287_10 R) ?_
          refine fg_iconst (fg_ft (pc := 153) tb_Mo_meetLine 94 rfl) ic_4 ?_
          refine fg_dup2 (fg_ft (pc := 154) tb_Mo_meetLine 95 rfl) rfl rfl ?_
          refine fg_ialdV (v := (nI (f.2.2.2.2.2 4))) (fg_ft (pc := 155) tb_Mo_meetLine 96 rfl) ly_290 (fg_lt ly_290 (by decide)) (by omega) ((fg_u2ns (f := (fg_u2 (fg_u2 (fg_u2 ν11 290 (79 + (4 * (f.2.2.2.2.2 4))) (nI (a.1))) 290 ((79 + (4 * (f.2.2.2.2.2 4))) + 1) (nI (b9.1))) 290 ((79 + (4 * (f.2.2.2.2.2 4))) + 2) (nI (hh.1)))) (a := 290) (k := ((79 + (4 * (f.2.2.2.2.2 4))) + 3)) (b := 290) (j := 4) (x := (nI (f.1))) (by omega)).trans ((fg_u2ns (f := (fg_u2 (fg_u2 ν11 290 (79 + (4 * (f.2.2.2.2.2 4))) (nI (a.1))) 290 ((79 + (4 * (f.2.2.2.2.2 4))) + 1) (nI (b9.1)))) (a := 290) (k := ((79 + (4 * (f.2.2.2.2.2 4))) + 2)) (b := 290) (j := 4) (x := (nI (hh.1))) (by omega)).trans ((fg_u2ns (f := (fg_u2 ν11 290 (79 + (4 * (f.2.2.2.2.2 4))) (nI (a.1)))) (a := 290) (k := ((79 + (4 * (f.2.2.2.2.2 4))) + 1)) (b := 290) (j := 4) (x := (nI (b9.1))) (by omega)).trans ((fg_u2ns (f := ν11) (a := 290) (k := (79 + (4 * (f.2.2.2.2.2 4)))) (b := 290) (j := 4) (x := (nI (a.1))) (by omega)).trans (h11.2.2.2.2.2.2.1 4 (by omega)))))) ?_
          refine fg_iconst (fg_ft (pc := 156) tb_Mo_meetLine 97 rfl) ic_1 ?_
          refine fg_iaddN (fg_ft (pc := 157) tb_Mo_meetLine 98 rfl) ?_
          refine fg_iastN (fg_ft (pc := 158) tb_Mo_meetLine 99 rfl) ly_290 (fg_lt ly_290 (by decide)) (by omega) ?_
          show fg_wp _ _ _ _ _ _ _ _ _ (fg_u2 (fg_u2 (fg_u2 (fg_u2 (fg_u2 ν11 290 (79 + (4 * (f.2.2.2.2.2 4))) (nI (a.1))) 290 ((79 + (4 * (f.2.2.2.2.2 4))) + 1) (nI (b9.1))) 290 ((79 + (4 * (f.2.2.2.2.2 4))) + 2) (nI (hh.1))) 290 ((79 + (4 * (f.2.2.2.2.2 4))) + 3) (nI (f.1))) 290 4 (nI ((f.2.2.2.2.2 4) + 1)), fg_rho R, 304)
          exact fg_vret (fg_ft (pc := 159) tb_Mo_meetLine 100 rfl) rfl rfl (hQ _ (fun a j p q r => (fg_u2ne r).trans ((fg_u2ne r).trans ((fg_u2ne r).trans ((fg_u2ne r).trans ((fg_u2ne r).trans (ag11 a j p q r)))))) (by
    unfold rz_pm
    rw [if_pos (by omega)]
    exact (((((h11).put).put).put).put).put))
  · refine fg_aloadn (fg_ft (pc := 11) tb_Mo_meetLine 6 rfl) rfl ?_
    refine fg_iconst (fg_ft (pc := 12) tb_Mo_meetLine 7 rfl) ic_3 ?_
    refine fg_iloadn (fg_ft (pc := 13) tb_Mo_meetLine 8 rfl) rfl ?_
    refine fg_callV (fg_ft (pc := 14) tb_Mo_meetLine 9 rfl) cf_Mo_114 (fg_isOf ly_287 rfl (fg_lt ly_287 (by decide))) (as := [.int (nI 3), .int (nI at9)]) (st := []) rfl rfl (Nat.le_of_ble_eq_true rfl) (Nat.le_refl _) (Nat.le_refl _) (ev_Mo_also (kd := 3) (at9 := at9) hle hb256 h (by decide) (by decide) (by decide) (hat) ?_)
    intro ν12 hg12 h12
    have ag12 := hg12
    show fg_wp _ _ _ _ _ _ _ _ _ (ν12, fg_rho R, 304)
    have hc : rz_RZ ν12 b len (rz_c3 4 12 at9 Z) := by
      unfold rz_c3
      rw [if_pos (by omega)]
      exact h12
    have hb2 : (rz_c3 4 12 at9 Z).2.2.2.2 2 ≤ 700 := by rw [rz_c3_C]; exact hcnt 2 (by decide) (by decide)
    refine fg_aloadn (fg_ft (pc := 17) tb_Mo_meetLine 10 rfl) rfl ?_
    refine fg_iconst (fg_ft (pc := 18) tb_Mo_meetLine 11 rfl) ic_0 ?_
    refine fg_aloadn (fg_ft (pc := 19) tb_Mo_meetLine 12 rfl) rfl ?_
    refine fg_getR (fg_ft (pc := 20) tb_Mo_meetLine 13 rfl) ff_Mo_17 ly_287 rfl (fg_lt ly_287 (by decide)) (rh_287_10 R) ?_
    refine fg_iconst (fg_ft (pc := 23) tb_Mo_meetLine 14 rfl) ic_2 ?_
    refine fg_ialdV (v := (nI ((rz_c3 4 12 at9 Z).2.2.2.2 2))) (fg_ft (pc := 24) tb_Mo_meetLine 15 rfl) ly_290 (fg_lt ly_290 (by decide)) (by omega) (hc.2.2.2.2.2.2.1 2 (by omega)) ?_
    refine fg_iconst (fg_ft (pc := 25) tb_Mo_meetLine 16 rfl) ic_1 ?_
    refine fg_isub (fg_ft (pc := 26) tb_Mo_meetLine 17 rfl) ?_
    refine fg_callV (fg_ft (pc := 27) tb_Mo_meetLine 18 rfl) cf_Mo_121 (fg_isOf ly_287 rfl (fg_lt ly_287 (by decide))) (as := [.int (nI 0), .int ((nI ((rz_c3 4 12 at9 Z).2.2.2.2 2)) - (nI 1))]) (st := []) rfl rfl (Nat.le_of_ble_eq_true rfl) (Nat.le_refl _) (Nat.le_refl _) (ev_Mo_numbered (lo := 0) (hi := ((rz_c3 4 12 at9 Z).2.2.2.2 2)) hle hb256 hc (rz_mp (by omega)) ?_)
    intro ν13 hg13 h13
    have ag13 := rz_ag_tr ag12 hg13
    rw [ha] at h13 ⊢
    show fg_wp _ _ _ _ _ _ _ _ _ (ν13, fg_rho R, 304)
    have hCa : a.2.2.2.2.2 = Z.2.2.2.2 := by rw [← ha, rz_nu_C, rz_c3_C]
    have hab : a.1 ≤ 99 ∨ a.1 = 4294967295 := by rw [← ha]; exact rz_nu_lt
    refine fg_istoren (fg_ft (pc := 30) tb_Mo_meetLine 19 rfl) (Nat.le_of_ble_eq_true rfl) ?_
    refine fg_aloadn (fg_ft (pc := 31) tb_Mo_meetLine 20 rfl) rfl ?_
    refine fg_getV (v := (nI (pz_K b len a.2.1))) (fg_ft (pc := 32) tb_Mo_meetLine 21 rfl) ff_Mo_84 ly_287 rfl (fg_lt ly_287 (by decide)) h13.2.1.2.2.1 ?_
    refine fg_iconst (fg_ft (pc := 35) tb_Mo_meetLine 22 rfl) ic_1 ?_
    refine fg_icmp_neN (tgt := 56) (fg_ft (pc := 36) tb_Mo_meetLine 23 rfl) (by decide) (by have := (pz_sp_i b len a.2.1).2.2.2.1; omega) (by decide) (fun c36 => ?_) (fun c36 => ?_)
    · have hd : rz_RZ ν13 b len (rz_dup (pz_K b len) (pz_V b len) (pz_S b len) a.1 a.2) := by
        unfold rz_dup
        rw [if_neg (fun q => by first | exact c36 q.1 | exact c44 q.2)]
        exact h13
      have hb3 : (rz_dup (pz_K b len) (pz_V b len) (pz_S b len) a.1 a.2).2.2.2.2 2 ≤ 700 := by rw [rz_dup_C, hCa]; exact hcnt 2 (by decide) (by decide)
      refine fg_aloadn (fg_ft (pc := 56) tb_Mo_meetLine 33 rfl) rfl ?_
      refine fg_iconst (fg_ft (pc := 57) tb_Mo_meetLine 34 rfl) ic_0 ?_
      refine fg_aloadn (fg_ft (pc := 58) tb_Mo_meetLine 35 rfl) rfl ?_
      refine fg_getR (fg_ft (pc := 59) tb_Mo_meetLine 36 rfl) ff_Mo_17 ly_287 rfl (fg_lt ly_287 (by decide)) (rh_287_10 R) ?_
      refine fg_iconst (fg_ft (pc := 62) tb_Mo_meetLine 37 rfl) ic_2 ?_
      refine fg_ialdV (v := (nI ((rz_dup (pz_K b len) (pz_V b len) (pz_S b len) a.1 a.2).2.2.2.2 2))) (fg_ft (pc := 63) tb_Mo_meetLine 38 rfl) ly_290 (fg_lt ly_290 (by decide)) (by omega) (hd.2.2.2.2.2.2.1 2 (by omega)) ?_
      refine fg_iconst (fg_ft (pc := 64) tb_Mo_meetLine 39 rfl) ic_1 ?_
      refine fg_isub (fg_ft (pc := 65) tb_Mo_meetLine 40 rfl) ?_
      refine fg_callV (fg_ft (pc := 66) tb_Mo_meetLine 41 rfl) cf_Mo_121 (fg_isOf ly_287 rfl (fg_lt ly_287 (by decide))) (as := [.int (nI 0), .int ((nI ((rz_dup (pz_K b len) (pz_V b len) (pz_S b len) a.1 a.2).2.2.2.2 2)) - (nI 1))]) (st := []) rfl rfl (Nat.le_of_ble_eq_true rfl) (Nat.le_refl _) (Nat.le_refl _) (ev_Mo_numbered (lo := 0) (hi := ((rz_dup (pz_K b len) (pz_V b len) (pz_S b len) a.1 a.2).2.2.2.2 2)) hle hb256 hd (rz_mp (by omega)) ?_)
      intro ν14 hg14 h14
      have ag14 := rz_ag_tr ag13 hg14
      rw [hb9] at h14 ⊢
      show fg_wp _ _ _ _ _ _ _ _ _ (ν14, fg_rho R, 304)
      refine fg_istoren (fg_ft (pc := 69) tb_Mo_meetLine 42 rfl) (Nat.le_of_ble_eq_true rfl) ?_
      refine fg_aloadn (fg_ft (pc := 70) tb_Mo_meetLine 43 rfl) rfl ?_
      refine fg_iconst (fg_ft (pc := 71) tb_Mo_meetLine 44 rfl) ic_1 ?_
      refine fg_bipush (fg_ft (pc := 72) tb_Mo_meetLine 45 rfl) ib_9 ?_
      refine fg_callV (fg_ft (pc := 74) tb_Mo_meetLine 46 rfl) cf_Mo_121 (fg_isOf ly_287 rfl (fg_lt ly_287 (by decide))) (as := [.int (nI 1), .int (nI 9)]) (st := []) rfl rfl (Nat.le_of_ble_eq_true rfl) (Nat.le_refl _) (Nat.le_refl _) (ev_Mo_numbered (lo := 1) (hi := 9 + 1) hle hb256 h14 (rz_m (by decide) (by decide)) ?_)
      intro ν15 hg15 h15
      have ag15 := rz_ag_tr ag14 hg15
      rw [hhh] at h15 ⊢
      show fg_wp _ _ _ _ _ _ _ _ _ (ν15, fg_rho R, 304)
      refine fg_istore (fg_ft (pc := 77) tb_Mo_meetLine 47 rfl) (Nat.le_of_ble_eq_true rfl) ?_
      refine fg_aloadn (fg_ft (pc := 79) tb_Mo_meetLine 48 rfl) rfl ?_
      refine fg_callV (fg_ft (pc := 80) tb_Mo_meetLine 49 rfl) cf_Mo_128 (fg_isOf ly_287 rfl (fg_lt ly_287 (by decide))) (as := []) (st := []) rfl rfl (Nat.le_of_ble_eq_true rfl) (Nat.le_refl _) (Nat.le_refl _) (ev_Mo_factOf hle hb256 h15 ?_)
      intro ν16 hg16 h16
      have ag16 := rz_ag_tr ag15 hg16
      rw [hf] at h16 ⊢
      show fg_wp _ _ _ _ _ _ _ _ _ (ν16, fg_rho R, 304)
      refine fg_istore (fg_ft (pc := 83) tb_Mo_meetLine 50 rfl) (Nat.le_of_ble_eq_true rfl) ?_
      have hCf : f.2.2.2.2.2 = Z.2.2.2.2 := by rw [← hf, rz_fa_C, ← hhh, rz_nu_C, ← hb9, rz_nu_C, rz_dup_C, hCa]
      have hb4 : f.2.2.2.2.2 4 ≤ 700 := by rw [hCf]; exact hcnt 4 (by decide) (by decide)
      refine fg_aloadn (fg_ft (pc := 85) tb_Mo_meetLine 51 rfl) rfl ?_
      refine fg_getR (fg_ft (pc := 86) tb_Mo_meetLine 52 rfl) ff_Mo_17 ly_287 rfl (fg_lt ly_287 (by decide)) (rh_287_10 R) ?_
      refine fg_iconst (fg_ft (pc := 89) tb_Mo_meetLine 53 rfl) ic_4 ?_
      refine fg_ialdV (v := (nI (f.2.2.2.2.2 4))) (fg_ft (pc := 90) tb_Mo_meetLine 54 rfl) ly_290 (fg_lt ly_290 (by decide)) (by omega) (h16.2.2.2.2.2.2.1 4 (by omega)) ?_
      refine fg_bipush (fg_ft (pc := 91) tb_Mo_meetLine 55 rfl) ib_12 ?_
      refine fg_icmp_geN (tgt := 149) (fg_ft (pc := 93) tb_Mo_meetLine 56 rfl) (by decide) (by omega) (by decide) (fun c93 => ?_) (fun c93 => ?_)
      · refine fg_aloadn (fg_ft (pc := 149) tb_Mo_meetLine 92 rfl) rfl ?_
        refine fg_getR (fg_ft (pc := 150) tb_Mo_meetLine 93 rfl) ff_Mo_17 ly_287 rfl (fg_lt ly_287 (by decide)) (rh_287_10 R) ?_
        refine fg_iconst (fg_ft (pc := 153) tb_Mo_meetLine 94 rfl) ic_4 ?_
        refine fg_dup2 (fg_ft (pc := 154) tb_Mo_meetLine 95 rfl) rfl rfl ?_
        refine fg_ialdV (v := (nI (f.2.2.2.2.2 4))) (fg_ft (pc := 155) tb_Mo_meetLine 96 rfl) ly_290 (fg_lt ly_290 (by decide)) (by omega) (h16.2.2.2.2.2.2.1 4 (by omega)) ?_
        refine fg_iconst (fg_ft (pc := 156) tb_Mo_meetLine 97 rfl) ic_1 ?_
        refine fg_iaddN (fg_ft (pc := 157) tb_Mo_meetLine 98 rfl) ?_
        refine fg_iastN (fg_ft (pc := 158) tb_Mo_meetLine 99 rfl) ly_290 (fg_lt ly_290 (by decide)) (by omega) ?_
        show fg_wp _ _ _ _ _ _ _ _ _ (fg_u2 ν16 290 4 (nI ((f.2.2.2.2.2 4) + 1)), fg_rho R, 304)
        exact fg_vret (fg_ft (pc := 159) tb_Mo_meetLine 100 rfl) rfl rfl (hQ _ (fun a j p q r => (fg_u2ne r).trans (ag16 a j p q r)) (by
    unfold rz_pm
    rw [if_neg (by omega)]
    exact (h16).put))
      · refine fg_bipush (fg_ft (pc := 96) tb_Mo_meetLine 57 rfl) ib_79 ?_
        refine fg_iconst (fg_ft (pc := 98) tb_Mo_meetLine 58 rfl) ic_4 ?_
        refine fg_aloadn (fg_ft (pc := 99) tb_Mo_meetLine 59 rfl) rfl ?_
        refine fg_getR (fg_ft (pc := 100) tb_Mo_meetLine 60 rfl) ff_Mo_17 ly_287 rfl (fg_lt ly_287 (by decide)) (rh_287_10 R) ?_
        refine fg_iconst (fg_ft (pc := 103) tb_Mo_meetLine 61 rfl) ic_4 ?_
        refine fg_ialdV (v := (nI (f.2.2.2.2.2 4))) (fg_ft (pc := 104) tb_Mo_meetLine 62 rfl) ly_290 (fg_lt ly_290 (by decide)) (by omega) (h16.2.2.2.2.2.2.1 4 (by omega)) ?_
        refine fg_imulN (fg_ft (pc := 105) tb_Mo_meetLine 63 rfl) ?_
        refine fg_iaddN (fg_ft (pc := 106) tb_Mo_meetLine 64 rfl) ?_
        refine fg_istore (fg_ft (pc := 107) tb_Mo_meetLine 65 rfl) (Nat.le_of_ble_eq_true rfl) ?_
        refine fg_aloadn (fg_ft (pc := 109) tb_Mo_meetLine 66 rfl) rfl ?_
        refine fg_getR (fg_ft (pc := 110) tb_Mo_meetLine 67 rfl) ff_Mo_17 ly_287 rfl (fg_lt ly_287 (by decide)) (rh_287_10 R) ?_
        refine fg_iload (fg_ft (pc := 113) tb_Mo_meetLine 68 rfl) rfl ?_
        refine fg_iloadn (fg_ft (pc := 115) tb_Mo_meetLine 69 rfl) rfl ?_
        refine fg_iastN (fg_ft (pc := 116) tb_Mo_meetLine 70 rfl) ly_290 (fg_lt ly_290 (by decide)) (by omega) ?_
        show fg_wp _ _ _ _ _ _ _ _ _ (fg_u2 ν16 290 (79 + (4 * (f.2.2.2.2.2 4))) (nI (a.1)), fg_rho R, 304)
        refine fg_aloadn (fg_ft (pc := 117) tb_Mo_meetLine 71 rfl) rfl ?_
        refine fg_getR (fg_ft (pc := 118) tb_Mo_meetLine 72 rfl) ff_Mo_17 ly_287 rfl (fg_lt ly_287 (by decide)) (rh_287_10 R) ?_
        refine fg_iload (fg_ft (pc := 121) tb_Mo_meetLine 73 rfl) rfl ?_
        refine fg_iconst (fg_ft (pc := 123) tb_Mo_meetLine 74 rfl) ic_1 ?_
        refine fg_iaddN (fg_ft (pc := 124) tb_Mo_meetLine 75 rfl) ?_
        refine fg_iloadn (fg_ft (pc := 125) tb_Mo_meetLine 76 rfl) rfl ?_
        refine fg_iastN (fg_ft (pc := 126) tb_Mo_meetLine 77 rfl) ly_290 (fg_lt ly_290 (by decide)) (by omega) ?_
        show fg_wp _ _ _ _ _ _ _ _ _ (fg_u2 (fg_u2 ν16 290 (79 + (4 * (f.2.2.2.2.2 4))) (nI (a.1))) 290 ((79 + (4 * (f.2.2.2.2.2 4))) + 1) (nI (b9.1)), fg_rho R, 304)
        refine fg_aloadn (fg_ft (pc := 127) tb_Mo_meetLine 78 rfl) rfl ?_
        refine fg_getR (fg_ft (pc := 128) tb_Mo_meetLine 79 rfl) ff_Mo_17 ly_287 rfl (fg_lt ly_287 (by decide)) (rh_287_10 R) ?_
        refine fg_iload (fg_ft (pc := 131) tb_Mo_meetLine 80 rfl) rfl ?_
        refine fg_iconst (fg_ft (pc := 133) tb_Mo_meetLine 81 rfl) ic_2 ?_
        refine fg_iaddN (fg_ft (pc := 134) tb_Mo_meetLine 82 rfl) ?_
        refine fg_iload (fg_ft (pc := 135) tb_Mo_meetLine 83 rfl) rfl ?_
        refine fg_iastN (fg_ft (pc := 137) tb_Mo_meetLine 84 rfl) ly_290 (fg_lt ly_290 (by decide)) (by omega) ?_
        show fg_wp _ _ _ _ _ _ _ _ _ (fg_u2 (fg_u2 (fg_u2 ν16 290 (79 + (4 * (f.2.2.2.2.2 4))) (nI (a.1))) 290 ((79 + (4 * (f.2.2.2.2.2 4))) + 1) (nI (b9.1))) 290 ((79 + (4 * (f.2.2.2.2.2 4))) + 2) (nI (hh.1)), fg_rho R, 304)
        refine fg_aloadn (fg_ft (pc := 138) tb_Mo_meetLine 85 rfl) rfl ?_
        refine fg_getR (fg_ft (pc := 139) tb_Mo_meetLine 86 rfl) ff_Mo_17 ly_287 rfl (fg_lt ly_287 (by decide)) (rh_287_10 R) ?_
        refine fg_iload (fg_ft (pc := 142) tb_Mo_meetLine 87 rfl) rfl ?_
        refine fg_iconst (fg_ft (pc := 144) tb_Mo_meetLine 88 rfl) ic_3 ?_
        refine fg_iaddN (fg_ft (pc := 145) tb_Mo_meetLine 89 rfl) ?_
        refine fg_iload (fg_ft (pc := 146) tb_Mo_meetLine 90 rfl) rfl ?_
        refine fg_iastN (fg_ft (pc := 148) tb_Mo_meetLine 91 rfl) ly_290 (fg_lt ly_290 (by decide)) (by omega) ?_
        show fg_wp _ _ _ _ _ _ _ _ _ (fg_u2 (fg_u2 (fg_u2 (fg_u2 ν16 290 (79 + (4 * (f.2.2.2.2.2 4))) (nI (a.1))) 290 ((79 + (4 * (f.2.2.2.2.2 4))) + 1) (nI (b9.1))) 290 ((79 + (4 * (f.2.2.2.2.2 4))) + 2) (nI (hh.1))) 290 ((79 + (4 * (f.2.2.2.2.2 4))) + 3) (nI (f.1)), fg_rho R, 304)
        refine fg_aloadn (fg_ft (pc := 149) tb_Mo_meetLine 92 rfl) rfl ?_
        refine fg_getR (fg_ft (pc := 150) tb_Mo_meetLine 93 rfl) ff_Mo_17 ly_287 rfl (fg_lt ly_287 (by decide)) (rh_287_10 R) ?_
        refine fg_iconst (fg_ft (pc := 153) tb_Mo_meetLine 94 rfl) ic_4 ?_
        refine fg_dup2 (fg_ft (pc := 154) tb_Mo_meetLine 95 rfl) rfl rfl ?_
        refine fg_ialdV (v := (nI (f.2.2.2.2.2 4))) (fg_ft (pc := 155) tb_Mo_meetLine 96 rfl) ly_290 (fg_lt ly_290 (by decide)) (by omega) ((fg_u2ns (f := (fg_u2 (fg_u2 (fg_u2 ν16 290 (79 + (4 * (f.2.2.2.2.2 4))) (nI (a.1))) 290 ((79 + (4 * (f.2.2.2.2.2 4))) + 1) (nI (b9.1))) 290 ((79 + (4 * (f.2.2.2.2.2 4))) + 2) (nI (hh.1)))) (a := 290) (k := ((79 + (4 * (f.2.2.2.2.2 4))) + 3)) (b := 290) (j := 4) (x := (nI (f.1))) (by omega)).trans ((fg_u2ns (f := (fg_u2 (fg_u2 ν16 290 (79 + (4 * (f.2.2.2.2.2 4))) (nI (a.1))) 290 ((79 + (4 * (f.2.2.2.2.2 4))) + 1) (nI (b9.1)))) (a := 290) (k := ((79 + (4 * (f.2.2.2.2.2 4))) + 2)) (b := 290) (j := 4) (x := (nI (hh.1))) (by omega)).trans ((fg_u2ns (f := (fg_u2 ν16 290 (79 + (4 * (f.2.2.2.2.2 4))) (nI (a.1)))) (a := 290) (k := ((79 + (4 * (f.2.2.2.2.2 4))) + 1)) (b := 290) (j := 4) (x := (nI (b9.1))) (by omega)).trans ((fg_u2ns (f := ν16) (a := 290) (k := (79 + (4 * (f.2.2.2.2.2 4)))) (b := 290) (j := 4) (x := (nI (a.1))) (by omega)).trans (h16.2.2.2.2.2.2.1 4 (by omega)))))) ?_
        refine fg_iconst (fg_ft (pc := 156) tb_Mo_meetLine 97 rfl) ic_1 ?_
        refine fg_iaddN (fg_ft (pc := 157) tb_Mo_meetLine 98 rfl) ?_
        refine fg_iastN (fg_ft (pc := 158) tb_Mo_meetLine 99 rfl) ly_290 (fg_lt ly_290 (by decide)) (by omega) ?_
        show fg_wp _ _ _ _ _ _ _ _ _ (fg_u2 (fg_u2 (fg_u2 (fg_u2 (fg_u2 ν16 290 (79 + (4 * (f.2.2.2.2.2 4))) (nI (a.1))) 290 ((79 + (4 * (f.2.2.2.2.2 4))) + 1) (nI (b9.1))) 290 ((79 + (4 * (f.2.2.2.2.2 4))) + 2) (nI (hh.1))) 290 ((79 + (4 * (f.2.2.2.2.2 4))) + 3) (nI (f.1))) 290 4 (nI ((f.2.2.2.2.2 4) + 1)), fg_rho R, 304)
        exact fg_vret (fg_ft (pc := 159) tb_Mo_meetLine 100 rfl) rfl rfl (hQ _ (fun a j p q r => (fg_u2ne r).trans ((fg_u2ne r).trans ((fg_u2ne r).trans ((fg_u2ne r).trans ((fg_u2ne r).trans (ag16 a j p q r)))))) (by
    unfold rz_pm
    rw [if_pos (by omega)]
    exact (((((h16).put).put).put).put).put))
    · have hK1 := c36
      refine fg_aloadn (fg_ft (pc := 39) tb_Mo_meetLine 24 rfl) rfl ?_
      refine fg_getV (v := (nI (pz_V b len a.2.1))) (fg_ft (pc := 40) tb_Mo_meetLine 25 rfl) ff_Mo_100 ly_287 rfl (fg_lt ly_287 (by decide)) (h13.2.1.2.2.2.1 hK1) ?_
      refine fg_iloadn (fg_ft (pc := 43) tb_Mo_meetLine 26 rfl) rfl ?_
      refine fg_icmp_neW (tgt := 56) (fg_ft (pc := 44) tb_Mo_meetLine 27 rfl) (by decide) (Nat.lt_trans (show _ < 2 ^ 31 from by have := (pz_sp_i b len a.2.1).2.2.2.2.2.2.1; omega) (by decide)) (by have := hab; omega) (fun c44 => ?_) (fun c44 => ?_)
      · have hd : rz_RZ ν13 b len (rz_dup (pz_K b len) (pz_V b len) (pz_S b len) a.1 a.2) := by
          unfold rz_dup
          rw [if_neg (fun q => by first | exact c36 q.1 | exact c44 q.2)]
          exact h13
        have hb3 : (rz_dup (pz_K b len) (pz_V b len) (pz_S b len) a.1 a.2).2.2.2.2 2 ≤ 700 := by rw [rz_dup_C, hCa]; exact hcnt 2 (by decide) (by decide)
        refine fg_aloadn (fg_ft (pc := 56) tb_Mo_meetLine 33 rfl) rfl ?_
        refine fg_iconst (fg_ft (pc := 57) tb_Mo_meetLine 34 rfl) ic_0 ?_
        refine fg_aloadn (fg_ft (pc := 58) tb_Mo_meetLine 35 rfl) rfl ?_
        refine fg_getR (fg_ft (pc := 59) tb_Mo_meetLine 36 rfl) ff_Mo_17 ly_287 rfl (fg_lt ly_287 (by decide)) (rh_287_10 R) ?_
        refine fg_iconst (fg_ft (pc := 62) tb_Mo_meetLine 37 rfl) ic_2 ?_
        refine fg_ialdV (v := (nI ((rz_dup (pz_K b len) (pz_V b len) (pz_S b len) a.1 a.2).2.2.2.2 2))) (fg_ft (pc := 63) tb_Mo_meetLine 38 rfl) ly_290 (fg_lt ly_290 (by decide)) (by omega) (hd.2.2.2.2.2.2.1 2 (by omega)) ?_
        refine fg_iconst (fg_ft (pc := 64) tb_Mo_meetLine 39 rfl) ic_1 ?_
        refine fg_isub (fg_ft (pc := 65) tb_Mo_meetLine 40 rfl) ?_
        refine fg_callV (fg_ft (pc := 66) tb_Mo_meetLine 41 rfl) cf_Mo_121 (fg_isOf ly_287 rfl (fg_lt ly_287 (by decide))) (as := [.int (nI 0), .int ((nI ((rz_dup (pz_K b len) (pz_V b len) (pz_S b len) a.1 a.2).2.2.2.2 2)) - (nI 1))]) (st := []) rfl rfl (Nat.le_of_ble_eq_true rfl) (Nat.le_refl _) (Nat.le_refl _) (ev_Mo_numbered (lo := 0) (hi := ((rz_dup (pz_K b len) (pz_V b len) (pz_S b len) a.1 a.2).2.2.2.2 2)) hle hb256 hd (rz_mp (by omega)) ?_)
        intro ν17 hg17 h17
        have ag17 := rz_ag_tr ag13 hg17
        rw [hb9] at h17 ⊢
        show fg_wp _ _ _ _ _ _ _ _ _ (ν17, fg_rho R, 304)
        refine fg_istoren (fg_ft (pc := 69) tb_Mo_meetLine 42 rfl) (Nat.le_of_ble_eq_true rfl) ?_
        refine fg_aloadn (fg_ft (pc := 70) tb_Mo_meetLine 43 rfl) rfl ?_
        refine fg_iconst (fg_ft (pc := 71) tb_Mo_meetLine 44 rfl) ic_1 ?_
        refine fg_bipush (fg_ft (pc := 72) tb_Mo_meetLine 45 rfl) ib_9 ?_
        refine fg_callV (fg_ft (pc := 74) tb_Mo_meetLine 46 rfl) cf_Mo_121 (fg_isOf ly_287 rfl (fg_lt ly_287 (by decide))) (as := [.int (nI 1), .int (nI 9)]) (st := []) rfl rfl (Nat.le_of_ble_eq_true rfl) (Nat.le_refl _) (Nat.le_refl _) (ev_Mo_numbered (lo := 1) (hi := 9 + 1) hle hb256 h17 (rz_m (by decide) (by decide)) ?_)
        intro ν18 hg18 h18
        have ag18 := rz_ag_tr ag17 hg18
        rw [hhh] at h18 ⊢
        show fg_wp _ _ _ _ _ _ _ _ _ (ν18, fg_rho R, 304)
        refine fg_istore (fg_ft (pc := 77) tb_Mo_meetLine 47 rfl) (Nat.le_of_ble_eq_true rfl) ?_
        refine fg_aloadn (fg_ft (pc := 79) tb_Mo_meetLine 48 rfl) rfl ?_
        refine fg_callV (fg_ft (pc := 80) tb_Mo_meetLine 49 rfl) cf_Mo_128 (fg_isOf ly_287 rfl (fg_lt ly_287 (by decide))) (as := []) (st := []) rfl rfl (Nat.le_of_ble_eq_true rfl) (Nat.le_refl _) (Nat.le_refl _) (ev_Mo_factOf hle hb256 h18 ?_)
        intro ν19 hg19 h19
        have ag19 := rz_ag_tr ag18 hg19
        rw [hf] at h19 ⊢
        show fg_wp _ _ _ _ _ _ _ _ _ (ν19, fg_rho R, 304)
        refine fg_istore (fg_ft (pc := 83) tb_Mo_meetLine 50 rfl) (Nat.le_of_ble_eq_true rfl) ?_
        have hCf : f.2.2.2.2.2 = Z.2.2.2.2 := by rw [← hf, rz_fa_C, ← hhh, rz_nu_C, ← hb9, rz_nu_C, rz_dup_C, hCa]
        have hb4 : f.2.2.2.2.2 4 ≤ 700 := by rw [hCf]; exact hcnt 4 (by decide) (by decide)
        refine fg_aloadn (fg_ft (pc := 85) tb_Mo_meetLine 51 rfl) rfl ?_
        refine fg_getR (fg_ft (pc := 86) tb_Mo_meetLine 52 rfl) ff_Mo_17 ly_287 rfl (fg_lt ly_287 (by decide)) (rh_287_10 R) ?_
        refine fg_iconst (fg_ft (pc := 89) tb_Mo_meetLine 53 rfl) ic_4 ?_
        refine fg_ialdV (v := (nI (f.2.2.2.2.2 4))) (fg_ft (pc := 90) tb_Mo_meetLine 54 rfl) ly_290 (fg_lt ly_290 (by decide)) (by omega) (h19.2.2.2.2.2.2.1 4 (by omega)) ?_
        refine fg_bipush (fg_ft (pc := 91) tb_Mo_meetLine 55 rfl) ib_12 ?_
        refine fg_icmp_geN (tgt := 149) (fg_ft (pc := 93) tb_Mo_meetLine 56 rfl) (by decide) (by omega) (by decide) (fun c93 => ?_) (fun c93 => ?_)
        · refine fg_aloadn (fg_ft (pc := 149) tb_Mo_meetLine 92 rfl) rfl ?_
          refine fg_getR (fg_ft (pc := 150) tb_Mo_meetLine 93 rfl) ff_Mo_17 ly_287 rfl (fg_lt ly_287 (by decide)) (rh_287_10 R) ?_
          refine fg_iconst (fg_ft (pc := 153) tb_Mo_meetLine 94 rfl) ic_4 ?_
          refine fg_dup2 (fg_ft (pc := 154) tb_Mo_meetLine 95 rfl) rfl rfl ?_
          refine fg_ialdV (v := (nI (f.2.2.2.2.2 4))) (fg_ft (pc := 155) tb_Mo_meetLine 96 rfl) ly_290 (fg_lt ly_290 (by decide)) (by omega) (h19.2.2.2.2.2.2.1 4 (by omega)) ?_
          refine fg_iconst (fg_ft (pc := 156) tb_Mo_meetLine 97 rfl) ic_1 ?_
          refine fg_iaddN (fg_ft (pc := 157) tb_Mo_meetLine 98 rfl) ?_
          refine fg_iastN (fg_ft (pc := 158) tb_Mo_meetLine 99 rfl) ly_290 (fg_lt ly_290 (by decide)) (by omega) ?_
          show fg_wp _ _ _ _ _ _ _ _ _ (fg_u2 ν19 290 4 (nI ((f.2.2.2.2.2 4) + 1)), fg_rho R, 304)
          exact fg_vret (fg_ft (pc := 159) tb_Mo_meetLine 100 rfl) rfl rfl (hQ _ (fun a j p q r => (fg_u2ne r).trans (ag19 a j p q r)) (by
    unfold rz_pm
    rw [if_neg (by omega)]
    exact (h19).put))
        · refine fg_bipush (fg_ft (pc := 96) tb_Mo_meetLine 57 rfl) ib_79 ?_
          refine fg_iconst (fg_ft (pc := 98) tb_Mo_meetLine 58 rfl) ic_4 ?_
          refine fg_aloadn (fg_ft (pc := 99) tb_Mo_meetLine 59 rfl) rfl ?_
          refine fg_getR (fg_ft (pc := 100) tb_Mo_meetLine 60 rfl) ff_Mo_17 ly_287 rfl (fg_lt ly_287 (by decide)) (rh_287_10 R) ?_
          refine fg_iconst (fg_ft (pc := 103) tb_Mo_meetLine 61 rfl) ic_4 ?_
          refine fg_ialdV (v := (nI (f.2.2.2.2.2 4))) (fg_ft (pc := 104) tb_Mo_meetLine 62 rfl) ly_290 (fg_lt ly_290 (by decide)) (by omega) (h19.2.2.2.2.2.2.1 4 (by omega)) ?_
          refine fg_imulN (fg_ft (pc := 105) tb_Mo_meetLine 63 rfl) ?_
          refine fg_iaddN (fg_ft (pc := 106) tb_Mo_meetLine 64 rfl) ?_
          refine fg_istore (fg_ft (pc := 107) tb_Mo_meetLine 65 rfl) (Nat.le_of_ble_eq_true rfl) ?_
          refine fg_aloadn (fg_ft (pc := 109) tb_Mo_meetLine 66 rfl) rfl ?_
          refine fg_getR (fg_ft (pc := 110) tb_Mo_meetLine 67 rfl) ff_Mo_17 ly_287 rfl (fg_lt ly_287 (by decide)) (rh_287_10 R) ?_
          refine fg_iload (fg_ft (pc := 113) tb_Mo_meetLine 68 rfl) rfl ?_
          refine fg_iloadn (fg_ft (pc := 115) tb_Mo_meetLine 69 rfl) rfl ?_
          refine fg_iastN (fg_ft (pc := 116) tb_Mo_meetLine 70 rfl) ly_290 (fg_lt ly_290 (by decide)) (by omega) ?_
          show fg_wp _ _ _ _ _ _ _ _ _ (fg_u2 ν19 290 (79 + (4 * (f.2.2.2.2.2 4))) (nI (a.1)), fg_rho R, 304)
          refine fg_aloadn (fg_ft (pc := 117) tb_Mo_meetLine 71 rfl) rfl ?_
          refine fg_getR (fg_ft (pc := 118) tb_Mo_meetLine 72 rfl) ff_Mo_17 ly_287 rfl (fg_lt ly_287 (by decide)) (rh_287_10 R) ?_
          refine fg_iload (fg_ft (pc := 121) tb_Mo_meetLine 73 rfl) rfl ?_
          refine fg_iconst (fg_ft (pc := 123) tb_Mo_meetLine 74 rfl) ic_1 ?_
          refine fg_iaddN (fg_ft (pc := 124) tb_Mo_meetLine 75 rfl) ?_
          refine fg_iloadn (fg_ft (pc := 125) tb_Mo_meetLine 76 rfl) rfl ?_
          refine fg_iastN (fg_ft (pc := 126) tb_Mo_meetLine 77 rfl) ly_290 (fg_lt ly_290 (by decide)) (by omega) ?_
          show fg_wp _ _ _ _ _ _ _ _ _ (fg_u2 (fg_u2 ν19 290 (79 + (4 * (f.2.2.2.2.2 4))) (nI (a.1))) 290 ((79 + (4 * (f.2.2.2.2.2 4))) + 1) (nI (b9.1)), fg_rho R, 304)
          refine fg_aloadn (fg_ft (pc := 127) tb_Mo_meetLine 78 rfl) rfl ?_
          refine fg_getR (fg_ft (pc := 128) tb_Mo_meetLine 79 rfl) ff_Mo_17 ly_287 rfl (fg_lt ly_287 (by decide)) (rh_287_10 R) ?_
          refine fg_iload (fg_ft (pc := 131) tb_Mo_meetLine 80 rfl) rfl ?_
          refine fg_iconst (fg_ft (pc := 133) tb_Mo_meetLine 81 rfl) ic_2 ?_
          refine fg_iaddN (fg_ft (pc := 134) tb_Mo_meetLine 82 rfl) ?_
          refine fg_iload (fg_ft (pc := 135) tb_Mo_meetLine 83 rfl) rfl ?_
          refine fg_iastN (fg_ft (pc := 137) tb_Mo_meetLine 84 rfl) ly_290 (fg_lt ly_290 (by decide)) (by omega) ?_
          show fg_wp _ _ _ _ _ _ _ _ _ (fg_u2 (fg_u2 (fg_u2 ν19 290 (79 + (4 * (f.2.2.2.2.2 4))) (nI (a.1))) 290 ((79 + (4 * (f.2.2.2.2.2 4))) + 1) (nI (b9.1))) 290 ((79 + (4 * (f.2.2.2.2.2 4))) + 2) (nI (hh.1)), fg_rho R, 304)
          refine fg_aloadn (fg_ft (pc := 138) tb_Mo_meetLine 85 rfl) rfl ?_
          refine fg_getR (fg_ft (pc := 139) tb_Mo_meetLine 86 rfl) ff_Mo_17 ly_287 rfl (fg_lt ly_287 (by decide)) (rh_287_10 R) ?_
          refine fg_iload (fg_ft (pc := 142) tb_Mo_meetLine 87 rfl) rfl ?_
          refine fg_iconst (fg_ft (pc := 144) tb_Mo_meetLine 88 rfl) ic_3 ?_
          refine fg_iaddN (fg_ft (pc := 145) tb_Mo_meetLine 89 rfl) ?_
          refine fg_iload (fg_ft (pc := 146) tb_Mo_meetLine 90 rfl) rfl ?_
          refine fg_iastN (fg_ft (pc := 148) tb_Mo_meetLine 91 rfl) ly_290 (fg_lt ly_290 (by decide)) (by omega) ?_
          show fg_wp _ _ _ _ _ _ _ _ _ (fg_u2 (fg_u2 (fg_u2 (fg_u2 ν19 290 (79 + (4 * (f.2.2.2.2.2 4))) (nI (a.1))) 290 ((79 + (4 * (f.2.2.2.2.2 4))) + 1) (nI (b9.1))) 290 ((79 + (4 * (f.2.2.2.2.2 4))) + 2) (nI (hh.1))) 290 ((79 + (4 * (f.2.2.2.2.2 4))) + 3) (nI (f.1)), fg_rho R, 304)
          refine fg_aloadn (fg_ft (pc := 149) tb_Mo_meetLine 92 rfl) rfl ?_
          refine fg_getR (fg_ft (pc := 150) tb_Mo_meetLine 93 rfl) ff_Mo_17 ly_287 rfl (fg_lt ly_287 (by decide)) (rh_287_10 R) ?_
          refine fg_iconst (fg_ft (pc := 153) tb_Mo_meetLine 94 rfl) ic_4 ?_
          refine fg_dup2 (fg_ft (pc := 154) tb_Mo_meetLine 95 rfl) rfl rfl ?_
          refine fg_ialdV (v := (nI (f.2.2.2.2.2 4))) (fg_ft (pc := 155) tb_Mo_meetLine 96 rfl) ly_290 (fg_lt ly_290 (by decide)) (by omega) ((fg_u2ns (f := (fg_u2 (fg_u2 (fg_u2 ν19 290 (79 + (4 * (f.2.2.2.2.2 4))) (nI (a.1))) 290 ((79 + (4 * (f.2.2.2.2.2 4))) + 1) (nI (b9.1))) 290 ((79 + (4 * (f.2.2.2.2.2 4))) + 2) (nI (hh.1)))) (a := 290) (k := ((79 + (4 * (f.2.2.2.2.2 4))) + 3)) (b := 290) (j := 4) (x := (nI (f.1))) (by omega)).trans ((fg_u2ns (f := (fg_u2 (fg_u2 ν19 290 (79 + (4 * (f.2.2.2.2.2 4))) (nI (a.1))) 290 ((79 + (4 * (f.2.2.2.2.2 4))) + 1) (nI (b9.1)))) (a := 290) (k := ((79 + (4 * (f.2.2.2.2.2 4))) + 2)) (b := 290) (j := 4) (x := (nI (hh.1))) (by omega)).trans ((fg_u2ns (f := (fg_u2 ν19 290 (79 + (4 * (f.2.2.2.2.2 4))) (nI (a.1)))) (a := 290) (k := ((79 + (4 * (f.2.2.2.2.2 4))) + 1)) (b := 290) (j := 4) (x := (nI (b9.1))) (by omega)).trans ((fg_u2ns (f := ν19) (a := 290) (k := (79 + (4 * (f.2.2.2.2.2 4)))) (b := 290) (j := 4) (x := (nI (a.1))) (by omega)).trans (h19.2.2.2.2.2.2.1 4 (by omega)))))) ?_
          refine fg_iconst (fg_ft (pc := 156) tb_Mo_meetLine 97 rfl) ic_1 ?_
          refine fg_iaddN (fg_ft (pc := 157) tb_Mo_meetLine 98 rfl) ?_
          refine fg_iastN (fg_ft (pc := 158) tb_Mo_meetLine 99 rfl) ly_290 (fg_lt ly_290 (by decide)) (by omega) ?_
          show fg_wp _ _ _ _ _ _ _ _ _ (fg_u2 (fg_u2 (fg_u2 (fg_u2 (fg_u2 ν19 290 (79 + (4 * (f.2.2.2.2.2 4))) (nI (a.1))) 290 ((79 + (4 * (f.2.2.2.2.2 4))) + 1) (nI (b9.1))) 290 ((79 + (4 * (f.2.2.2.2.2 4))) + 2) (nI (hh.1))) 290 ((79 + (4 * (f.2.2.2.2.2 4))) + 3) (nI (f.1))) 290 4 (nI ((f.2.2.2.2.2 4) + 1)), fg_rho R, 304)
          exact fg_vret (fg_ft (pc := 159) tb_Mo_meetLine 100 rfl) rfl rfl (hQ _ (fun a j p q r => (fg_u2ne r).trans ((fg_u2ne r).trans ((fg_u2ne r).trans ((fg_u2ne r).trans ((fg_u2ne r).trans (ag19 a j p q r)))))) (by
    unfold rz_pm
    rw [if_pos (by omega)]
    exact (((((h19).put).put).put).put).put))
      · refine fg_aloadn (fg_ft (pc := 47) tb_Mo_meetLine 28 rfl) rfl ?_
        refine fg_iconst (fg_ft (pc := 48) tb_Mo_meetLine 29 rfl) ic_2 ?_
        refine fg_aloadn (fg_ft (pc := 49) tb_Mo_meetLine 30 rfl) rfl ?_
        refine fg_getV (v := (nI (pz_S b len a.2.1))) (fg_ft (pc := 50) tb_Mo_meetLine 31 rfl) ff_Mo_81 ly_287 rfl (fg_lt ly_287 (by decide)) h13.2.1.2.1 ?_
        refine fg_callV (fg_ft (pc := 53) tb_Mo_meetLine 32 rfl) cf_Mo_114 (fg_isOf ly_287 rfl (fg_lt ly_287 (by decide))) (as := [.int (nI 2), .int (nI (pz_S b len a.2.1))]) (st := []) rfl rfl (Nat.le_of_ble_eq_true rfl) (Nat.le_refl _) (Nat.le_refl _) (ev_Mo_also (kd := 2) (at9 := (pz_S b len a.2.1)) hle hb256 h13 (by decide) (by decide) (by decide) (rz_S_le hle) ?_)
        intro ν20 hg20 h20
        have ag20 := rz_ag_tr ag13 hg20
        show fg_wp _ _ _ _ _ _ _ _ _ (ν20, fg_rho R, 304)
        have hd : rz_RZ ν20 b len (rz_dup (pz_K b len) (pz_V b len) (pz_S b len) a.1 a.2) := by
          unfold rz_dup
          rw [if_pos ⟨c36, c44⟩]
          exact h20
        have hb3 : (rz_dup (pz_K b len) (pz_V b len) (pz_S b len) a.1 a.2).2.2.2.2 2 ≤ 700 := by rw [rz_dup_C, hCa]; exact hcnt 2 (by decide) (by decide)
        refine fg_aloadn (fg_ft (pc := 56) tb_Mo_meetLine 33 rfl) rfl ?_
        refine fg_iconst (fg_ft (pc := 57) tb_Mo_meetLine 34 rfl) ic_0 ?_
        refine fg_aloadn (fg_ft (pc := 58) tb_Mo_meetLine 35 rfl) rfl ?_
        refine fg_getR (fg_ft (pc := 59) tb_Mo_meetLine 36 rfl) ff_Mo_17 ly_287 rfl (fg_lt ly_287 (by decide)) (rh_287_10 R) ?_
        refine fg_iconst (fg_ft (pc := 62) tb_Mo_meetLine 37 rfl) ic_2 ?_
        refine fg_ialdV (v := (nI ((rz_dup (pz_K b len) (pz_V b len) (pz_S b len) a.1 a.2).2.2.2.2 2))) (fg_ft (pc := 63) tb_Mo_meetLine 38 rfl) ly_290 (fg_lt ly_290 (by decide)) (by omega) (hd.2.2.2.2.2.2.1 2 (by omega)) ?_
        refine fg_iconst (fg_ft (pc := 64) tb_Mo_meetLine 39 rfl) ic_1 ?_
        refine fg_isub (fg_ft (pc := 65) tb_Mo_meetLine 40 rfl) ?_
        refine fg_callV (fg_ft (pc := 66) tb_Mo_meetLine 41 rfl) cf_Mo_121 (fg_isOf ly_287 rfl (fg_lt ly_287 (by decide))) (as := [.int (nI 0), .int ((nI ((rz_dup (pz_K b len) (pz_V b len) (pz_S b len) a.1 a.2).2.2.2.2 2)) - (nI 1))]) (st := []) rfl rfl (Nat.le_of_ble_eq_true rfl) (Nat.le_refl _) (Nat.le_refl _) (ev_Mo_numbered (lo := 0) (hi := ((rz_dup (pz_K b len) (pz_V b len) (pz_S b len) a.1 a.2).2.2.2.2 2)) hle hb256 hd (rz_mp (by omega)) ?_)
        intro ν21 hg21 h21
        have ag21 := rz_ag_tr ag20 hg21
        rw [hb9] at h21 ⊢
        show fg_wp _ _ _ _ _ _ _ _ _ (ν21, fg_rho R, 304)
        refine fg_istoren (fg_ft (pc := 69) tb_Mo_meetLine 42 rfl) (Nat.le_of_ble_eq_true rfl) ?_
        refine fg_aloadn (fg_ft (pc := 70) tb_Mo_meetLine 43 rfl) rfl ?_
        refine fg_iconst (fg_ft (pc := 71) tb_Mo_meetLine 44 rfl) ic_1 ?_
        refine fg_bipush (fg_ft (pc := 72) tb_Mo_meetLine 45 rfl) ib_9 ?_
        refine fg_callV (fg_ft (pc := 74) tb_Mo_meetLine 46 rfl) cf_Mo_121 (fg_isOf ly_287 rfl (fg_lt ly_287 (by decide))) (as := [.int (nI 1), .int (nI 9)]) (st := []) rfl rfl (Nat.le_of_ble_eq_true rfl) (Nat.le_refl _) (Nat.le_refl _) (ev_Mo_numbered (lo := 1) (hi := 9 + 1) hle hb256 h21 (rz_m (by decide) (by decide)) ?_)
        intro ν22 hg22 h22
        have ag22 := rz_ag_tr ag21 hg22
        rw [hhh] at h22 ⊢
        show fg_wp _ _ _ _ _ _ _ _ _ (ν22, fg_rho R, 304)
        refine fg_istore (fg_ft (pc := 77) tb_Mo_meetLine 47 rfl) (Nat.le_of_ble_eq_true rfl) ?_
        refine fg_aloadn (fg_ft (pc := 79) tb_Mo_meetLine 48 rfl) rfl ?_
        refine fg_callV (fg_ft (pc := 80) tb_Mo_meetLine 49 rfl) cf_Mo_128 (fg_isOf ly_287 rfl (fg_lt ly_287 (by decide))) (as := []) (st := []) rfl rfl (Nat.le_of_ble_eq_true rfl) (Nat.le_refl _) (Nat.le_refl _) (ev_Mo_factOf hle hb256 h22 ?_)
        intro ν23 hg23 h23
        have ag23 := rz_ag_tr ag22 hg23
        rw [hf] at h23 ⊢
        show fg_wp _ _ _ _ _ _ _ _ _ (ν23, fg_rho R, 304)
        refine fg_istore (fg_ft (pc := 83) tb_Mo_meetLine 50 rfl) (Nat.le_of_ble_eq_true rfl) ?_
        have hCf : f.2.2.2.2.2 = Z.2.2.2.2 := by rw [← hf, rz_fa_C, ← hhh, rz_nu_C, ← hb9, rz_nu_C, rz_dup_C, hCa]
        have hb4 : f.2.2.2.2.2 4 ≤ 700 := by rw [hCf]; exact hcnt 4 (by decide) (by decide)
        refine fg_aloadn (fg_ft (pc := 85) tb_Mo_meetLine 51 rfl) rfl ?_
        refine fg_getR (fg_ft (pc := 86) tb_Mo_meetLine 52 rfl) ff_Mo_17 ly_287 rfl (fg_lt ly_287 (by decide)) (rh_287_10 R) ?_
        refine fg_iconst (fg_ft (pc := 89) tb_Mo_meetLine 53 rfl) ic_4 ?_
        refine fg_ialdV (v := (nI (f.2.2.2.2.2 4))) (fg_ft (pc := 90) tb_Mo_meetLine 54 rfl) ly_290 (fg_lt ly_290 (by decide)) (by omega) (h23.2.2.2.2.2.2.1 4 (by omega)) ?_
        refine fg_bipush (fg_ft (pc := 91) tb_Mo_meetLine 55 rfl) ib_12 ?_
        refine fg_icmp_geN (tgt := 149) (fg_ft (pc := 93) tb_Mo_meetLine 56 rfl) (by decide) (by omega) (by decide) (fun c93 => ?_) (fun c93 => ?_)
        · refine fg_aloadn (fg_ft (pc := 149) tb_Mo_meetLine 92 rfl) rfl ?_
          refine fg_getR (fg_ft (pc := 150) tb_Mo_meetLine 93 rfl) ff_Mo_17 ly_287 rfl (fg_lt ly_287 (by decide)) (rh_287_10 R) ?_
          refine fg_iconst (fg_ft (pc := 153) tb_Mo_meetLine 94 rfl) ic_4 ?_
          refine fg_dup2 (fg_ft (pc := 154) tb_Mo_meetLine 95 rfl) rfl rfl ?_
          refine fg_ialdV (v := (nI (f.2.2.2.2.2 4))) (fg_ft (pc := 155) tb_Mo_meetLine 96 rfl) ly_290 (fg_lt ly_290 (by decide)) (by omega) (h23.2.2.2.2.2.2.1 4 (by omega)) ?_
          refine fg_iconst (fg_ft (pc := 156) tb_Mo_meetLine 97 rfl) ic_1 ?_
          refine fg_iaddN (fg_ft (pc := 157) tb_Mo_meetLine 98 rfl) ?_
          refine fg_iastN (fg_ft (pc := 158) tb_Mo_meetLine 99 rfl) ly_290 (fg_lt ly_290 (by decide)) (by omega) ?_
          show fg_wp _ _ _ _ _ _ _ _ _ (fg_u2 ν23 290 4 (nI ((f.2.2.2.2.2 4) + 1)), fg_rho R, 304)
          exact fg_vret (fg_ft (pc := 159) tb_Mo_meetLine 100 rfl) rfl rfl (hQ _ (fun a j p q r => (fg_u2ne r).trans (ag23 a j p q r)) (by
    unfold rz_pm
    rw [if_neg (by omega)]
    exact (h23).put))
        · refine fg_bipush (fg_ft (pc := 96) tb_Mo_meetLine 57 rfl) ib_79 ?_
          refine fg_iconst (fg_ft (pc := 98) tb_Mo_meetLine 58 rfl) ic_4 ?_
          refine fg_aloadn (fg_ft (pc := 99) tb_Mo_meetLine 59 rfl) rfl ?_
          refine fg_getR (fg_ft (pc := 100) tb_Mo_meetLine 60 rfl) ff_Mo_17 ly_287 rfl (fg_lt ly_287 (by decide)) (rh_287_10 R) ?_
          refine fg_iconst (fg_ft (pc := 103) tb_Mo_meetLine 61 rfl) ic_4 ?_
          refine fg_ialdV (v := (nI (f.2.2.2.2.2 4))) (fg_ft (pc := 104) tb_Mo_meetLine 62 rfl) ly_290 (fg_lt ly_290 (by decide)) (by omega) (h23.2.2.2.2.2.2.1 4 (by omega)) ?_
          refine fg_imulN (fg_ft (pc := 105) tb_Mo_meetLine 63 rfl) ?_
          refine fg_iaddN (fg_ft (pc := 106) tb_Mo_meetLine 64 rfl) ?_
          refine fg_istore (fg_ft (pc := 107) tb_Mo_meetLine 65 rfl) (Nat.le_of_ble_eq_true rfl) ?_
          refine fg_aloadn (fg_ft (pc := 109) tb_Mo_meetLine 66 rfl) rfl ?_
          refine fg_getR (fg_ft (pc := 110) tb_Mo_meetLine 67 rfl) ff_Mo_17 ly_287 rfl (fg_lt ly_287 (by decide)) (rh_287_10 R) ?_
          refine fg_iload (fg_ft (pc := 113) tb_Mo_meetLine 68 rfl) rfl ?_
          refine fg_iloadn (fg_ft (pc := 115) tb_Mo_meetLine 69 rfl) rfl ?_
          refine fg_iastN (fg_ft (pc := 116) tb_Mo_meetLine 70 rfl) ly_290 (fg_lt ly_290 (by decide)) (by omega) ?_
          show fg_wp _ _ _ _ _ _ _ _ _ (fg_u2 ν23 290 (79 + (4 * (f.2.2.2.2.2 4))) (nI (a.1)), fg_rho R, 304)
          refine fg_aloadn (fg_ft (pc := 117) tb_Mo_meetLine 71 rfl) rfl ?_
          refine fg_getR (fg_ft (pc := 118) tb_Mo_meetLine 72 rfl) ff_Mo_17 ly_287 rfl (fg_lt ly_287 (by decide)) (rh_287_10 R) ?_
          refine fg_iload (fg_ft (pc := 121) tb_Mo_meetLine 73 rfl) rfl ?_
          refine fg_iconst (fg_ft (pc := 123) tb_Mo_meetLine 74 rfl) ic_1 ?_
          refine fg_iaddN (fg_ft (pc := 124) tb_Mo_meetLine 75 rfl) ?_
          refine fg_iloadn (fg_ft (pc := 125) tb_Mo_meetLine 76 rfl) rfl ?_
          refine fg_iastN (fg_ft (pc := 126) tb_Mo_meetLine 77 rfl) ly_290 (fg_lt ly_290 (by decide)) (by omega) ?_
          show fg_wp _ _ _ _ _ _ _ _ _ (fg_u2 (fg_u2 ν23 290 (79 + (4 * (f.2.2.2.2.2 4))) (nI (a.1))) 290 ((79 + (4 * (f.2.2.2.2.2 4))) + 1) (nI (b9.1)), fg_rho R, 304)
          refine fg_aloadn (fg_ft (pc := 127) tb_Mo_meetLine 78 rfl) rfl ?_
          refine fg_getR (fg_ft (pc := 128) tb_Mo_meetLine 79 rfl) ff_Mo_17 ly_287 rfl (fg_lt ly_287 (by decide)) (rh_287_10 R) ?_
          refine fg_iload (fg_ft (pc := 131) tb_Mo_meetLine 80 rfl) rfl ?_
          refine fg_iconst (fg_ft (pc := 133) tb_Mo_meetLine 81 rfl) ic_2 ?_
          refine fg_iaddN (fg_ft (pc := 134) tb_Mo_meetLine 82 rfl) ?_
          refine fg_iload (fg_ft (pc := 135) tb_Mo_meetLine 83 rfl) rfl ?_
          refine fg_iastN (fg_ft (pc := 137) tb_Mo_meetLine 84 rfl) ly_290 (fg_lt ly_290 (by decide)) (by omega) ?_
          show fg_wp _ _ _ _ _ _ _ _ _ (fg_u2 (fg_u2 (fg_u2 ν23 290 (79 + (4 * (f.2.2.2.2.2 4))) (nI (a.1))) 290 ((79 + (4 * (f.2.2.2.2.2 4))) + 1) (nI (b9.1))) 290 ((79 + (4 * (f.2.2.2.2.2 4))) + 2) (nI (hh.1)), fg_rho R, 304)
          refine fg_aloadn (fg_ft (pc := 138) tb_Mo_meetLine 85 rfl) rfl ?_
          refine fg_getR (fg_ft (pc := 139) tb_Mo_meetLine 86 rfl) ff_Mo_17 ly_287 rfl (fg_lt ly_287 (by decide)) (rh_287_10 R) ?_
          refine fg_iload (fg_ft (pc := 142) tb_Mo_meetLine 87 rfl) rfl ?_
          refine fg_iconst (fg_ft (pc := 144) tb_Mo_meetLine 88 rfl) ic_3 ?_
          refine fg_iaddN (fg_ft (pc := 145) tb_Mo_meetLine 89 rfl) ?_
          refine fg_iload (fg_ft (pc := 146) tb_Mo_meetLine 90 rfl) rfl ?_
          refine fg_iastN (fg_ft (pc := 148) tb_Mo_meetLine 91 rfl) ly_290 (fg_lt ly_290 (by decide)) (by omega) ?_
          show fg_wp _ _ _ _ _ _ _ _ _ (fg_u2 (fg_u2 (fg_u2 (fg_u2 ν23 290 (79 + (4 * (f.2.2.2.2.2 4))) (nI (a.1))) 290 ((79 + (4 * (f.2.2.2.2.2 4))) + 1) (nI (b9.1))) 290 ((79 + (4 * (f.2.2.2.2.2 4))) + 2) (nI (hh.1))) 290 ((79 + (4 * (f.2.2.2.2.2 4))) + 3) (nI (f.1)), fg_rho R, 304)
          refine fg_aloadn (fg_ft (pc := 149) tb_Mo_meetLine 92 rfl) rfl ?_
          refine fg_getR (fg_ft (pc := 150) tb_Mo_meetLine 93 rfl) ff_Mo_17 ly_287 rfl (fg_lt ly_287 (by decide)) (rh_287_10 R) ?_
          refine fg_iconst (fg_ft (pc := 153) tb_Mo_meetLine 94 rfl) ic_4 ?_
          refine fg_dup2 (fg_ft (pc := 154) tb_Mo_meetLine 95 rfl) rfl rfl ?_
          refine fg_ialdV (v := (nI (f.2.2.2.2.2 4))) (fg_ft (pc := 155) tb_Mo_meetLine 96 rfl) ly_290 (fg_lt ly_290 (by decide)) (by omega) ((fg_u2ns (f := (fg_u2 (fg_u2 (fg_u2 ν23 290 (79 + (4 * (f.2.2.2.2.2 4))) (nI (a.1))) 290 ((79 + (4 * (f.2.2.2.2.2 4))) + 1) (nI (b9.1))) 290 ((79 + (4 * (f.2.2.2.2.2 4))) + 2) (nI (hh.1)))) (a := 290) (k := ((79 + (4 * (f.2.2.2.2.2 4))) + 3)) (b := 290) (j := 4) (x := (nI (f.1))) (by omega)).trans ((fg_u2ns (f := (fg_u2 (fg_u2 ν23 290 (79 + (4 * (f.2.2.2.2.2 4))) (nI (a.1))) 290 ((79 + (4 * (f.2.2.2.2.2 4))) + 1) (nI (b9.1)))) (a := 290) (k := ((79 + (4 * (f.2.2.2.2.2 4))) + 2)) (b := 290) (j := 4) (x := (nI (hh.1))) (by omega)).trans ((fg_u2ns (f := (fg_u2 ν23 290 (79 + (4 * (f.2.2.2.2.2 4))) (nI (a.1)))) (a := 290) (k := ((79 + (4 * (f.2.2.2.2.2 4))) + 1)) (b := 290) (j := 4) (x := (nI (b9.1))) (by omega)).trans ((fg_u2ns (f := ν23) (a := 290) (k := (79 + (4 * (f.2.2.2.2.2 4)))) (b := 290) (j := 4) (x := (nI (a.1))) (by omega)).trans (h23.2.2.2.2.2.2.1 4 (by omega)))))) ?_
          refine fg_iconst (fg_ft (pc := 156) tb_Mo_meetLine 97 rfl) ic_1 ?_
          refine fg_iaddN (fg_ft (pc := 157) tb_Mo_meetLine 98 rfl) ?_
          refine fg_iastN (fg_ft (pc := 158) tb_Mo_meetLine 99 rfl) ly_290 (fg_lt ly_290 (by decide)) (by omega) ?_
          show fg_wp _ _ _ _ _ _ _ _ _ (fg_u2 (fg_u2 (fg_u2 (fg_u2 (fg_u2 ν23 290 (79 + (4 * (f.2.2.2.2.2 4))) (nI (a.1))) 290 ((79 + (4 * (f.2.2.2.2.2 4))) + 1) (nI (b9.1))) 290 ((79 + (4 * (f.2.2.2.2.2 4))) + 2) (nI (hh.1))) 290 ((79 + (4 * (f.2.2.2.2.2 4))) + 3) (nI (f.1))) 290 4 (nI ((f.2.2.2.2.2 4) + 1)), fg_rho R, 304)
          exact fg_vret (fg_ft (pc := 159) tb_Mo_meetLine 100 rfl) rfl rfl (hQ _ (fun a j p q r => (fg_u2ne r).trans ((fg_u2ne r).trans ((fg_u2ne r).trans ((fg_u2ne r).trans ((fg_u2ne r).trans (ag23 a j p q r)))))) (by
    unfold rz_pm
    rw [if_pos (by omega)]
    exact (((((h23).put).put).put).put).put))
theorem ev_Mo_meetLine {E : fg_E} {d : Nat} {μ : Nat → Nat → Int32} {R : fg_T4} {Q : Option Value → fg_M → Prop} {b : Nat → Nat} {len : Nat} {Z : rz_Z} (hle : len ≤ 600) (hb256 : ∀ j, b j < 256) (h : rz_RZ μ b len Z) {at9 : Nat} (hat : at9 ≤ 600) (hcnt : ∀ k, 1 ≤ k → k ≤ 6 → Z.2.2.2.2 k ≤ 700) (hQ : ∀ μ' : Nat → Nat → Int32, rz_ag μ μ' → rz_RZ μ' b len (rz_mt (pz_K b len) (pz_V b len) (pz_S b len) at9 Z) → Q none (μ', fg_rho R, 304)) : fg_Ev E yy_Mo_meetLine (d + 7) [.ref 287, .int (nI at9)] (μ, fg_rho R, 304) 304 Q := ev_Mo_meetLineX hle hb256 h hat hcnt rfl rfl rfl rfl hQ
