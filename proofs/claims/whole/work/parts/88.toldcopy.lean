/-! what is told, copied -/
def fg_KC (μ : Nat → Nat → Int32) (o : Nat) (μ' : Nat → Nat → Int32) (b : Nat) : Prop := (∀ j, 1 ≤ j → j ≤ 5 → μ' b j = μ o j) ∧ (∀ j, j < 600 → μ' (b + 1) j = μ (o + 1) j) ∧ (∀ i, i < 2 → fg_TC μ (o + 3 + 14 * i) μ' (b + 3 + 14 * i) ∧ (fg_wdT μ (b + 3 + 14 * i) → fg_wdT μ' (b + 3 + 14 * i))) ∧ (∀ i, i < 3 → μ' (b + 32 + 2 * i) 0 = μ (b + 32 + 2 * i) 0 ∧ μ' (b + 32 + 2 * i) 2 = μ (o + 32 + 2 * i) 2 ∧ ∀ j, j < 120 → μ' (b + 33 + 2 * i) j = μ (o + 33 + 2 * i) j) ∧ ∀ a, (a < b ∨ b + 38 ≤ a) → ∀ j, μ' a j = μ a j
theorem fg_TC.fr {μ0 μ μ' μ'' : Nat → Nat → Int32} {t t2 : Nat} (h : fg_TC μ t2 μ' t) (h0 : ∀ a, t2 ≤ a → a < t2 + 14 → ∀ j, μ a j = μ0 a j) (h1 : ∀ a, t ≤ a → a < t + 14 → ∀ j, μ'' a j = μ' a j) : fg_TC μ0 t2 μ'' t := by
  obtain ⟨⟨g0, g1⟩, ⟨a1, b1⟩, ⟨a2, b2⟩, ⟨a3, b3⟩, ⟨a4, b4⟩, ⟨a5, b5⟩, ⟨a6, b6⟩, g7⟩ := h
  have e : ∀ {k j k2 j2 : Nat}, k < 14 → k2 < 14 → μ' (t + k) j = μ (t2 + k2) j2 → μ'' (t + k) j = μ0 (t2 + k2) j2 := fun hk hk2 hh => ((h1 _ (by omega) (by omega) _).trans hh).trans (h0 _ (by omega) (by omega) _)
  exact ⟨⟨e (k := 0) (k2 := 0) (by decide) (by decide) g0, e (k := 0) (k2 := 0) (by decide) (by decide) g1⟩, ⟨e (by decide) (by decide) a1, fun j hj => e (by decide) (by decide) (b1 j hj)⟩, ⟨e (by decide) (by decide) a2, fun j hj => e (by decide) (by decide) (b2 j hj)⟩, ⟨e (by decide) (by decide) a3, fun j hj => e (by decide) (by decide) (b3 j hj)⟩, ⟨e (by decide) (by decide) a4, fun j hj => e (by decide) (by decide) (b4 j hj)⟩, ⟨e (by decide) (by decide) a5, fun j hj => e (by decide) (by decide) (b5 j hj)⟩, ⟨e (by decide) (by decide) a6, fun j hj => e (by decide) (by decide) (b6 j hj)⟩, fun j hj => e (by decide) (by decide) (g7 j hj)⟩
theorem fg_wdT.fr {μ' μ'' : Nat → Nat → Int32} {t : Nat} (h : fg_wdT μ' t) (h1 : ∀ a, t ≤ a → a < t + 14 → ∀ j, μ'' a j = μ' a j) : fg_wdT μ'' t := by
  obtain ⟨w1, w2, w3, w4, w5, w6⟩ := h
  have e : ∀ {k j : Nat} {x : Int32}, k < 14 → μ' (t + k) j = x → μ'' (t + k) j = x := fun hk hh => (h1 _ (by omega) (by omega) _).trans hh
  exact ⟨e (by decide) w1, e (by decide) w2, e (by decide) w3, e (by decide) w4, e (by decide) w5, e (by decide) w6⟩
theorem ev_Told_copy_101_140 {E : fg_E} {d : Nat} {μ : Nat → Nat → Int32} {R : fg_T4} {Q : Option Value → fg_M → Prop} (hfit : ∀ i, i < 600 → fits (fg_aty (11 - 10)) (.int (μ 141 i)) = true) (hQ : ∀ μ' : Nat → Nat → Int32, fg_KC μ 140 μ' 101 → Q none (μ', fg_rho R, 304)) : fg_Ev E yy_Told_copyFrom (d + 3) [.ref 101, .ref 140] (μ, fg_rho R, 304) 304 Q := by
  refine fg_intro (by decide +kernel) (Nat.le_of_ble_eq_true rfl) (fg_okAs rfl) (Nat.le_refl _) ?_
  refine fg_aloadn (fg_ft (pc := 0) tb_Told_copyFrom 0 rfl) rfl ?_
  refine fg_getR (fg_ft (pc := 1) tb_Told_copyFrom 1 rfl) ff_Told_9 ly_140 rfl (fg_lt ly_140 (by decide)) (rh_140_0 R) ?_
  refine fg_iconst (fg_ft (pc := 4) tb_Told_copyFrom 2 rfl) ic_0 ?_
  refine fg_aloadn (fg_ft (pc := 5) tb_Told_copyFrom 3 rfl) rfl ?_
  refine fg_getR (fg_ft (pc := 6) tb_Told_copyFrom 4 rfl) ff_Told_9 ly_101 rfl (fg_lt ly_101 (by decide)) (rh_101_0 R) ?_
  refine fg_iconst (fg_ft (pc := 9) tb_Told_copyFrom 5 rfl) ic_0 ?_
  refine fg_sipush (fg_ft (pc := 10) tb_Told_copyFrom 6 rfl) is_600 ?_
  refine fg_copy (fg_ft (pc := 13) tb_Told_copyFrom 7 rfl) fy_Told_57 fy_native fy_static fy_init (Or.inr rfl) ly_141 ly_102 (fg_lt ly_141 (by decide)) (fg_lt ly_102 (by decide)) rfl rfl rfl (by omega) (by omega) (hfit) (Nat.le_of_ble_eq_true rfl) ?_
  show fg_wp _ _ _ _ _ _ _ _ _ (fg_cp1 μ 141 102 600, fg_rho R, 304)
  refine fg_aloadn (fg_ft (pc := 16) tb_Told_copyFrom 8 rfl) rfl ?_
  refine fg_aloadn (fg_ft (pc := 17) tb_Told_copyFrom 9 rfl) rfl ?_
  refine fg_getI (fg_ft (pc := 18) tb_Told_copyFrom 10 rfl) ff_Told_35 ly_140 rfl (fg_lt ly_140 (by decide)) ?_
  refine fg_putI (fg_ft (pc := 21) tb_Told_copyFrom 11 rfl) ff_Told_35 ly_101 rfl (fg_lt ly_101 (by decide)) (fg_nokI _) (fun _ _ h => by cases h; rfl) ?_
  show fg_wp _ _ _ _ _ _ _ _ _ (fg_u2 (fg_cp1 μ 141 102 600) 101 1 ((fg_cp1 μ 141 102 600) 140 1), fg_rho R, 304)
  refine fg_aloadn (fg_ft (pc := 24) tb_Told_copyFrom 12 rfl) rfl ?_
  refine fg_aloadn (fg_ft (pc := 25) tb_Told_copyFrom 13 rfl) rfl ?_
  refine fg_getI (fg_ft (pc := 26) tb_Told_copyFrom 14 rfl) ff_Told_63 ly_140 rfl (fg_lt ly_140 (by decide)) ?_
  refine fg_putI (fg_ft (pc := 29) tb_Told_copyFrom 15 rfl) ff_Told_63 ly_101 rfl (fg_lt ly_101 (by decide)) (fg_nokI _) (fun _ _ h => by cases h; rfl) ?_
  show fg_wp _ _ _ _ _ _ _ _ _ (fg_u2 (fg_u2 (fg_cp1 μ 141 102 600) 101 1 ((fg_cp1 μ 141 102 600) 140 1)) 101 2 ((fg_u2 (fg_cp1 μ 141 102 600) 101 1 ((fg_cp1 μ 141 102 600) 140 1)) 140 2), fg_rho R, 304)
  refine fg_aloadn (fg_ft (pc := 32) tb_Told_copyFrom 16 rfl) rfl ?_
  refine fg_aloadn (fg_ft (pc := 33) tb_Told_copyFrom 17 rfl) rfl ?_
  refine fg_getI (fg_ft (pc := 34) tb_Told_copyFrom 18 rfl) ff_Told_15 ly_140 rfl (fg_lt ly_140 (by decide)) ?_
  refine fg_putI (fg_ft (pc := 37) tb_Told_copyFrom 19 rfl) ff_Told_15 ly_101 rfl (fg_lt ly_101 (by decide)) (fg_nokI _) (fun _ _ h => by cases h; rfl) ?_
  show fg_wp _ _ _ _ _ _ _ _ _ (fg_u2 (fg_u2 (fg_u2 (fg_cp1 μ 141 102 600) 101 1 ((fg_cp1 μ 141 102 600) 140 1)) 101 2 ((fg_u2 (fg_cp1 μ 141 102 600) 101 1 ((fg_cp1 μ 141 102 600) 140 1)) 140 2)) 101 3 ((fg_u2 (fg_u2 (fg_cp1 μ 141 102 600) 101 1 ((fg_cp1 μ 141 102 600) 140 1)) 101 2 ((fg_u2 (fg_cp1 μ 141 102 600) 101 1 ((fg_cp1 μ 141 102 600) 140 1)) 140 2)) 140 3), fg_rho R, 304)
  obtain ⟨m0, hm0⟩ : ∃ m0, m0 = fg_u2 (fg_u2 (fg_u2 (fg_cp1 μ 141 102 600) 101 1 ((fg_cp1 μ 141 102 600) 140 1)) 101 2 ((fg_u2 (fg_cp1 μ 141 102 600) 101 1 ((fg_cp1 μ 141 102 600) 140 1)) 140 2)) 101 3 ((fg_u2 (fg_u2 (fg_cp1 μ 141 102 600) 101 1 ((fg_cp1 μ 141 102 600) 140 1)) 101 2 ((fg_u2 (fg_cp1 μ 141 102 600) 101 1 ((fg_cp1 μ 141 102 600) 140 1)) 140 2)) 140 3) := ⟨_, rfl⟩
  rw [← hm0]
  have e0 : ∀ a, a ≠ 101 → a ≠ 102 → ∀ j, m0 a j = μ a j := fun a a1 a2 j => by rw [hm0]; exact (fg_u2ne a1).trans ((fg_u2ne a1).trans ((fg_u2ne a1).trans (fg_cp1_ne a2)))
  have e1 : ∀ j, j < 600 → m0 102 j = μ 141 j := fun j hj => by rw [hm0]; exact (fg_u2ne (by decide)).trans ((fg_u2ne (by decide)).trans ((fg_u2ne (by decide)).trans (fg_cp1_lt hj)))
  have s1 : m0 101 1 = μ 140 1 := by rw [hm0]; exact (fg_u2ns (by decide)).trans ((fg_u2ns (by decide)).trans (fg_u2eq.trans (fg_cp1_ne (by decide))))
  have s2 : m0 101 2 = μ 140 2 := by rw [hm0]; exact (fg_u2ns (by decide)).trans (fg_u2eq.trans ((fg_u2ne (by decide)).trans (fg_cp1_ne (by decide))))
  have s3 : m0 101 3 = μ 140 3 := by rw [hm0]; exact fg_u2eq.trans ((fg_u2ne (by decide)).trans ((fg_u2ne (by decide)).trans (fg_cp1_ne (by decide))))
  refine fg_iconst (fg_ft (pc := 40) tb_Told_copyFrom 20 rfl) ic_0 ?_
  refine fg_istoren (fg_ft (pc := 41) tb_Told_copyFrom 21 rfl) (Nat.le_of_ble_eq_true rfl) ?_
  refine fg_iloadn (fg_ft (pc := 42) tb_Told_copyFrom 22 rfl) rfl ?_
  refine fg_aloadn (fg_ft (pc := 43) tb_Told_copyFrom 23 rfl) rfl ?_
  refine fg_getR (fg_ft (pc := 44) tb_Told_copyFrom 24 rfl) ff_Told_21 ly_101 rfl (fg_lt ly_101 (by decide)) (rh_101_6 R) ?_
  refine fg_alen (fg_ft (pc := 47) tb_Told_copyFrom 25 rfl) ly_103 (by decide) (fg_lt ly_103 (by decide)) ?_
  refine fg_icmp_geN (tgt := 99) (fg_ft (pc := 48) tb_Told_copyFrom 26 rfl) (by decide) (by decide) (by decide) (fun c48 => (absurd c48 (by decide))) (fun c48 => ?_)
  refine fg_iloadn (fg_ft (pc := 51) tb_Told_copyFrom 27 rfl) rfl ?_
  refine fg_aloadn (fg_ft (pc := 52) tb_Told_copyFrom 28 rfl) rfl ?_
  refine fg_getR (fg_ft (pc := 53) tb_Told_copyFrom 29 rfl) ff_Told_21 ly_140 rfl (fg_lt ly_140 (by decide)) (rh_140_6 R) ?_
  refine fg_alen (fg_ft (pc := 56) tb_Told_copyFrom 30 rfl) ly_142 (by decide) (fg_lt ly_142 (by decide)) ?_
  refine fg_icmp_geN (tgt := 99) (fg_ft (pc := 57) tb_Told_copyFrom 31 rfl) (by decide) (by decide) (by decide) (fun c57 => (absurd c57 (by decide))) (fun c57 => ?_)
  refine fg_aloadn (fg_ft (pc := 60) tb_Told_copyFrom 32 rfl) rfl ?_
  refine fg_getR (fg_ft (pc := 61) tb_Told_copyFrom 33 rfl) ff_Told_21 ly_101 rfl (fg_lt ly_101 (by decide)) (rh_101_6 R) ?_
  refine fg_iloadn (fg_ft (pc := 64) tb_Told_copyFrom 34 rfl) rfl ?_
  refine fg_aaldN (fg_ft (pc := 65) tb_Told_copyFrom 35 rfl) ly_103 (by decide) (fg_lt ly_103 (by decide)) (by omega) (rh_103_0 R) ?_
  refine fg_ifnull_r (fg_ft (pc := 66) tb_Told_copyFrom 36 rfl) ?_
  refine fg_aloadn (fg_ft (pc := 69) tb_Told_copyFrom 37 rfl) rfl ?_
  refine fg_getR (fg_ft (pc := 70) tb_Told_copyFrom 38 rfl) ff_Told_21 ly_140 rfl (fg_lt ly_140 (by decide)) (rh_140_6 R) ?_
  refine fg_iloadn (fg_ft (pc := 73) tb_Told_copyFrom 39 rfl) rfl ?_
  refine fg_aaldN (fg_ft (pc := 74) tb_Told_copyFrom 40 rfl) ly_142 (by decide) (fg_lt ly_142 (by decide)) (by omega) (rh_142_0 R) ?_
  refine fg_ifnull_r (fg_ft (pc := 75) tb_Told_copyFrom 41 rfl) ?_
  refine fg_aloadn (fg_ft (pc := 78) tb_Told_copyFrom 42 rfl) rfl ?_
  refine fg_getR (fg_ft (pc := 79) tb_Told_copyFrom 43 rfl) ff_Told_21 ly_101 rfl (fg_lt ly_101 (by decide)) (rh_101_6 R) ?_
  refine fg_iloadn (fg_ft (pc := 82) tb_Told_copyFrom 44 rfl) rfl ?_
  refine fg_aaldN (fg_ft (pc := 83) tb_Told_copyFrom 45 rfl) ly_103 (by decide) (fg_lt ly_103 (by decide)) (by omega) (rh_103_0 R) ?_
  refine fg_aloadn (fg_ft (pc := 84) tb_Told_copyFrom 46 rfl) rfl ?_
  refine fg_getR (fg_ft (pc := 85) tb_Told_copyFrom 47 rfl) ff_Told_21 ly_140 rfl (fg_lt ly_140 (by decide)) (rh_140_6 R) ?_
  refine fg_iloadn (fg_ft (pc := 88) tb_Told_copyFrom 48 rfl) rfl ?_
  refine fg_aaldN (fg_ft (pc := 89) tb_Told_copyFrom 49 rfl) ly_142 (by decide) (fg_lt ly_142 (by decide)) (by omega) (rh_142_0 R) ?_
  refine fg_callV (fg_ft (pc := 90) tb_Told_copyFrom 50 rfl) cf_Told_44 (fg_isOf ly_104 rfl (fg_lt ly_104 (by decide))) (as := [.ref 143]) (st := []) rfl rfl (Nat.le_of_ble_eq_true rfl) (Nat.le_refl _) (Nat.le_refl _) (ev_Town_copyFrom (t := 104) (t2 := 143) (by unfold fg_isT; decide) (by unfold fg_isT; decide) (by decide) ?_)
  intro μ0 ag0 tc0 wd0
  show fg_wp _ _ _ _ _ _ _ _ _ (μ0, fg_rho R, 304)
  refine fg_iincN (fg_ft (pc := 93) tb_Told_copyFrom 51 rfl) rfl ic_1 rfl ?_
  refine fg_goto (tgt := 42) (fg_ft (pc := 96) tb_Told_copyFrom 52 rfl) (by decide) ?_
  refine fg_iloadn (fg_ft (pc := 42) tb_Told_copyFrom 22 rfl) rfl ?_
  refine fg_aloadn (fg_ft (pc := 43) tb_Told_copyFrom 23 rfl) rfl ?_
  refine fg_getR (fg_ft (pc := 44) tb_Told_copyFrom 24 rfl) ff_Told_21 ly_101 rfl (fg_lt ly_101 (by decide)) (rh_101_6 R) ?_
  refine fg_alen (fg_ft (pc := 47) tb_Told_copyFrom 25 rfl) ly_103 (by decide) (fg_lt ly_103 (by decide)) ?_
  refine fg_icmp_geN (tgt := 99) (fg_ft (pc := 48) tb_Told_copyFrom 26 rfl) (by decide) (by decide) (by decide) (fun c48 => (absurd c48 (by decide))) (fun c48 => ?_)
  refine fg_iloadn (fg_ft (pc := 51) tb_Told_copyFrom 27 rfl) rfl ?_
  refine fg_aloadn (fg_ft (pc := 52) tb_Told_copyFrom 28 rfl) rfl ?_
  refine fg_getR (fg_ft (pc := 53) tb_Told_copyFrom 29 rfl) ff_Told_21 ly_140 rfl (fg_lt ly_140 (by decide)) (rh_140_6 R) ?_
  refine fg_alen (fg_ft (pc := 56) tb_Told_copyFrom 30 rfl) ly_142 (by decide) (fg_lt ly_142 (by decide)) ?_
  refine fg_icmp_geN (tgt := 99) (fg_ft (pc := 57) tb_Told_copyFrom 31 rfl) (by decide) (by decide) (by decide) (fun c57 => (absurd c57 (by decide))) (fun c57 => ?_)
  refine fg_aloadn (fg_ft (pc := 60) tb_Told_copyFrom 32 rfl) rfl ?_
  refine fg_getR (fg_ft (pc := 61) tb_Told_copyFrom 33 rfl) ff_Told_21 ly_101 rfl (fg_lt ly_101 (by decide)) (rh_101_6 R) ?_
  refine fg_iloadn (fg_ft (pc := 64) tb_Told_copyFrom 34 rfl) rfl ?_
  refine fg_aaldN (fg_ft (pc := 65) tb_Told_copyFrom 35 rfl) ly_103 (by decide) (fg_lt ly_103 (by decide)) (by omega) (rh_103_1 R) ?_
  refine fg_ifnull_r (fg_ft (pc := 66) tb_Told_copyFrom 36 rfl) ?_
  refine fg_aloadn (fg_ft (pc := 69) tb_Told_copyFrom 37 rfl) rfl ?_
  refine fg_getR (fg_ft (pc := 70) tb_Told_copyFrom 38 rfl) ff_Told_21 ly_140 rfl (fg_lt ly_140 (by decide)) (rh_140_6 R) ?_
  refine fg_iloadn (fg_ft (pc := 73) tb_Told_copyFrom 39 rfl) rfl ?_
  refine fg_aaldN (fg_ft (pc := 74) tb_Told_copyFrom 40 rfl) ly_142 (by decide) (fg_lt ly_142 (by decide)) (by omega) (rh_142_1 R) ?_
  refine fg_ifnull_r (fg_ft (pc := 75) tb_Told_copyFrom 41 rfl) ?_
  refine fg_aloadn (fg_ft (pc := 78) tb_Told_copyFrom 42 rfl) rfl ?_
  refine fg_getR (fg_ft (pc := 79) tb_Told_copyFrom 43 rfl) ff_Told_21 ly_101 rfl (fg_lt ly_101 (by decide)) (rh_101_6 R) ?_
  refine fg_iloadn (fg_ft (pc := 82) tb_Told_copyFrom 44 rfl) rfl ?_
  refine fg_aaldN (fg_ft (pc := 83) tb_Told_copyFrom 45 rfl) ly_103 (by decide) (fg_lt ly_103 (by decide)) (by omega) (rh_103_1 R) ?_
  refine fg_aloadn (fg_ft (pc := 84) tb_Told_copyFrom 46 rfl) rfl ?_
  refine fg_getR (fg_ft (pc := 85) tb_Told_copyFrom 47 rfl) ff_Told_21 ly_140 rfl (fg_lt ly_140 (by decide)) (rh_140_6 R) ?_
  refine fg_iloadn (fg_ft (pc := 88) tb_Told_copyFrom 48 rfl) rfl ?_
  refine fg_aaldN (fg_ft (pc := 89) tb_Told_copyFrom 49 rfl) ly_142 (by decide) (fg_lt ly_142 (by decide)) (by omega) (rh_142_1 R) ?_
  refine fg_callV (fg_ft (pc := 90) tb_Told_copyFrom 50 rfl) cf_Told_44 (fg_isOf ly_118 rfl (fg_lt ly_118 (by decide))) (as := [.ref 157]) (st := []) rfl rfl (Nat.le_of_ble_eq_true rfl) (Nat.le_refl _) (Nat.le_refl _) (ev_Town_copyFrom (t := 118) (t2 := 157) (by unfold fg_isT; decide) (by unfold fg_isT; decide) (by decide) ?_)
  intro μ1 ag1 tc1 wd1
  show fg_wp _ _ _ _ _ _ _ _ _ (μ1, fg_rho R, 304)
  refine fg_iincN (fg_ft (pc := 93) tb_Told_copyFrom 51 rfl) rfl ic_1 rfl ?_
  refine fg_goto (tgt := 42) (fg_ft (pc := 96) tb_Told_copyFrom 52 rfl) (by decide) ?_
  refine fg_iloadn (fg_ft (pc := 42) tb_Told_copyFrom 22 rfl) rfl ?_
  refine fg_aloadn (fg_ft (pc := 43) tb_Told_copyFrom 23 rfl) rfl ?_
  refine fg_getR (fg_ft (pc := 44) tb_Told_copyFrom 24 rfl) ff_Told_21 ly_101 rfl (fg_lt ly_101 (by decide)) (rh_101_6 R) ?_
  refine fg_alen (fg_ft (pc := 47) tb_Told_copyFrom 25 rfl) ly_103 (by decide) (fg_lt ly_103 (by decide)) ?_
  refine fg_icmp_geN (tgt := 99) (fg_ft (pc := 48) tb_Told_copyFrom 26 rfl) (by decide) (by decide) (by decide) (fun c48 => ?_) (fun c48 => (absurd c48 (by decide)))
  refine fg_iconst (fg_ft (pc := 99) tb_Told_copyFrom 53 rfl) ic_0 ?_
  refine fg_istoren (fg_ft (pc := 100) tb_Told_copyFrom 54 rfl) (Nat.le_of_ble_eq_true rfl) ?_
  refine fg_iloadn (fg_ft (pc := 101) tb_Told_copyFrom 55 rfl) rfl ?_
  refine fg_aloadn (fg_ft (pc := 102) tb_Told_copyFrom 56 rfl) rfl ?_
  refine fg_getR (fg_ft (pc := 103) tb_Told_copyFrom 57 rfl) ff_Told_28 ly_101 rfl (fg_lt ly_101 (by decide)) (rh_101_7 R) ?_
  refine fg_alen (fg_ft (pc := 106) tb_Told_copyFrom 58 rfl) ly_132 (by decide) (fg_lt ly_132 (by decide)) ?_
  refine fg_icmp_geN (tgt := 158) (fg_ft (pc := 107) tb_Told_copyFrom 59 rfl) (by decide) (by decide) (by decide) (fun c107 => (absurd c107 (by decide))) (fun c107 => ?_)
  refine fg_iloadn (fg_ft (pc := 110) tb_Told_copyFrom 60 rfl) rfl ?_
  refine fg_aloadn (fg_ft (pc := 111) tb_Told_copyFrom 61 rfl) rfl ?_
  refine fg_getR (fg_ft (pc := 112) tb_Told_copyFrom 62 rfl) ff_Told_28 ly_140 rfl (fg_lt ly_140 (by decide)) (rh_140_7 R) ?_
  refine fg_alen (fg_ft (pc := 115) tb_Told_copyFrom 63 rfl) ly_171 (by decide) (fg_lt ly_171 (by decide)) ?_
  refine fg_icmp_geN (tgt := 158) (fg_ft (pc := 116) tb_Told_copyFrom 64 rfl) (by decide) (by decide) (by decide) (fun c116 => (absurd c116 (by decide))) (fun c116 => ?_)
  refine fg_aloadn (fg_ft (pc := 119) tb_Told_copyFrom 65 rfl) rfl ?_
  refine fg_getR (fg_ft (pc := 120) tb_Told_copyFrom 66 rfl) ff_Told_28 ly_101 rfl (fg_lt ly_101 (by decide)) (rh_101_7 R) ?_
  refine fg_iloadn (fg_ft (pc := 123) tb_Told_copyFrom 67 rfl) rfl ?_
  refine fg_aaldN (fg_ft (pc := 124) tb_Told_copyFrom 68 rfl) ly_132 (by decide) (fg_lt ly_132 (by decide)) (by omega) (rh_132_0 R) ?_
  refine fg_ifnull_r (fg_ft (pc := 125) tb_Told_copyFrom 69 rfl) ?_
  refine fg_aloadn (fg_ft (pc := 128) tb_Told_copyFrom 70 rfl) rfl ?_
  refine fg_getR (fg_ft (pc := 129) tb_Told_copyFrom 71 rfl) ff_Told_28 ly_140 rfl (fg_lt ly_140 (by decide)) (rh_140_7 R) ?_
  refine fg_iloadn (fg_ft (pc := 132) tb_Told_copyFrom 72 rfl) rfl ?_
  refine fg_aaldN (fg_ft (pc := 133) tb_Told_copyFrom 73 rfl) ly_171 (by decide) (fg_lt ly_171 (by decide)) (by omega) (rh_171_0 R) ?_
  refine fg_ifnull_r (fg_ft (pc := 134) tb_Told_copyFrom 74 rfl) ?_
  refine fg_aloadn (fg_ft (pc := 137) tb_Told_copyFrom 75 rfl) rfl ?_
  refine fg_getR (fg_ft (pc := 138) tb_Told_copyFrom 76 rfl) ff_Told_28 ly_101 rfl (fg_lt ly_101 (by decide)) (rh_101_7 R) ?_
  refine fg_iloadn (fg_ft (pc := 141) tb_Told_copyFrom 77 rfl) rfl ?_
  refine fg_aaldN (fg_ft (pc := 142) tb_Told_copyFrom 78 rfl) ly_132 (by decide) (fg_lt ly_132 (by decide)) (by omega) (rh_132_0 R) ?_
  refine fg_aloadn (fg_ft (pc := 143) tb_Told_copyFrom 79 rfl) rfl ?_
  refine fg_getR (fg_ft (pc := 144) tb_Told_copyFrom 80 rfl) ff_Told_28 ly_140 rfl (fg_lt ly_140 (by decide)) (rh_140_7 R) ?_
  refine fg_iloadn (fg_ft (pc := 147) tb_Told_copyFrom 81 rfl) rfl ?_
  refine fg_aaldN (fg_ft (pc := 148) tb_Told_copyFrom 82 rfl) ly_171 (by decide) (fg_lt ly_171 (by decide)) (by omega) (rh_171_0 R) ?_
  refine fg_callV (fg_ft (pc := 149) tb_Told_copyFrom 83 rfl) cf_Told_54 (fg_isOf ly_133 rfl (fg_lt ly_133 (by decide))) (as := [.ref 172]) (st := []) rfl rfl (Nat.le_of_ble_eq_true rfl) (Nat.le_refl _) (Nat.le_refl _) (ev_Rows_copyFromA (r := 133) (c := 134) (n := 120) (o := 172) (co := 173) ⟨ly_133, rfl, ly_134⟩ ⟨ly_172, rfl, ly_173⟩ (by decide) (by decide) ?_)
  intro ν0 ah0 rd0
  show fg_wp _ _ _ _ _ _ _ _ _ (ν0, fg_rho R, 304)
  refine fg_iincN (fg_ft (pc := 152) tb_Told_copyFrom 84 rfl) rfl ic_1 rfl ?_
  refine fg_goto (tgt := 101) (fg_ft (pc := 155) tb_Told_copyFrom 85 rfl) (by decide) ?_
  refine fg_iloadn (fg_ft (pc := 101) tb_Told_copyFrom 55 rfl) rfl ?_
  refine fg_aloadn (fg_ft (pc := 102) tb_Told_copyFrom 56 rfl) rfl ?_
  refine fg_getR (fg_ft (pc := 103) tb_Told_copyFrom 57 rfl) ff_Told_28 ly_101 rfl (fg_lt ly_101 (by decide)) (rh_101_7 R) ?_
  refine fg_alen (fg_ft (pc := 106) tb_Told_copyFrom 58 rfl) ly_132 (by decide) (fg_lt ly_132 (by decide)) ?_
  refine fg_icmp_geN (tgt := 158) (fg_ft (pc := 107) tb_Told_copyFrom 59 rfl) (by decide) (by decide) (by decide) (fun c107 => (absurd c107 (by decide))) (fun c107 => ?_)
  refine fg_iloadn (fg_ft (pc := 110) tb_Told_copyFrom 60 rfl) rfl ?_
  refine fg_aloadn (fg_ft (pc := 111) tb_Told_copyFrom 61 rfl) rfl ?_
  refine fg_getR (fg_ft (pc := 112) tb_Told_copyFrom 62 rfl) ff_Told_28 ly_140 rfl (fg_lt ly_140 (by decide)) (rh_140_7 R) ?_
  refine fg_alen (fg_ft (pc := 115) tb_Told_copyFrom 63 rfl) ly_171 (by decide) (fg_lt ly_171 (by decide)) ?_
  refine fg_icmp_geN (tgt := 158) (fg_ft (pc := 116) tb_Told_copyFrom 64 rfl) (by decide) (by decide) (by decide) (fun c116 => (absurd c116 (by decide))) (fun c116 => ?_)
  refine fg_aloadn (fg_ft (pc := 119) tb_Told_copyFrom 65 rfl) rfl ?_
  refine fg_getR (fg_ft (pc := 120) tb_Told_copyFrom 66 rfl) ff_Told_28 ly_101 rfl (fg_lt ly_101 (by decide)) (rh_101_7 R) ?_
  refine fg_iloadn (fg_ft (pc := 123) tb_Told_copyFrom 67 rfl) rfl ?_
  refine fg_aaldN (fg_ft (pc := 124) tb_Told_copyFrom 68 rfl) ly_132 (by decide) (fg_lt ly_132 (by decide)) (by omega) (rh_132_1 R) ?_
  refine fg_ifnull_r (fg_ft (pc := 125) tb_Told_copyFrom 69 rfl) ?_
  refine fg_aloadn (fg_ft (pc := 128) tb_Told_copyFrom 70 rfl) rfl ?_
  refine fg_getR (fg_ft (pc := 129) tb_Told_copyFrom 71 rfl) ff_Told_28 ly_140 rfl (fg_lt ly_140 (by decide)) (rh_140_7 R) ?_
  refine fg_iloadn (fg_ft (pc := 132) tb_Told_copyFrom 72 rfl) rfl ?_
  refine fg_aaldN (fg_ft (pc := 133) tb_Told_copyFrom 73 rfl) ly_171 (by decide) (fg_lt ly_171 (by decide)) (by omega) (rh_171_1 R) ?_
  refine fg_ifnull_r (fg_ft (pc := 134) tb_Told_copyFrom 74 rfl) ?_
  refine fg_aloadn (fg_ft (pc := 137) tb_Told_copyFrom 75 rfl) rfl ?_
  refine fg_getR (fg_ft (pc := 138) tb_Told_copyFrom 76 rfl) ff_Told_28 ly_101 rfl (fg_lt ly_101 (by decide)) (rh_101_7 R) ?_
  refine fg_iloadn (fg_ft (pc := 141) tb_Told_copyFrom 77 rfl) rfl ?_
  refine fg_aaldN (fg_ft (pc := 142) tb_Told_copyFrom 78 rfl) ly_132 (by decide) (fg_lt ly_132 (by decide)) (by omega) (rh_132_1 R) ?_
  refine fg_aloadn (fg_ft (pc := 143) tb_Told_copyFrom 79 rfl) rfl ?_
  refine fg_getR (fg_ft (pc := 144) tb_Told_copyFrom 80 rfl) ff_Told_28 ly_140 rfl (fg_lt ly_140 (by decide)) (rh_140_7 R) ?_
  refine fg_iloadn (fg_ft (pc := 147) tb_Told_copyFrom 81 rfl) rfl ?_
  refine fg_aaldN (fg_ft (pc := 148) tb_Told_copyFrom 82 rfl) ly_171 (by decide) (fg_lt ly_171 (by decide)) (by omega) (rh_171_1 R) ?_
  refine fg_callV (fg_ft (pc := 149) tb_Told_copyFrom 83 rfl) cf_Told_54 (fg_isOf ly_135 rfl (fg_lt ly_135 (by decide))) (as := [.ref 174]) (st := []) rfl rfl (Nat.le_of_ble_eq_true rfl) (Nat.le_refl _) (Nat.le_refl _) (ev_Rows_copyFromA (r := 135) (c := 136) (n := 120) (o := 174) (co := 175) ⟨ly_135, rfl, ly_136⟩ ⟨ly_174, rfl, ly_175⟩ (by decide) (by decide) ?_)
  intro ν1 ah1 rd1
  show fg_wp _ _ _ _ _ _ _ _ _ (ν1, fg_rho R, 304)
  refine fg_iincN (fg_ft (pc := 152) tb_Told_copyFrom 84 rfl) rfl ic_1 rfl ?_
  refine fg_goto (tgt := 101) (fg_ft (pc := 155) tb_Told_copyFrom 85 rfl) (by decide) ?_
  refine fg_iloadn (fg_ft (pc := 101) tb_Told_copyFrom 55 rfl) rfl ?_
  refine fg_aloadn (fg_ft (pc := 102) tb_Told_copyFrom 56 rfl) rfl ?_
  refine fg_getR (fg_ft (pc := 103) tb_Told_copyFrom 57 rfl) ff_Told_28 ly_101 rfl (fg_lt ly_101 (by decide)) (rh_101_7 R) ?_
  refine fg_alen (fg_ft (pc := 106) tb_Told_copyFrom 58 rfl) ly_132 (by decide) (fg_lt ly_132 (by decide)) ?_
  refine fg_icmp_geN (tgt := 158) (fg_ft (pc := 107) tb_Told_copyFrom 59 rfl) (by decide) (by decide) (by decide) (fun c107 => (absurd c107 (by decide))) (fun c107 => ?_)
  refine fg_iloadn (fg_ft (pc := 110) tb_Told_copyFrom 60 rfl) rfl ?_
  refine fg_aloadn (fg_ft (pc := 111) tb_Told_copyFrom 61 rfl) rfl ?_
  refine fg_getR (fg_ft (pc := 112) tb_Told_copyFrom 62 rfl) ff_Told_28 ly_140 rfl (fg_lt ly_140 (by decide)) (rh_140_7 R) ?_
  refine fg_alen (fg_ft (pc := 115) tb_Told_copyFrom 63 rfl) ly_171 (by decide) (fg_lt ly_171 (by decide)) ?_
  refine fg_icmp_geN (tgt := 158) (fg_ft (pc := 116) tb_Told_copyFrom 64 rfl) (by decide) (by decide) (by decide) (fun c116 => (absurd c116 (by decide))) (fun c116 => ?_)
  refine fg_aloadn (fg_ft (pc := 119) tb_Told_copyFrom 65 rfl) rfl ?_
  refine fg_getR (fg_ft (pc := 120) tb_Told_copyFrom 66 rfl) ff_Told_28 ly_101 rfl (fg_lt ly_101 (by decide)) (rh_101_7 R) ?_
  refine fg_iloadn (fg_ft (pc := 123) tb_Told_copyFrom 67 rfl) rfl ?_
  refine fg_aaldN (fg_ft (pc := 124) tb_Told_copyFrom 68 rfl) ly_132 (by decide) (fg_lt ly_132 (by decide)) (by omega) (rh_132_2 R) ?_
  refine fg_ifnull_r (fg_ft (pc := 125) tb_Told_copyFrom 69 rfl) ?_
  refine fg_aloadn (fg_ft (pc := 128) tb_Told_copyFrom 70 rfl) rfl ?_
  refine fg_getR (fg_ft (pc := 129) tb_Told_copyFrom 71 rfl) ff_Told_28 ly_140 rfl (fg_lt ly_140 (by decide)) (rh_140_7 R) ?_
  refine fg_iloadn (fg_ft (pc := 132) tb_Told_copyFrom 72 rfl) rfl ?_
  refine fg_aaldN (fg_ft (pc := 133) tb_Told_copyFrom 73 rfl) ly_171 (by decide) (fg_lt ly_171 (by decide)) (by omega) (rh_171_2 R) ?_
  refine fg_ifnull_r (fg_ft (pc := 134) tb_Told_copyFrom 74 rfl) ?_
  refine fg_aloadn (fg_ft (pc := 137) tb_Told_copyFrom 75 rfl) rfl ?_
  refine fg_getR (fg_ft (pc := 138) tb_Told_copyFrom 76 rfl) ff_Told_28 ly_101 rfl (fg_lt ly_101 (by decide)) (rh_101_7 R) ?_
  refine fg_iloadn (fg_ft (pc := 141) tb_Told_copyFrom 77 rfl) rfl ?_
  refine fg_aaldN (fg_ft (pc := 142) tb_Told_copyFrom 78 rfl) ly_132 (by decide) (fg_lt ly_132 (by decide)) (by omega) (rh_132_2 R) ?_
  refine fg_aloadn (fg_ft (pc := 143) tb_Told_copyFrom 79 rfl) rfl ?_
  refine fg_getR (fg_ft (pc := 144) tb_Told_copyFrom 80 rfl) ff_Told_28 ly_140 rfl (fg_lt ly_140 (by decide)) (rh_140_7 R) ?_
  refine fg_iloadn (fg_ft (pc := 147) tb_Told_copyFrom 81 rfl) rfl ?_
  refine fg_aaldN (fg_ft (pc := 148) tb_Told_copyFrom 82 rfl) ly_171 (by decide) (fg_lt ly_171 (by decide)) (by omega) (rh_171_2 R) ?_
  refine fg_callV (fg_ft (pc := 149) tb_Told_copyFrom 83 rfl) cf_Told_54 (fg_isOf ly_137 rfl (fg_lt ly_137 (by decide))) (as := [.ref 176]) (st := []) rfl rfl (Nat.le_of_ble_eq_true rfl) (Nat.le_refl _) (Nat.le_refl _) (ev_Rows_copyFromA (r := 137) (c := 138) (n := 120) (o := 176) (co := 177) ⟨ly_137, rfl, ly_138⟩ ⟨ly_176, rfl, ly_177⟩ (by decide) (by decide) ?_)
  intro ν2 ah2 rd2
  show fg_wp _ _ _ _ _ _ _ _ _ (ν2, fg_rho R, 304)
  refine fg_iincN (fg_ft (pc := 152) tb_Told_copyFrom 84 rfl) rfl ic_1 rfl ?_
  refine fg_goto (tgt := 101) (fg_ft (pc := 155) tb_Told_copyFrom 85 rfl) (by decide) ?_
  refine fg_iloadn (fg_ft (pc := 101) tb_Told_copyFrom 55 rfl) rfl ?_
  refine fg_aloadn (fg_ft (pc := 102) tb_Told_copyFrom 56 rfl) rfl ?_
  refine fg_getR (fg_ft (pc := 103) tb_Told_copyFrom 57 rfl) ff_Told_28 ly_101 rfl (fg_lt ly_101 (by decide)) (rh_101_7 R) ?_
  refine fg_alen (fg_ft (pc := 106) tb_Told_copyFrom 58 rfl) ly_132 (by decide) (fg_lt ly_132 (by decide)) ?_
  refine fg_icmp_geN (tgt := 158) (fg_ft (pc := 107) tb_Told_copyFrom 59 rfl) (by decide) (by decide) (by decide) (fun c107 => ?_) (fun c107 => (absurd c107 (by decide)))
  refine fg_aloadn (fg_ft (pc := 158) tb_Told_copyFrom 86 rfl) rfl ?_
  refine fg_aloadn (fg_ft (pc := 159) tb_Told_copyFrom 87 rfl) rfl ?_
  refine fg_getI (fg_ft (pc := 160) tb_Told_copyFrom 88 rfl) ff_Told_38 ly_140 rfl (fg_lt ly_140 (by decide)) ?_
  refine fg_putI (fg_ft (pc := 163) tb_Told_copyFrom 89 rfl) ff_Told_38 ly_101 rfl (fg_lt ly_101 (by decide)) (fg_nokI _) (fun _ _ h => by cases h; rfl) ?_
  show fg_wp _ _ _ _ _ _ _ _ _ (fg_u2 ν2 101 4 (ν2 140 4), fg_rho R, 304)
  refine fg_aloadn (fg_ft (pc := 166) tb_Told_copyFrom 90 rfl) rfl ?_
  refine fg_aloadn (fg_ft (pc := 167) tb_Told_copyFrom 91 rfl) rfl ?_
  refine fg_getI (fg_ft (pc := 168) tb_Told_copyFrom 92 rfl) ff_Told_41 ly_140 rfl (fg_lt ly_140 (by decide)) ?_
  refine fg_putI (fg_ft (pc := 171) tb_Told_copyFrom 93 rfl) ff_Told_41 ly_101 rfl (fg_lt ly_101 (by decide)) (fg_nokI _) (fun _ _ h => by cases h; rfl) ?_
  show fg_wp _ _ _ _ _ _ _ _ _ (fg_u2 (fg_u2 ν2 101 4 (ν2 140 4)) 101 5 ((fg_u2 ν2 101 4 (ν2 140 4)) 140 5), fg_rho R, 304)
  exact fg_vret (fg_ft (pc := 174) tb_Told_copyFrom 94 rfl) rfl rfl (by
  have c5 : ∀ a, a ≠ 101 → ∀ j, (fg_u2 (fg_u2 ν2 101 4 (ν2 140 4)) 101 5 ((fg_u2 ν2 101 4 (ν2 140 4)) 140 5)) a j = ν2 a j := fun a ha j => (fg_u2ne ha).trans (fg_u2ne ha)
  have cv : ∀ a, (a < 133 ∨ 139 ≤ a) → ∀ j, ν2 a j = μ1 a j := fun a ha j => (ah2 a j (by omega) (by omega)).trans ((ah1 a j (by omega) (by omega)).trans (ah0 a j (by omega) (by omega)))
  have c1 : ∀ a, (a < 118 ∨ 132 ≤ a) → ∀ j, μ1 a j = μ0 a j := fun a ha j => ag1 a (by omega) j
  have c0 : ∀ a, (a < 104 ∨ 118 ≤ a) → ∀ j, μ0 a j = m0 a j := fun a ha j => ag0 a (by omega) j
  have cm : ∀ a, (a < 104 ∨ 139 ≤ a) → ∀ j, ν2 a j = m0 a j := fun a ha j => (cv a (by omega) j).trans ((c1 a (by omega) j).trans (c0 a (by omega) j))
  refine hQ _ ⟨fun j h1 h5 => ?_, fun j hj => (c5 _ (by decide) _).trans ((cm _ (by decide) _).trans (e1 j hj)), fun i hi => ?_, fun i hi => ?_, fun a ha j => (c5 a (by omega) j).trans ((cm a (by omega) j).trans (e0 a (by omega) (by omega) j))⟩
  · rcases (show j = 1 ∨ j = 2 ∨ j = 3 ∨ j = 4 ∨ j = 5 by omega) with rfl | rfl | rfl | rfl | rfl
    · exact (fg_u2ns (by decide)).trans ((fg_u2ns (by decide)).trans ((cm _ (by decide) _).trans s1))
    · exact (fg_u2ns (by decide)).trans ((fg_u2ns (by decide)).trans ((cm _ (by decide) _).trans s2))
    · exact (fg_u2ns (by decide)).trans ((fg_u2ns (by decide)).trans ((cm _ (by decide) _).trans s3))
    · exact (fg_u2ns (by decide)).trans (fg_u2eq.trans ((cm _ (by decide) _).trans (e0 _ (by decide) (by decide) _)))
    · exact fg_u2eq.trans ((fg_u2ne (by decide)).trans ((cm _ (by decide) _).trans (e0 _ (by decide) (by decide) _)))
  · rcases (show i = 0 ∨ i = 1 by omega) with rfl | rfl
    · have hk : ∀ a, 104 ≤ a → a < 118 → ∀ j, (fg_u2 (fg_u2 ν2 101 4 (ν2 140 4)) 101 5 ((fg_u2 ν2 101 4 (ν2 140 4)) 140 5)) a j = μ0 a j := fun a h1 h2 j => (c5 a (by omega) j).trans ((cv a (by omega) j).trans (c1 a (by omega) j))
      exact ⟨fg_TC.fr (t := 104) (t2 := 143) tc0 (fun a h1 h2 j => e0 a (by omega) (by omega) j) hk, fun hw => fg_wdT.fr (t := 104) (wd0 (fg_wdT.fr (t := 104) hw (fun a h1 h2 j => e0 a (by omega) (by omega) j))) hk⟩
    · have hk : ∀ a, 118 ≤ a → a < 132 → ∀ j, (fg_u2 (fg_u2 ν2 101 4 (ν2 140 4)) 101 5 ((fg_u2 ν2 101 4 (ν2 140 4)) 140 5)) a j = μ1 a j := fun a h1 h2 j => (c5 a (by omega) j).trans (cv a (by omega) j)
      exact ⟨fg_TC.fr (t := 118) (t2 := 157) tc1 (fun a h1 h2 j => (c0 a (by omega) j).trans (e0 a (by omega) (by omega) j)) hk, fun hw => fg_wdT.fr (t := 118) (wd1 (fg_wdT.fr (t := 118) hw (fun a h1 h2 j => (c0 a (by omega) j).trans (e0 a (by omega) (by omega) j)))) hk⟩
  · have co : ∀ a, (a < 101 ∨ 132 ≤ a) → ∀ j, μ1 a j = μ a j := fun a ha j => (c1 a (by omega) j).trans ((c0 a (by omega) j).trans (e0 a (by omega) (by omega) j))
    rcases (show i = 0 ∨ i = 1 ∨ i = 2 by omega) with rfl | rfl | rfl
    · exact ⟨(((c5 133 (by decide) 0).trans (ah2 133 0 (by decide) (by decide))).trans (ah1 133 0 (by decide) (by decide))).trans (rd0.1.trans (co 133 (by decide) 0)), (((c5 133 (by decide) 2).trans (ah2 133 2 (by decide) (by decide))).trans (ah1 133 2 (by decide) (by decide))).trans (rd0.2.1.trans (co 172 (by decide) 2)), fun j hj => (((c5 134 (by decide) j).trans (ah2 134 j (by decide) (by decide))).trans (ah1 134 j (by decide) (by decide))).trans ((rd0.2.2 j hj).trans (co 173 (by decide) j))⟩
    · exact ⟨((c5 135 (by decide) 0).trans (ah2 135 0 (by decide) (by decide))).trans (rd1.1.trans ((ah0 135 0 (by decide) (by decide)).trans (co 135 (by decide) 0))), ((c5 135 (by decide) 2).trans (ah2 135 2 (by decide) (by decide))).trans (rd1.2.1.trans ((ah0 174 2 (by decide) (by decide)).trans (co 174 (by decide) 2))), fun j hj => ((c5 136 (by decide) j).trans (ah2 136 j (by decide) (by decide))).trans ((rd1.2.2 j hj).trans ((ah0 175 j (by decide) (by decide)).trans (co 175 (by decide) j)))⟩
    · exact ⟨(c5 137 (by decide) 0).trans (rd2.1.trans ((ah1 137 0 (by decide) (by decide)).trans ((ah0 137 0 (by decide) (by decide)).trans (co 137 (by decide) 0)))), (c5 137 (by decide) 2).trans (rd2.2.1.trans ((ah1 176 2 (by decide) (by decide)).trans ((ah0 176 2 (by decide) (by decide)).trans (co 176 (by decide) 2)))), fun j hj => (c5 138 (by decide) j).trans ((rd2.2.2 j hj).trans ((ah1 177 j (by decide) (by decide)).trans ((ah0 177 j (by decide) (by decide)).trans (co 177 (by decide) j))))⟩)
theorem ev_Told_copy_140_101 {E : fg_E} {d : Nat} {μ : Nat → Nat → Int32} {R : fg_T4} {Q : Option Value → fg_M → Prop} (hfit : ∀ i, i < 600 → fits (fg_aty (11 - 10)) (.int (μ 102 i)) = true) (hQ : ∀ μ' : Nat → Nat → Int32, fg_KC μ 101 μ' 140 → Q none (μ', fg_rho R, 304)) : fg_Ev E yy_Told_copyFrom (d + 3) [.ref 140, .ref 101] (μ, fg_rho R, 304) 304 Q := by
  refine fg_intro (by decide +kernel) (Nat.le_of_ble_eq_true rfl) (fg_okAs rfl) (Nat.le_refl _) ?_
  refine fg_aloadn (fg_ft (pc := 0) tb_Told_copyFrom 0 rfl) rfl ?_
  refine fg_getR (fg_ft (pc := 1) tb_Told_copyFrom 1 rfl) ff_Told_9 ly_101 rfl (fg_lt ly_101 (by decide)) (rh_101_0 R) ?_
  refine fg_iconst (fg_ft (pc := 4) tb_Told_copyFrom 2 rfl) ic_0 ?_
  refine fg_aloadn (fg_ft (pc := 5) tb_Told_copyFrom 3 rfl) rfl ?_
  refine fg_getR (fg_ft (pc := 6) tb_Told_copyFrom 4 rfl) ff_Told_9 ly_140 rfl (fg_lt ly_140 (by decide)) (rh_140_0 R) ?_
  refine fg_iconst (fg_ft (pc := 9) tb_Told_copyFrom 5 rfl) ic_0 ?_
  refine fg_sipush (fg_ft (pc := 10) tb_Told_copyFrom 6 rfl) is_600 ?_
  refine fg_copy (fg_ft (pc := 13) tb_Told_copyFrom 7 rfl) fy_Told_57 fy_native fy_static fy_init (Or.inr rfl) ly_102 ly_141 (fg_lt ly_102 (by decide)) (fg_lt ly_141 (by decide)) rfl rfl rfl (by omega) (by omega) (hfit) (Nat.le_of_ble_eq_true rfl) ?_
  show fg_wp _ _ _ _ _ _ _ _ _ (fg_cp1 μ 102 141 600, fg_rho R, 304)
  refine fg_aloadn (fg_ft (pc := 16) tb_Told_copyFrom 8 rfl) rfl ?_
  refine fg_aloadn (fg_ft (pc := 17) tb_Told_copyFrom 9 rfl) rfl ?_
  refine fg_getI (fg_ft (pc := 18) tb_Told_copyFrom 10 rfl) ff_Told_35 ly_101 rfl (fg_lt ly_101 (by decide)) ?_
  refine fg_putI (fg_ft (pc := 21) tb_Told_copyFrom 11 rfl) ff_Told_35 ly_140 rfl (fg_lt ly_140 (by decide)) (fg_nokI _) (fun _ _ h => by cases h; rfl) ?_
  show fg_wp _ _ _ _ _ _ _ _ _ (fg_u2 (fg_cp1 μ 102 141 600) 140 1 ((fg_cp1 μ 102 141 600) 101 1), fg_rho R, 304)
  refine fg_aloadn (fg_ft (pc := 24) tb_Told_copyFrom 12 rfl) rfl ?_
  refine fg_aloadn (fg_ft (pc := 25) tb_Told_copyFrom 13 rfl) rfl ?_
  refine fg_getI (fg_ft (pc := 26) tb_Told_copyFrom 14 rfl) ff_Told_63 ly_101 rfl (fg_lt ly_101 (by decide)) ?_
  refine fg_putI (fg_ft (pc := 29) tb_Told_copyFrom 15 rfl) ff_Told_63 ly_140 rfl (fg_lt ly_140 (by decide)) (fg_nokI _) (fun _ _ h => by cases h; rfl) ?_
  show fg_wp _ _ _ _ _ _ _ _ _ (fg_u2 (fg_u2 (fg_cp1 μ 102 141 600) 140 1 ((fg_cp1 μ 102 141 600) 101 1)) 140 2 ((fg_u2 (fg_cp1 μ 102 141 600) 140 1 ((fg_cp1 μ 102 141 600) 101 1)) 101 2), fg_rho R, 304)
  refine fg_aloadn (fg_ft (pc := 32) tb_Told_copyFrom 16 rfl) rfl ?_
  refine fg_aloadn (fg_ft (pc := 33) tb_Told_copyFrom 17 rfl) rfl ?_
  refine fg_getI (fg_ft (pc := 34) tb_Told_copyFrom 18 rfl) ff_Told_15 ly_101 rfl (fg_lt ly_101 (by decide)) ?_
  refine fg_putI (fg_ft (pc := 37) tb_Told_copyFrom 19 rfl) ff_Told_15 ly_140 rfl (fg_lt ly_140 (by decide)) (fg_nokI _) (fun _ _ h => by cases h; rfl) ?_
  show fg_wp _ _ _ _ _ _ _ _ _ (fg_u2 (fg_u2 (fg_u2 (fg_cp1 μ 102 141 600) 140 1 ((fg_cp1 μ 102 141 600) 101 1)) 140 2 ((fg_u2 (fg_cp1 μ 102 141 600) 140 1 ((fg_cp1 μ 102 141 600) 101 1)) 101 2)) 140 3 ((fg_u2 (fg_u2 (fg_cp1 μ 102 141 600) 140 1 ((fg_cp1 μ 102 141 600) 101 1)) 140 2 ((fg_u2 (fg_cp1 μ 102 141 600) 140 1 ((fg_cp1 μ 102 141 600) 101 1)) 101 2)) 101 3), fg_rho R, 304)
  obtain ⟨m0, hm0⟩ : ∃ m0, m0 = fg_u2 (fg_u2 (fg_u2 (fg_cp1 μ 102 141 600) 140 1 ((fg_cp1 μ 102 141 600) 101 1)) 140 2 ((fg_u2 (fg_cp1 μ 102 141 600) 140 1 ((fg_cp1 μ 102 141 600) 101 1)) 101 2)) 140 3 ((fg_u2 (fg_u2 (fg_cp1 μ 102 141 600) 140 1 ((fg_cp1 μ 102 141 600) 101 1)) 140 2 ((fg_u2 (fg_cp1 μ 102 141 600) 140 1 ((fg_cp1 μ 102 141 600) 101 1)) 101 2)) 101 3) := ⟨_, rfl⟩
  rw [← hm0]
  have e0 : ∀ a, a ≠ 140 → a ≠ 141 → ∀ j, m0 a j = μ a j := fun a a1 a2 j => by rw [hm0]; exact (fg_u2ne a1).trans ((fg_u2ne a1).trans ((fg_u2ne a1).trans (fg_cp1_ne a2)))
  have e1 : ∀ j, j < 600 → m0 141 j = μ 102 j := fun j hj => by rw [hm0]; exact (fg_u2ne (by decide)).trans ((fg_u2ne (by decide)).trans ((fg_u2ne (by decide)).trans (fg_cp1_lt hj)))
  have s1 : m0 140 1 = μ 101 1 := by rw [hm0]; exact (fg_u2ns (by decide)).trans ((fg_u2ns (by decide)).trans (fg_u2eq.trans (fg_cp1_ne (by decide))))
  have s2 : m0 140 2 = μ 101 2 := by rw [hm0]; exact (fg_u2ns (by decide)).trans (fg_u2eq.trans ((fg_u2ne (by decide)).trans (fg_cp1_ne (by decide))))
  have s3 : m0 140 3 = μ 101 3 := by rw [hm0]; exact fg_u2eq.trans ((fg_u2ne (by decide)).trans ((fg_u2ne (by decide)).trans (fg_cp1_ne (by decide))))
  refine fg_iconst (fg_ft (pc := 40) tb_Told_copyFrom 20 rfl) ic_0 ?_
  refine fg_istoren (fg_ft (pc := 41) tb_Told_copyFrom 21 rfl) (Nat.le_of_ble_eq_true rfl) ?_
  refine fg_iloadn (fg_ft (pc := 42) tb_Told_copyFrom 22 rfl) rfl ?_
  refine fg_aloadn (fg_ft (pc := 43) tb_Told_copyFrom 23 rfl) rfl ?_
  refine fg_getR (fg_ft (pc := 44) tb_Told_copyFrom 24 rfl) ff_Told_21 ly_140 rfl (fg_lt ly_140 (by decide)) (rh_140_6 R) ?_
  refine fg_alen (fg_ft (pc := 47) tb_Told_copyFrom 25 rfl) ly_142 (by decide) (fg_lt ly_142 (by decide)) ?_
  refine fg_icmp_geN (tgt := 99) (fg_ft (pc := 48) tb_Told_copyFrom 26 rfl) (by decide) (by decide) (by decide) (fun c48 => (absurd c48 (by decide))) (fun c48 => ?_)
  refine fg_iloadn (fg_ft (pc := 51) tb_Told_copyFrom 27 rfl) rfl ?_
  refine fg_aloadn (fg_ft (pc := 52) tb_Told_copyFrom 28 rfl) rfl ?_
  refine fg_getR (fg_ft (pc := 53) tb_Told_copyFrom 29 rfl) ff_Told_21 ly_101 rfl (fg_lt ly_101 (by decide)) (rh_101_6 R) ?_
  refine fg_alen (fg_ft (pc := 56) tb_Told_copyFrom 30 rfl) ly_103 (by decide) (fg_lt ly_103 (by decide)) ?_
  refine fg_icmp_geN (tgt := 99) (fg_ft (pc := 57) tb_Told_copyFrom 31 rfl) (by decide) (by decide) (by decide) (fun c57 => (absurd c57 (by decide))) (fun c57 => ?_)
  refine fg_aloadn (fg_ft (pc := 60) tb_Told_copyFrom 32 rfl) rfl ?_
  refine fg_getR (fg_ft (pc := 61) tb_Told_copyFrom 33 rfl) ff_Told_21 ly_140 rfl (fg_lt ly_140 (by decide)) (rh_140_6 R) ?_
  refine fg_iloadn (fg_ft (pc := 64) tb_Told_copyFrom 34 rfl) rfl ?_
  refine fg_aaldN (fg_ft (pc := 65) tb_Told_copyFrom 35 rfl) ly_142 (by decide) (fg_lt ly_142 (by decide)) (by omega) (rh_142_0 R) ?_
  refine fg_ifnull_r (fg_ft (pc := 66) tb_Told_copyFrom 36 rfl) ?_
  refine fg_aloadn (fg_ft (pc := 69) tb_Told_copyFrom 37 rfl) rfl ?_
  refine fg_getR (fg_ft (pc := 70) tb_Told_copyFrom 38 rfl) ff_Told_21 ly_101 rfl (fg_lt ly_101 (by decide)) (rh_101_6 R) ?_
  refine fg_iloadn (fg_ft (pc := 73) tb_Told_copyFrom 39 rfl) rfl ?_
  refine fg_aaldN (fg_ft (pc := 74) tb_Told_copyFrom 40 rfl) ly_103 (by decide) (fg_lt ly_103 (by decide)) (by omega) (rh_103_0 R) ?_
  refine fg_ifnull_r (fg_ft (pc := 75) tb_Told_copyFrom 41 rfl) ?_
  refine fg_aloadn (fg_ft (pc := 78) tb_Told_copyFrom 42 rfl) rfl ?_
  refine fg_getR (fg_ft (pc := 79) tb_Told_copyFrom 43 rfl) ff_Told_21 ly_140 rfl (fg_lt ly_140 (by decide)) (rh_140_6 R) ?_
  refine fg_iloadn (fg_ft (pc := 82) tb_Told_copyFrom 44 rfl) rfl ?_
  refine fg_aaldN (fg_ft (pc := 83) tb_Told_copyFrom 45 rfl) ly_142 (by decide) (fg_lt ly_142 (by decide)) (by omega) (rh_142_0 R) ?_
  refine fg_aloadn (fg_ft (pc := 84) tb_Told_copyFrom 46 rfl) rfl ?_
  refine fg_getR (fg_ft (pc := 85) tb_Told_copyFrom 47 rfl) ff_Told_21 ly_101 rfl (fg_lt ly_101 (by decide)) (rh_101_6 R) ?_
  refine fg_iloadn (fg_ft (pc := 88) tb_Told_copyFrom 48 rfl) rfl ?_
  refine fg_aaldN (fg_ft (pc := 89) tb_Told_copyFrom 49 rfl) ly_103 (by decide) (fg_lt ly_103 (by decide)) (by omega) (rh_103_0 R) ?_
  refine fg_callV (fg_ft (pc := 90) tb_Told_copyFrom 50 rfl) cf_Told_44 (fg_isOf ly_143 rfl (fg_lt ly_143 (by decide))) (as := [.ref 104]) (st := []) rfl rfl (Nat.le_of_ble_eq_true rfl) (Nat.le_refl _) (Nat.le_refl _) (ev_Town_copyFrom (t := 143) (t2 := 104) (by unfold fg_isT; decide) (by unfold fg_isT; decide) (by decide) ?_)
  intro μ0 ag0 tc0 wd0
  show fg_wp _ _ _ _ _ _ _ _ _ (μ0, fg_rho R, 304)
  refine fg_iincN (fg_ft (pc := 93) tb_Told_copyFrom 51 rfl) rfl ic_1 rfl ?_
  refine fg_goto (tgt := 42) (fg_ft (pc := 96) tb_Told_copyFrom 52 rfl) (by decide) ?_
  refine fg_iloadn (fg_ft (pc := 42) tb_Told_copyFrom 22 rfl) rfl ?_
  refine fg_aloadn (fg_ft (pc := 43) tb_Told_copyFrom 23 rfl) rfl ?_
  refine fg_getR (fg_ft (pc := 44) tb_Told_copyFrom 24 rfl) ff_Told_21 ly_140 rfl (fg_lt ly_140 (by decide)) (rh_140_6 R) ?_
  refine fg_alen (fg_ft (pc := 47) tb_Told_copyFrom 25 rfl) ly_142 (by decide) (fg_lt ly_142 (by decide)) ?_
  refine fg_icmp_geN (tgt := 99) (fg_ft (pc := 48) tb_Told_copyFrom 26 rfl) (by decide) (by decide) (by decide) (fun c48 => (absurd c48 (by decide))) (fun c48 => ?_)
  refine fg_iloadn (fg_ft (pc := 51) tb_Told_copyFrom 27 rfl) rfl ?_
  refine fg_aloadn (fg_ft (pc := 52) tb_Told_copyFrom 28 rfl) rfl ?_
  refine fg_getR (fg_ft (pc := 53) tb_Told_copyFrom 29 rfl) ff_Told_21 ly_101 rfl (fg_lt ly_101 (by decide)) (rh_101_6 R) ?_
  refine fg_alen (fg_ft (pc := 56) tb_Told_copyFrom 30 rfl) ly_103 (by decide) (fg_lt ly_103 (by decide)) ?_
  refine fg_icmp_geN (tgt := 99) (fg_ft (pc := 57) tb_Told_copyFrom 31 rfl) (by decide) (by decide) (by decide) (fun c57 => (absurd c57 (by decide))) (fun c57 => ?_)
  refine fg_aloadn (fg_ft (pc := 60) tb_Told_copyFrom 32 rfl) rfl ?_
  refine fg_getR (fg_ft (pc := 61) tb_Told_copyFrom 33 rfl) ff_Told_21 ly_140 rfl (fg_lt ly_140 (by decide)) (rh_140_6 R) ?_
  refine fg_iloadn (fg_ft (pc := 64) tb_Told_copyFrom 34 rfl) rfl ?_
  refine fg_aaldN (fg_ft (pc := 65) tb_Told_copyFrom 35 rfl) ly_142 (by decide) (fg_lt ly_142 (by decide)) (by omega) (rh_142_1 R) ?_
  refine fg_ifnull_r (fg_ft (pc := 66) tb_Told_copyFrom 36 rfl) ?_
  refine fg_aloadn (fg_ft (pc := 69) tb_Told_copyFrom 37 rfl) rfl ?_
  refine fg_getR (fg_ft (pc := 70) tb_Told_copyFrom 38 rfl) ff_Told_21 ly_101 rfl (fg_lt ly_101 (by decide)) (rh_101_6 R) ?_
  refine fg_iloadn (fg_ft (pc := 73) tb_Told_copyFrom 39 rfl) rfl ?_
  refine fg_aaldN (fg_ft (pc := 74) tb_Told_copyFrom 40 rfl) ly_103 (by decide) (fg_lt ly_103 (by decide)) (by omega) (rh_103_1 R) ?_
  refine fg_ifnull_r (fg_ft (pc := 75) tb_Told_copyFrom 41 rfl) ?_
  refine fg_aloadn (fg_ft (pc := 78) tb_Told_copyFrom 42 rfl) rfl ?_
  refine fg_getR (fg_ft (pc := 79) tb_Told_copyFrom 43 rfl) ff_Told_21 ly_140 rfl (fg_lt ly_140 (by decide)) (rh_140_6 R) ?_
  refine fg_iloadn (fg_ft (pc := 82) tb_Told_copyFrom 44 rfl) rfl ?_
  refine fg_aaldN (fg_ft (pc := 83) tb_Told_copyFrom 45 rfl) ly_142 (by decide) (fg_lt ly_142 (by decide)) (by omega) (rh_142_1 R) ?_
  refine fg_aloadn (fg_ft (pc := 84) tb_Told_copyFrom 46 rfl) rfl ?_
  refine fg_getR (fg_ft (pc := 85) tb_Told_copyFrom 47 rfl) ff_Told_21 ly_101 rfl (fg_lt ly_101 (by decide)) (rh_101_6 R) ?_
  refine fg_iloadn (fg_ft (pc := 88) tb_Told_copyFrom 48 rfl) rfl ?_
  refine fg_aaldN (fg_ft (pc := 89) tb_Told_copyFrom 49 rfl) ly_103 (by decide) (fg_lt ly_103 (by decide)) (by omega) (rh_103_1 R) ?_
  refine fg_callV (fg_ft (pc := 90) tb_Told_copyFrom 50 rfl) cf_Told_44 (fg_isOf ly_157 rfl (fg_lt ly_157 (by decide))) (as := [.ref 118]) (st := []) rfl rfl (Nat.le_of_ble_eq_true rfl) (Nat.le_refl _) (Nat.le_refl _) (ev_Town_copyFrom (t := 157) (t2 := 118) (by unfold fg_isT; decide) (by unfold fg_isT; decide) (by decide) ?_)
  intro μ1 ag1 tc1 wd1
  show fg_wp _ _ _ _ _ _ _ _ _ (μ1, fg_rho R, 304)
  refine fg_iincN (fg_ft (pc := 93) tb_Told_copyFrom 51 rfl) rfl ic_1 rfl ?_
  refine fg_goto (tgt := 42) (fg_ft (pc := 96) tb_Told_copyFrom 52 rfl) (by decide) ?_
  refine fg_iloadn (fg_ft (pc := 42) tb_Told_copyFrom 22 rfl) rfl ?_
  refine fg_aloadn (fg_ft (pc := 43) tb_Told_copyFrom 23 rfl) rfl ?_
  refine fg_getR (fg_ft (pc := 44) tb_Told_copyFrom 24 rfl) ff_Told_21 ly_140 rfl (fg_lt ly_140 (by decide)) (rh_140_6 R) ?_
  refine fg_alen (fg_ft (pc := 47) tb_Told_copyFrom 25 rfl) ly_142 (by decide) (fg_lt ly_142 (by decide)) ?_
  refine fg_icmp_geN (tgt := 99) (fg_ft (pc := 48) tb_Told_copyFrom 26 rfl) (by decide) (by decide) (by decide) (fun c48 => ?_) (fun c48 => (absurd c48 (by decide)))
  refine fg_iconst (fg_ft (pc := 99) tb_Told_copyFrom 53 rfl) ic_0 ?_
  refine fg_istoren (fg_ft (pc := 100) tb_Told_copyFrom 54 rfl) (Nat.le_of_ble_eq_true rfl) ?_
  refine fg_iloadn (fg_ft (pc := 101) tb_Told_copyFrom 55 rfl) rfl ?_
  refine fg_aloadn (fg_ft (pc := 102) tb_Told_copyFrom 56 rfl) rfl ?_
  refine fg_getR (fg_ft (pc := 103) tb_Told_copyFrom 57 rfl) ff_Told_28 ly_140 rfl (fg_lt ly_140 (by decide)) (rh_140_7 R) ?_
  refine fg_alen (fg_ft (pc := 106) tb_Told_copyFrom 58 rfl) ly_171 (by decide) (fg_lt ly_171 (by decide)) ?_
  refine fg_icmp_geN (tgt := 158) (fg_ft (pc := 107) tb_Told_copyFrom 59 rfl) (by decide) (by decide) (by decide) (fun c107 => (absurd c107 (by decide))) (fun c107 => ?_)
  refine fg_iloadn (fg_ft (pc := 110) tb_Told_copyFrom 60 rfl) rfl ?_
  refine fg_aloadn (fg_ft (pc := 111) tb_Told_copyFrom 61 rfl) rfl ?_
  refine fg_getR (fg_ft (pc := 112) tb_Told_copyFrom 62 rfl) ff_Told_28 ly_101 rfl (fg_lt ly_101 (by decide)) (rh_101_7 R) ?_
  refine fg_alen (fg_ft (pc := 115) tb_Told_copyFrom 63 rfl) ly_132 (by decide) (fg_lt ly_132 (by decide)) ?_
  refine fg_icmp_geN (tgt := 158) (fg_ft (pc := 116) tb_Told_copyFrom 64 rfl) (by decide) (by decide) (by decide) (fun c116 => (absurd c116 (by decide))) (fun c116 => ?_)
  refine fg_aloadn (fg_ft (pc := 119) tb_Told_copyFrom 65 rfl) rfl ?_
  refine fg_getR (fg_ft (pc := 120) tb_Told_copyFrom 66 rfl) ff_Told_28 ly_140 rfl (fg_lt ly_140 (by decide)) (rh_140_7 R) ?_
  refine fg_iloadn (fg_ft (pc := 123) tb_Told_copyFrom 67 rfl) rfl ?_
  refine fg_aaldN (fg_ft (pc := 124) tb_Told_copyFrom 68 rfl) ly_171 (by decide) (fg_lt ly_171 (by decide)) (by omega) (rh_171_0 R) ?_
  refine fg_ifnull_r (fg_ft (pc := 125) tb_Told_copyFrom 69 rfl) ?_
  refine fg_aloadn (fg_ft (pc := 128) tb_Told_copyFrom 70 rfl) rfl ?_
  refine fg_getR (fg_ft (pc := 129) tb_Told_copyFrom 71 rfl) ff_Told_28 ly_101 rfl (fg_lt ly_101 (by decide)) (rh_101_7 R) ?_
  refine fg_iloadn (fg_ft (pc := 132) tb_Told_copyFrom 72 rfl) rfl ?_
  refine fg_aaldN (fg_ft (pc := 133) tb_Told_copyFrom 73 rfl) ly_132 (by decide) (fg_lt ly_132 (by decide)) (by omega) (rh_132_0 R) ?_
  refine fg_ifnull_r (fg_ft (pc := 134) tb_Told_copyFrom 74 rfl) ?_
  refine fg_aloadn (fg_ft (pc := 137) tb_Told_copyFrom 75 rfl) rfl ?_
  refine fg_getR (fg_ft (pc := 138) tb_Told_copyFrom 76 rfl) ff_Told_28 ly_140 rfl (fg_lt ly_140 (by decide)) (rh_140_7 R) ?_
  refine fg_iloadn (fg_ft (pc := 141) tb_Told_copyFrom 77 rfl) rfl ?_
  refine fg_aaldN (fg_ft (pc := 142) tb_Told_copyFrom 78 rfl) ly_171 (by decide) (fg_lt ly_171 (by decide)) (by omega) (rh_171_0 R) ?_
  refine fg_aloadn (fg_ft (pc := 143) tb_Told_copyFrom 79 rfl) rfl ?_
  refine fg_getR (fg_ft (pc := 144) tb_Told_copyFrom 80 rfl) ff_Told_28 ly_101 rfl (fg_lt ly_101 (by decide)) (rh_101_7 R) ?_
  refine fg_iloadn (fg_ft (pc := 147) tb_Told_copyFrom 81 rfl) rfl ?_
  refine fg_aaldN (fg_ft (pc := 148) tb_Told_copyFrom 82 rfl) ly_132 (by decide) (fg_lt ly_132 (by decide)) (by omega) (rh_132_0 R) ?_
  refine fg_callV (fg_ft (pc := 149) tb_Told_copyFrom 83 rfl) cf_Told_54 (fg_isOf ly_172 rfl (fg_lt ly_172 (by decide))) (as := [.ref 133]) (st := []) rfl rfl (Nat.le_of_ble_eq_true rfl) (Nat.le_refl _) (Nat.le_refl _) (ev_Rows_copyFromA (r := 172) (c := 173) (n := 120) (o := 133) (co := 134) ⟨ly_172, rfl, ly_173⟩ ⟨ly_133, rfl, ly_134⟩ (by decide) (by decide) ?_)
  intro ν0 ah0 rd0
  show fg_wp _ _ _ _ _ _ _ _ _ (ν0, fg_rho R, 304)
  refine fg_iincN (fg_ft (pc := 152) tb_Told_copyFrom 84 rfl) rfl ic_1 rfl ?_
  refine fg_goto (tgt := 101) (fg_ft (pc := 155) tb_Told_copyFrom 85 rfl) (by decide) ?_
  refine fg_iloadn (fg_ft (pc := 101) tb_Told_copyFrom 55 rfl) rfl ?_
  refine fg_aloadn (fg_ft (pc := 102) tb_Told_copyFrom 56 rfl) rfl ?_
  refine fg_getR (fg_ft (pc := 103) tb_Told_copyFrom 57 rfl) ff_Told_28 ly_140 rfl (fg_lt ly_140 (by decide)) (rh_140_7 R) ?_
  refine fg_alen (fg_ft (pc := 106) tb_Told_copyFrom 58 rfl) ly_171 (by decide) (fg_lt ly_171 (by decide)) ?_
  refine fg_icmp_geN (tgt := 158) (fg_ft (pc := 107) tb_Told_copyFrom 59 rfl) (by decide) (by decide) (by decide) (fun c107 => (absurd c107 (by decide))) (fun c107 => ?_)
  refine fg_iloadn (fg_ft (pc := 110) tb_Told_copyFrom 60 rfl) rfl ?_
  refine fg_aloadn (fg_ft (pc := 111) tb_Told_copyFrom 61 rfl) rfl ?_
  refine fg_getR (fg_ft (pc := 112) tb_Told_copyFrom 62 rfl) ff_Told_28 ly_101 rfl (fg_lt ly_101 (by decide)) (rh_101_7 R) ?_
  refine fg_alen (fg_ft (pc := 115) tb_Told_copyFrom 63 rfl) ly_132 (by decide) (fg_lt ly_132 (by decide)) ?_
  refine fg_icmp_geN (tgt := 158) (fg_ft (pc := 116) tb_Told_copyFrom 64 rfl) (by decide) (by decide) (by decide) (fun c116 => (absurd c116 (by decide))) (fun c116 => ?_)
  refine fg_aloadn (fg_ft (pc := 119) tb_Told_copyFrom 65 rfl) rfl ?_
  refine fg_getR (fg_ft (pc := 120) tb_Told_copyFrom 66 rfl) ff_Told_28 ly_140 rfl (fg_lt ly_140 (by decide)) (rh_140_7 R) ?_
  refine fg_iloadn (fg_ft (pc := 123) tb_Told_copyFrom 67 rfl) rfl ?_
  refine fg_aaldN (fg_ft (pc := 124) tb_Told_copyFrom 68 rfl) ly_171 (by decide) (fg_lt ly_171 (by decide)) (by omega) (rh_171_1 R) ?_
  refine fg_ifnull_r (fg_ft (pc := 125) tb_Told_copyFrom 69 rfl) ?_
  refine fg_aloadn (fg_ft (pc := 128) tb_Told_copyFrom 70 rfl) rfl ?_
  refine fg_getR (fg_ft (pc := 129) tb_Told_copyFrom 71 rfl) ff_Told_28 ly_101 rfl (fg_lt ly_101 (by decide)) (rh_101_7 R) ?_
  refine fg_iloadn (fg_ft (pc := 132) tb_Told_copyFrom 72 rfl) rfl ?_
  refine fg_aaldN (fg_ft (pc := 133) tb_Told_copyFrom 73 rfl) ly_132 (by decide) (fg_lt ly_132 (by decide)) (by omega) (rh_132_1 R) ?_
  refine fg_ifnull_r (fg_ft (pc := 134) tb_Told_copyFrom 74 rfl) ?_
  refine fg_aloadn (fg_ft (pc := 137) tb_Told_copyFrom 75 rfl) rfl ?_
  refine fg_getR (fg_ft (pc := 138) tb_Told_copyFrom 76 rfl) ff_Told_28 ly_140 rfl (fg_lt ly_140 (by decide)) (rh_140_7 R) ?_
  refine fg_iloadn (fg_ft (pc := 141) tb_Told_copyFrom 77 rfl) rfl ?_
  refine fg_aaldN (fg_ft (pc := 142) tb_Told_copyFrom 78 rfl) ly_171 (by decide) (fg_lt ly_171 (by decide)) (by omega) (rh_171_1 R) ?_
  refine fg_aloadn (fg_ft (pc := 143) tb_Told_copyFrom 79 rfl) rfl ?_
  refine fg_getR (fg_ft (pc := 144) tb_Told_copyFrom 80 rfl) ff_Told_28 ly_101 rfl (fg_lt ly_101 (by decide)) (rh_101_7 R) ?_
  refine fg_iloadn (fg_ft (pc := 147) tb_Told_copyFrom 81 rfl) rfl ?_
  refine fg_aaldN (fg_ft (pc := 148) tb_Told_copyFrom 82 rfl) ly_132 (by decide) (fg_lt ly_132 (by decide)) (by omega) (rh_132_1 R) ?_
  refine fg_callV (fg_ft (pc := 149) tb_Told_copyFrom 83 rfl) cf_Told_54 (fg_isOf ly_174 rfl (fg_lt ly_174 (by decide))) (as := [.ref 135]) (st := []) rfl rfl (Nat.le_of_ble_eq_true rfl) (Nat.le_refl _) (Nat.le_refl _) (ev_Rows_copyFromA (r := 174) (c := 175) (n := 120) (o := 135) (co := 136) ⟨ly_174, rfl, ly_175⟩ ⟨ly_135, rfl, ly_136⟩ (by decide) (by decide) ?_)
  intro ν1 ah1 rd1
  show fg_wp _ _ _ _ _ _ _ _ _ (ν1, fg_rho R, 304)
  refine fg_iincN (fg_ft (pc := 152) tb_Told_copyFrom 84 rfl) rfl ic_1 rfl ?_
  refine fg_goto (tgt := 101) (fg_ft (pc := 155) tb_Told_copyFrom 85 rfl) (by decide) ?_
  refine fg_iloadn (fg_ft (pc := 101) tb_Told_copyFrom 55 rfl) rfl ?_
  refine fg_aloadn (fg_ft (pc := 102) tb_Told_copyFrom 56 rfl) rfl ?_
  refine fg_getR (fg_ft (pc := 103) tb_Told_copyFrom 57 rfl) ff_Told_28 ly_140 rfl (fg_lt ly_140 (by decide)) (rh_140_7 R) ?_
  refine fg_alen (fg_ft (pc := 106) tb_Told_copyFrom 58 rfl) ly_171 (by decide) (fg_lt ly_171 (by decide)) ?_
  refine fg_icmp_geN (tgt := 158) (fg_ft (pc := 107) tb_Told_copyFrom 59 rfl) (by decide) (by decide) (by decide) (fun c107 => (absurd c107 (by decide))) (fun c107 => ?_)
  refine fg_iloadn (fg_ft (pc := 110) tb_Told_copyFrom 60 rfl) rfl ?_
  refine fg_aloadn (fg_ft (pc := 111) tb_Told_copyFrom 61 rfl) rfl ?_
  refine fg_getR (fg_ft (pc := 112) tb_Told_copyFrom 62 rfl) ff_Told_28 ly_101 rfl (fg_lt ly_101 (by decide)) (rh_101_7 R) ?_
  refine fg_alen (fg_ft (pc := 115) tb_Told_copyFrom 63 rfl) ly_132 (by decide) (fg_lt ly_132 (by decide)) ?_
  refine fg_icmp_geN (tgt := 158) (fg_ft (pc := 116) tb_Told_copyFrom 64 rfl) (by decide) (by decide) (by decide) (fun c116 => (absurd c116 (by decide))) (fun c116 => ?_)
  refine fg_aloadn (fg_ft (pc := 119) tb_Told_copyFrom 65 rfl) rfl ?_
  refine fg_getR (fg_ft (pc := 120) tb_Told_copyFrom 66 rfl) ff_Told_28 ly_140 rfl (fg_lt ly_140 (by decide)) (rh_140_7 R) ?_
  refine fg_iloadn (fg_ft (pc := 123) tb_Told_copyFrom 67 rfl) rfl ?_
  refine fg_aaldN (fg_ft (pc := 124) tb_Told_copyFrom 68 rfl) ly_171 (by decide) (fg_lt ly_171 (by decide)) (by omega) (rh_171_2 R) ?_
  refine fg_ifnull_r (fg_ft (pc := 125) tb_Told_copyFrom 69 rfl) ?_
  refine fg_aloadn (fg_ft (pc := 128) tb_Told_copyFrom 70 rfl) rfl ?_
  refine fg_getR (fg_ft (pc := 129) tb_Told_copyFrom 71 rfl) ff_Told_28 ly_101 rfl (fg_lt ly_101 (by decide)) (rh_101_7 R) ?_
  refine fg_iloadn (fg_ft (pc := 132) tb_Told_copyFrom 72 rfl) rfl ?_
  refine fg_aaldN (fg_ft (pc := 133) tb_Told_copyFrom 73 rfl) ly_132 (by decide) (fg_lt ly_132 (by decide)) (by omega) (rh_132_2 R) ?_
  refine fg_ifnull_r (fg_ft (pc := 134) tb_Told_copyFrom 74 rfl) ?_
  refine fg_aloadn (fg_ft (pc := 137) tb_Told_copyFrom 75 rfl) rfl ?_
  refine fg_getR (fg_ft (pc := 138) tb_Told_copyFrom 76 rfl) ff_Told_28 ly_140 rfl (fg_lt ly_140 (by decide)) (rh_140_7 R) ?_
  refine fg_iloadn (fg_ft (pc := 141) tb_Told_copyFrom 77 rfl) rfl ?_
  refine fg_aaldN (fg_ft (pc := 142) tb_Told_copyFrom 78 rfl) ly_171 (by decide) (fg_lt ly_171 (by decide)) (by omega) (rh_171_2 R) ?_
  refine fg_aloadn (fg_ft (pc := 143) tb_Told_copyFrom 79 rfl) rfl ?_
  refine fg_getR (fg_ft (pc := 144) tb_Told_copyFrom 80 rfl) ff_Told_28 ly_101 rfl (fg_lt ly_101 (by decide)) (rh_101_7 R) ?_
  refine fg_iloadn (fg_ft (pc := 147) tb_Told_copyFrom 81 rfl) rfl ?_
  refine fg_aaldN (fg_ft (pc := 148) tb_Told_copyFrom 82 rfl) ly_132 (by decide) (fg_lt ly_132 (by decide)) (by omega) (rh_132_2 R) ?_
  refine fg_callV (fg_ft (pc := 149) tb_Told_copyFrom 83 rfl) cf_Told_54 (fg_isOf ly_176 rfl (fg_lt ly_176 (by decide))) (as := [.ref 137]) (st := []) rfl rfl (Nat.le_of_ble_eq_true rfl) (Nat.le_refl _) (Nat.le_refl _) (ev_Rows_copyFromA (r := 176) (c := 177) (n := 120) (o := 137) (co := 138) ⟨ly_176, rfl, ly_177⟩ ⟨ly_137, rfl, ly_138⟩ (by decide) (by decide) ?_)
  intro ν2 ah2 rd2
  show fg_wp _ _ _ _ _ _ _ _ _ (ν2, fg_rho R, 304)
  refine fg_iincN (fg_ft (pc := 152) tb_Told_copyFrom 84 rfl) rfl ic_1 rfl ?_
  refine fg_goto (tgt := 101) (fg_ft (pc := 155) tb_Told_copyFrom 85 rfl) (by decide) ?_
  refine fg_iloadn (fg_ft (pc := 101) tb_Told_copyFrom 55 rfl) rfl ?_
  refine fg_aloadn (fg_ft (pc := 102) tb_Told_copyFrom 56 rfl) rfl ?_
  refine fg_getR (fg_ft (pc := 103) tb_Told_copyFrom 57 rfl) ff_Told_28 ly_140 rfl (fg_lt ly_140 (by decide)) (rh_140_7 R) ?_
  refine fg_alen (fg_ft (pc := 106) tb_Told_copyFrom 58 rfl) ly_171 (by decide) (fg_lt ly_171 (by decide)) ?_
  refine fg_icmp_geN (tgt := 158) (fg_ft (pc := 107) tb_Told_copyFrom 59 rfl) (by decide) (by decide) (by decide) (fun c107 => ?_) (fun c107 => (absurd c107 (by decide)))
  refine fg_aloadn (fg_ft (pc := 158) tb_Told_copyFrom 86 rfl) rfl ?_
  refine fg_aloadn (fg_ft (pc := 159) tb_Told_copyFrom 87 rfl) rfl ?_
  refine fg_getI (fg_ft (pc := 160) tb_Told_copyFrom 88 rfl) ff_Told_38 ly_101 rfl (fg_lt ly_101 (by decide)) ?_
  refine fg_putI (fg_ft (pc := 163) tb_Told_copyFrom 89 rfl) ff_Told_38 ly_140 rfl (fg_lt ly_140 (by decide)) (fg_nokI _) (fun _ _ h => by cases h; rfl) ?_
  show fg_wp _ _ _ _ _ _ _ _ _ (fg_u2 ν2 140 4 (ν2 101 4), fg_rho R, 304)
  refine fg_aloadn (fg_ft (pc := 166) tb_Told_copyFrom 90 rfl) rfl ?_
  refine fg_aloadn (fg_ft (pc := 167) tb_Told_copyFrom 91 rfl) rfl ?_
  refine fg_getI (fg_ft (pc := 168) tb_Told_copyFrom 92 rfl) ff_Told_41 ly_101 rfl (fg_lt ly_101 (by decide)) ?_
  refine fg_putI (fg_ft (pc := 171) tb_Told_copyFrom 93 rfl) ff_Told_41 ly_140 rfl (fg_lt ly_140 (by decide)) (fg_nokI _) (fun _ _ h => by cases h; rfl) ?_
  show fg_wp _ _ _ _ _ _ _ _ _ (fg_u2 (fg_u2 ν2 140 4 (ν2 101 4)) 140 5 ((fg_u2 ν2 140 4 (ν2 101 4)) 101 5), fg_rho R, 304)
  exact fg_vret (fg_ft (pc := 174) tb_Told_copyFrom 94 rfl) rfl rfl (by
  have c5 : ∀ a, a ≠ 140 → ∀ j, (fg_u2 (fg_u2 ν2 140 4 (ν2 101 4)) 140 5 ((fg_u2 ν2 140 4 (ν2 101 4)) 101 5)) a j = ν2 a j := fun a ha j => (fg_u2ne ha).trans (fg_u2ne ha)
  have cv : ∀ a, (a < 172 ∨ 178 ≤ a) → ∀ j, ν2 a j = μ1 a j := fun a ha j => (ah2 a j (by omega) (by omega)).trans ((ah1 a j (by omega) (by omega)).trans (ah0 a j (by omega) (by omega)))
  have c1 : ∀ a, (a < 157 ∨ 171 ≤ a) → ∀ j, μ1 a j = μ0 a j := fun a ha j => ag1 a (by omega) j
  have c0 : ∀ a, (a < 143 ∨ 157 ≤ a) → ∀ j, μ0 a j = m0 a j := fun a ha j => ag0 a (by omega) j
  have cm : ∀ a, (a < 143 ∨ 178 ≤ a) → ∀ j, ν2 a j = m0 a j := fun a ha j => (cv a (by omega) j).trans ((c1 a (by omega) j).trans (c0 a (by omega) j))
  refine hQ _ ⟨fun j h1 h5 => ?_, fun j hj => (c5 _ (by decide) _).trans ((cm _ (by decide) _).trans (e1 j hj)), fun i hi => ?_, fun i hi => ?_, fun a ha j => (c5 a (by omega) j).trans ((cm a (by omega) j).trans (e0 a (by omega) (by omega) j))⟩
  · rcases (show j = 1 ∨ j = 2 ∨ j = 3 ∨ j = 4 ∨ j = 5 by omega) with rfl | rfl | rfl | rfl | rfl
    · exact (fg_u2ns (by decide)).trans ((fg_u2ns (by decide)).trans ((cm _ (by decide) _).trans s1))
    · exact (fg_u2ns (by decide)).trans ((fg_u2ns (by decide)).trans ((cm _ (by decide) _).trans s2))
    · exact (fg_u2ns (by decide)).trans ((fg_u2ns (by decide)).trans ((cm _ (by decide) _).trans s3))
    · exact (fg_u2ns (by decide)).trans (fg_u2eq.trans ((cm _ (by decide) _).trans (e0 _ (by decide) (by decide) _)))
    · exact fg_u2eq.trans ((fg_u2ne (by decide)).trans ((cm _ (by decide) _).trans (e0 _ (by decide) (by decide) _)))
  · rcases (show i = 0 ∨ i = 1 by omega) with rfl | rfl
    · have hk : ∀ a, 143 ≤ a → a < 157 → ∀ j, (fg_u2 (fg_u2 ν2 140 4 (ν2 101 4)) 140 5 ((fg_u2 ν2 140 4 (ν2 101 4)) 101 5)) a j = μ0 a j := fun a h1 h2 j => (c5 a (by omega) j).trans ((cv a (by omega) j).trans (c1 a (by omega) j))
      exact ⟨fg_TC.fr (t := 143) (t2 := 104) tc0 (fun a h1 h2 j => e0 a (by omega) (by omega) j) hk, fun hw => fg_wdT.fr (t := 143) (wd0 (fg_wdT.fr (t := 143) hw (fun a h1 h2 j => e0 a (by omega) (by omega) j))) hk⟩
    · have hk : ∀ a, 157 ≤ a → a < 171 → ∀ j, (fg_u2 (fg_u2 ν2 140 4 (ν2 101 4)) 140 5 ((fg_u2 ν2 140 4 (ν2 101 4)) 101 5)) a j = μ1 a j := fun a h1 h2 j => (c5 a (by omega) j).trans (cv a (by omega) j)
      exact ⟨fg_TC.fr (t := 157) (t2 := 118) tc1 (fun a h1 h2 j => (c0 a (by omega) j).trans (e0 a (by omega) (by omega) j)) hk, fun hw => fg_wdT.fr (t := 157) (wd1 (fg_wdT.fr (t := 157) hw (fun a h1 h2 j => (c0 a (by omega) j).trans (e0 a (by omega) (by omega) j)))) hk⟩
  · have co : ∀ a, (a < 140 ∨ 171 ≤ a) → ∀ j, μ1 a j = μ a j := fun a ha j => (c1 a (by omega) j).trans ((c0 a (by omega) j).trans (e0 a (by omega) (by omega) j))
    rcases (show i = 0 ∨ i = 1 ∨ i = 2 by omega) with rfl | rfl | rfl
    · exact ⟨(((c5 172 (by decide) 0).trans (ah2 172 0 (by decide) (by decide))).trans (ah1 172 0 (by decide) (by decide))).trans (rd0.1.trans (co 172 (by decide) 0)), (((c5 172 (by decide) 2).trans (ah2 172 2 (by decide) (by decide))).trans (ah1 172 2 (by decide) (by decide))).trans (rd0.2.1.trans (co 133 (by decide) 2)), fun j hj => (((c5 173 (by decide) j).trans (ah2 173 j (by decide) (by decide))).trans (ah1 173 j (by decide) (by decide))).trans ((rd0.2.2 j hj).trans (co 134 (by decide) j))⟩
    · exact ⟨((c5 174 (by decide) 0).trans (ah2 174 0 (by decide) (by decide))).trans (rd1.1.trans ((ah0 174 0 (by decide) (by decide)).trans (co 174 (by decide) 0))), ((c5 174 (by decide) 2).trans (ah2 174 2 (by decide) (by decide))).trans (rd1.2.1.trans ((ah0 135 2 (by decide) (by decide)).trans (co 135 (by decide) 2))), fun j hj => ((c5 175 (by decide) j).trans (ah2 175 j (by decide) (by decide))).trans ((rd1.2.2 j hj).trans ((ah0 136 j (by decide) (by decide)).trans (co 136 (by decide) j)))⟩
    · exact ⟨(c5 176 (by decide) 0).trans (rd2.1.trans ((ah1 176 0 (by decide) (by decide)).trans ((ah0 176 0 (by decide) (by decide)).trans (co 176 (by decide) 0)))), (c5 176 (by decide) 2).trans (rd2.2.1.trans ((ah1 137 2 (by decide) (by decide)).trans ((ah0 137 2 (by decide) (by decide)).trans (co 137 (by decide) 2)))), fun j hj => (c5 177 (by decide) j).trans ((rd2.2.2 j hj).trans ((ah1 138 j (by decide) (by decide)).trans ((ah0 138 j (by decide) (by decide)).trans (co 138 (by decide) j))))⟩)
theorem ev_Told_copy_101_178 {E : fg_E} {d : Nat} {μ : Nat → Nat → Int32} {R : fg_T4} {Q : Option Value → fg_M → Prop} (hfit : ∀ i, i < 600 → fits (fg_aty (11 - 10)) (.int (μ 179 i)) = true) (hQ : ∀ μ' : Nat → Nat → Int32, fg_KC μ 178 μ' 101 → Q none (μ', fg_rho R, 304)) : fg_Ev E yy_Told_copyFrom (d + 3) [.ref 101, .ref 178] (μ, fg_rho R, 304) 304 Q := by
  refine fg_intro (by decide +kernel) (Nat.le_of_ble_eq_true rfl) (fg_okAs rfl) (Nat.le_refl _) ?_
  refine fg_aloadn (fg_ft (pc := 0) tb_Told_copyFrom 0 rfl) rfl ?_
  refine fg_getR (fg_ft (pc := 1) tb_Told_copyFrom 1 rfl) ff_Told_9 ly_178 rfl (fg_lt ly_178 (by decide)) (rh_178_0 R) ?_
  refine fg_iconst (fg_ft (pc := 4) tb_Told_copyFrom 2 rfl) ic_0 ?_
  refine fg_aloadn (fg_ft (pc := 5) tb_Told_copyFrom 3 rfl) rfl ?_
  refine fg_getR (fg_ft (pc := 6) tb_Told_copyFrom 4 rfl) ff_Told_9 ly_101 rfl (fg_lt ly_101 (by decide)) (rh_101_0 R) ?_
  refine fg_iconst (fg_ft (pc := 9) tb_Told_copyFrom 5 rfl) ic_0 ?_
  refine fg_sipush (fg_ft (pc := 10) tb_Told_copyFrom 6 rfl) is_600 ?_
  refine fg_copy (fg_ft (pc := 13) tb_Told_copyFrom 7 rfl) fy_Told_57 fy_native fy_static fy_init (Or.inr rfl) ly_179 ly_102 (fg_lt ly_179 (by decide)) (fg_lt ly_102 (by decide)) rfl rfl rfl (by omega) (by omega) (hfit) (Nat.le_of_ble_eq_true rfl) ?_
  show fg_wp _ _ _ _ _ _ _ _ _ (fg_cp1 μ 179 102 600, fg_rho R, 304)
  refine fg_aloadn (fg_ft (pc := 16) tb_Told_copyFrom 8 rfl) rfl ?_
  refine fg_aloadn (fg_ft (pc := 17) tb_Told_copyFrom 9 rfl) rfl ?_
  refine fg_getI (fg_ft (pc := 18) tb_Told_copyFrom 10 rfl) ff_Told_35 ly_178 rfl (fg_lt ly_178 (by decide)) ?_
  refine fg_putI (fg_ft (pc := 21) tb_Told_copyFrom 11 rfl) ff_Told_35 ly_101 rfl (fg_lt ly_101 (by decide)) (fg_nokI _) (fun _ _ h => by cases h; rfl) ?_
  show fg_wp _ _ _ _ _ _ _ _ _ (fg_u2 (fg_cp1 μ 179 102 600) 101 1 ((fg_cp1 μ 179 102 600) 178 1), fg_rho R, 304)
  refine fg_aloadn (fg_ft (pc := 24) tb_Told_copyFrom 12 rfl) rfl ?_
  refine fg_aloadn (fg_ft (pc := 25) tb_Told_copyFrom 13 rfl) rfl ?_
  refine fg_getI (fg_ft (pc := 26) tb_Told_copyFrom 14 rfl) ff_Told_63 ly_178 rfl (fg_lt ly_178 (by decide)) ?_
  refine fg_putI (fg_ft (pc := 29) tb_Told_copyFrom 15 rfl) ff_Told_63 ly_101 rfl (fg_lt ly_101 (by decide)) (fg_nokI _) (fun _ _ h => by cases h; rfl) ?_
  show fg_wp _ _ _ _ _ _ _ _ _ (fg_u2 (fg_u2 (fg_cp1 μ 179 102 600) 101 1 ((fg_cp1 μ 179 102 600) 178 1)) 101 2 ((fg_u2 (fg_cp1 μ 179 102 600) 101 1 ((fg_cp1 μ 179 102 600) 178 1)) 178 2), fg_rho R, 304)
  refine fg_aloadn (fg_ft (pc := 32) tb_Told_copyFrom 16 rfl) rfl ?_
  refine fg_aloadn (fg_ft (pc := 33) tb_Told_copyFrom 17 rfl) rfl ?_
  refine fg_getI (fg_ft (pc := 34) tb_Told_copyFrom 18 rfl) ff_Told_15 ly_178 rfl (fg_lt ly_178 (by decide)) ?_
  refine fg_putI (fg_ft (pc := 37) tb_Told_copyFrom 19 rfl) ff_Told_15 ly_101 rfl (fg_lt ly_101 (by decide)) (fg_nokI _) (fun _ _ h => by cases h; rfl) ?_
  show fg_wp _ _ _ _ _ _ _ _ _ (fg_u2 (fg_u2 (fg_u2 (fg_cp1 μ 179 102 600) 101 1 ((fg_cp1 μ 179 102 600) 178 1)) 101 2 ((fg_u2 (fg_cp1 μ 179 102 600) 101 1 ((fg_cp1 μ 179 102 600) 178 1)) 178 2)) 101 3 ((fg_u2 (fg_u2 (fg_cp1 μ 179 102 600) 101 1 ((fg_cp1 μ 179 102 600) 178 1)) 101 2 ((fg_u2 (fg_cp1 μ 179 102 600) 101 1 ((fg_cp1 μ 179 102 600) 178 1)) 178 2)) 178 3), fg_rho R, 304)
  obtain ⟨m0, hm0⟩ : ∃ m0, m0 = fg_u2 (fg_u2 (fg_u2 (fg_cp1 μ 179 102 600) 101 1 ((fg_cp1 μ 179 102 600) 178 1)) 101 2 ((fg_u2 (fg_cp1 μ 179 102 600) 101 1 ((fg_cp1 μ 179 102 600) 178 1)) 178 2)) 101 3 ((fg_u2 (fg_u2 (fg_cp1 μ 179 102 600) 101 1 ((fg_cp1 μ 179 102 600) 178 1)) 101 2 ((fg_u2 (fg_cp1 μ 179 102 600) 101 1 ((fg_cp1 μ 179 102 600) 178 1)) 178 2)) 178 3) := ⟨_, rfl⟩
  rw [← hm0]
  have e0 : ∀ a, a ≠ 101 → a ≠ 102 → ∀ j, m0 a j = μ a j := fun a a1 a2 j => by rw [hm0]; exact (fg_u2ne a1).trans ((fg_u2ne a1).trans ((fg_u2ne a1).trans (fg_cp1_ne a2)))
  have e1 : ∀ j, j < 600 → m0 102 j = μ 179 j := fun j hj => by rw [hm0]; exact (fg_u2ne (by decide)).trans ((fg_u2ne (by decide)).trans ((fg_u2ne (by decide)).trans (fg_cp1_lt hj)))
  have s1 : m0 101 1 = μ 178 1 := by rw [hm0]; exact (fg_u2ns (by decide)).trans ((fg_u2ns (by decide)).trans (fg_u2eq.trans (fg_cp1_ne (by decide))))
  have s2 : m0 101 2 = μ 178 2 := by rw [hm0]; exact (fg_u2ns (by decide)).trans (fg_u2eq.trans ((fg_u2ne (by decide)).trans (fg_cp1_ne (by decide))))
  have s3 : m0 101 3 = μ 178 3 := by rw [hm0]; exact fg_u2eq.trans ((fg_u2ne (by decide)).trans ((fg_u2ne (by decide)).trans (fg_cp1_ne (by decide))))
  refine fg_iconst (fg_ft (pc := 40) tb_Told_copyFrom 20 rfl) ic_0 ?_
  refine fg_istoren (fg_ft (pc := 41) tb_Told_copyFrom 21 rfl) (Nat.le_of_ble_eq_true rfl) ?_
  refine fg_iloadn (fg_ft (pc := 42) tb_Told_copyFrom 22 rfl) rfl ?_
  refine fg_aloadn (fg_ft (pc := 43) tb_Told_copyFrom 23 rfl) rfl ?_
  refine fg_getR (fg_ft (pc := 44) tb_Told_copyFrom 24 rfl) ff_Told_21 ly_101 rfl (fg_lt ly_101 (by decide)) (rh_101_6 R) ?_
  refine fg_alen (fg_ft (pc := 47) tb_Told_copyFrom 25 rfl) ly_103 (by decide) (fg_lt ly_103 (by decide)) ?_
  refine fg_icmp_geN (tgt := 99) (fg_ft (pc := 48) tb_Told_copyFrom 26 rfl) (by decide) (by decide) (by decide) (fun c48 => (absurd c48 (by decide))) (fun c48 => ?_)
  refine fg_iloadn (fg_ft (pc := 51) tb_Told_copyFrom 27 rfl) rfl ?_
  refine fg_aloadn (fg_ft (pc := 52) tb_Told_copyFrom 28 rfl) rfl ?_
  refine fg_getR (fg_ft (pc := 53) tb_Told_copyFrom 29 rfl) ff_Told_21 ly_178 rfl (fg_lt ly_178 (by decide)) (rh_178_6 R) ?_
  refine fg_alen (fg_ft (pc := 56) tb_Told_copyFrom 30 rfl) ly_180 (by decide) (fg_lt ly_180 (by decide)) ?_
  refine fg_icmp_geN (tgt := 99) (fg_ft (pc := 57) tb_Told_copyFrom 31 rfl) (by decide) (by decide) (by decide) (fun c57 => (absurd c57 (by decide))) (fun c57 => ?_)
  refine fg_aloadn (fg_ft (pc := 60) tb_Told_copyFrom 32 rfl) rfl ?_
  refine fg_getR (fg_ft (pc := 61) tb_Told_copyFrom 33 rfl) ff_Told_21 ly_101 rfl (fg_lt ly_101 (by decide)) (rh_101_6 R) ?_
  refine fg_iloadn (fg_ft (pc := 64) tb_Told_copyFrom 34 rfl) rfl ?_
  refine fg_aaldN (fg_ft (pc := 65) tb_Told_copyFrom 35 rfl) ly_103 (by decide) (fg_lt ly_103 (by decide)) (by omega) (rh_103_0 R) ?_
  refine fg_ifnull_r (fg_ft (pc := 66) tb_Told_copyFrom 36 rfl) ?_
  refine fg_aloadn (fg_ft (pc := 69) tb_Told_copyFrom 37 rfl) rfl ?_
  refine fg_getR (fg_ft (pc := 70) tb_Told_copyFrom 38 rfl) ff_Told_21 ly_178 rfl (fg_lt ly_178 (by decide)) (rh_178_6 R) ?_
  refine fg_iloadn (fg_ft (pc := 73) tb_Told_copyFrom 39 rfl) rfl ?_
  refine fg_aaldN (fg_ft (pc := 74) tb_Told_copyFrom 40 rfl) ly_180 (by decide) (fg_lt ly_180 (by decide)) (by omega) (rh_180_0 R) ?_
  refine fg_ifnull_r (fg_ft (pc := 75) tb_Told_copyFrom 41 rfl) ?_
  refine fg_aloadn (fg_ft (pc := 78) tb_Told_copyFrom 42 rfl) rfl ?_
  refine fg_getR (fg_ft (pc := 79) tb_Told_copyFrom 43 rfl) ff_Told_21 ly_101 rfl (fg_lt ly_101 (by decide)) (rh_101_6 R) ?_
  refine fg_iloadn (fg_ft (pc := 82) tb_Told_copyFrom 44 rfl) rfl ?_
  refine fg_aaldN (fg_ft (pc := 83) tb_Told_copyFrom 45 rfl) ly_103 (by decide) (fg_lt ly_103 (by decide)) (by omega) (rh_103_0 R) ?_
  refine fg_aloadn (fg_ft (pc := 84) tb_Told_copyFrom 46 rfl) rfl ?_
  refine fg_getR (fg_ft (pc := 85) tb_Told_copyFrom 47 rfl) ff_Told_21 ly_178 rfl (fg_lt ly_178 (by decide)) (rh_178_6 R) ?_
  refine fg_iloadn (fg_ft (pc := 88) tb_Told_copyFrom 48 rfl) rfl ?_
  refine fg_aaldN (fg_ft (pc := 89) tb_Told_copyFrom 49 rfl) ly_180 (by decide) (fg_lt ly_180 (by decide)) (by omega) (rh_180_0 R) ?_
  refine fg_callV (fg_ft (pc := 90) tb_Told_copyFrom 50 rfl) cf_Told_44 (fg_isOf ly_104 rfl (fg_lt ly_104 (by decide))) (as := [.ref 181]) (st := []) rfl rfl (Nat.le_of_ble_eq_true rfl) (Nat.le_refl _) (Nat.le_refl _) (ev_Town_copyFrom (t := 104) (t2 := 181) (by unfold fg_isT; decide) (by unfold fg_isT; decide) (by decide) ?_)
  intro μ0 ag0 tc0 wd0
  show fg_wp _ _ _ _ _ _ _ _ _ (μ0, fg_rho R, 304)
  refine fg_iincN (fg_ft (pc := 93) tb_Told_copyFrom 51 rfl) rfl ic_1 rfl ?_
  refine fg_goto (tgt := 42) (fg_ft (pc := 96) tb_Told_copyFrom 52 rfl) (by decide) ?_
  refine fg_iloadn (fg_ft (pc := 42) tb_Told_copyFrom 22 rfl) rfl ?_
  refine fg_aloadn (fg_ft (pc := 43) tb_Told_copyFrom 23 rfl) rfl ?_
  refine fg_getR (fg_ft (pc := 44) tb_Told_copyFrom 24 rfl) ff_Told_21 ly_101 rfl (fg_lt ly_101 (by decide)) (rh_101_6 R) ?_
  refine fg_alen (fg_ft (pc := 47) tb_Told_copyFrom 25 rfl) ly_103 (by decide) (fg_lt ly_103 (by decide)) ?_
  refine fg_icmp_geN (tgt := 99) (fg_ft (pc := 48) tb_Told_copyFrom 26 rfl) (by decide) (by decide) (by decide) (fun c48 => (absurd c48 (by decide))) (fun c48 => ?_)
  refine fg_iloadn (fg_ft (pc := 51) tb_Told_copyFrom 27 rfl) rfl ?_
  refine fg_aloadn (fg_ft (pc := 52) tb_Told_copyFrom 28 rfl) rfl ?_
  refine fg_getR (fg_ft (pc := 53) tb_Told_copyFrom 29 rfl) ff_Told_21 ly_178 rfl (fg_lt ly_178 (by decide)) (rh_178_6 R) ?_
  refine fg_alen (fg_ft (pc := 56) tb_Told_copyFrom 30 rfl) ly_180 (by decide) (fg_lt ly_180 (by decide)) ?_
  refine fg_icmp_geN (tgt := 99) (fg_ft (pc := 57) tb_Told_copyFrom 31 rfl) (by decide) (by decide) (by decide) (fun c57 => (absurd c57 (by decide))) (fun c57 => ?_)
  refine fg_aloadn (fg_ft (pc := 60) tb_Told_copyFrom 32 rfl) rfl ?_
  refine fg_getR (fg_ft (pc := 61) tb_Told_copyFrom 33 rfl) ff_Told_21 ly_101 rfl (fg_lt ly_101 (by decide)) (rh_101_6 R) ?_
  refine fg_iloadn (fg_ft (pc := 64) tb_Told_copyFrom 34 rfl) rfl ?_
  refine fg_aaldN (fg_ft (pc := 65) tb_Told_copyFrom 35 rfl) ly_103 (by decide) (fg_lt ly_103 (by decide)) (by omega) (rh_103_1 R) ?_
  refine fg_ifnull_r (fg_ft (pc := 66) tb_Told_copyFrom 36 rfl) ?_
  refine fg_aloadn (fg_ft (pc := 69) tb_Told_copyFrom 37 rfl) rfl ?_
  refine fg_getR (fg_ft (pc := 70) tb_Told_copyFrom 38 rfl) ff_Told_21 ly_178 rfl (fg_lt ly_178 (by decide)) (rh_178_6 R) ?_
  refine fg_iloadn (fg_ft (pc := 73) tb_Told_copyFrom 39 rfl) rfl ?_
  refine fg_aaldN (fg_ft (pc := 74) tb_Told_copyFrom 40 rfl) ly_180 (by decide) (fg_lt ly_180 (by decide)) (by omega) (rh_180_1 R) ?_
  refine fg_ifnull_r (fg_ft (pc := 75) tb_Told_copyFrom 41 rfl) ?_
  refine fg_aloadn (fg_ft (pc := 78) tb_Told_copyFrom 42 rfl) rfl ?_
  refine fg_getR (fg_ft (pc := 79) tb_Told_copyFrom 43 rfl) ff_Told_21 ly_101 rfl (fg_lt ly_101 (by decide)) (rh_101_6 R) ?_
  refine fg_iloadn (fg_ft (pc := 82) tb_Told_copyFrom 44 rfl) rfl ?_
  refine fg_aaldN (fg_ft (pc := 83) tb_Told_copyFrom 45 rfl) ly_103 (by decide) (fg_lt ly_103 (by decide)) (by omega) (rh_103_1 R) ?_
  refine fg_aloadn (fg_ft (pc := 84) tb_Told_copyFrom 46 rfl) rfl ?_
  refine fg_getR (fg_ft (pc := 85) tb_Told_copyFrom 47 rfl) ff_Told_21 ly_178 rfl (fg_lt ly_178 (by decide)) (rh_178_6 R) ?_
  refine fg_iloadn (fg_ft (pc := 88) tb_Told_copyFrom 48 rfl) rfl ?_
  refine fg_aaldN (fg_ft (pc := 89) tb_Told_copyFrom 49 rfl) ly_180 (by decide) (fg_lt ly_180 (by decide)) (by omega) (rh_180_1 R) ?_
  refine fg_callV (fg_ft (pc := 90) tb_Told_copyFrom 50 rfl) cf_Told_44 (fg_isOf ly_118 rfl (fg_lt ly_118 (by decide))) (as := [.ref 195]) (st := []) rfl rfl (Nat.le_of_ble_eq_true rfl) (Nat.le_refl _) (Nat.le_refl _) (ev_Town_copyFrom (t := 118) (t2 := 195) (by unfold fg_isT; decide) (by unfold fg_isT; decide) (by decide) ?_)
  intro μ1 ag1 tc1 wd1
  show fg_wp _ _ _ _ _ _ _ _ _ (μ1, fg_rho R, 304)
  refine fg_iincN (fg_ft (pc := 93) tb_Told_copyFrom 51 rfl) rfl ic_1 rfl ?_
  refine fg_goto (tgt := 42) (fg_ft (pc := 96) tb_Told_copyFrom 52 rfl) (by decide) ?_
  refine fg_iloadn (fg_ft (pc := 42) tb_Told_copyFrom 22 rfl) rfl ?_
  refine fg_aloadn (fg_ft (pc := 43) tb_Told_copyFrom 23 rfl) rfl ?_
  refine fg_getR (fg_ft (pc := 44) tb_Told_copyFrom 24 rfl) ff_Told_21 ly_101 rfl (fg_lt ly_101 (by decide)) (rh_101_6 R) ?_
  refine fg_alen (fg_ft (pc := 47) tb_Told_copyFrom 25 rfl) ly_103 (by decide) (fg_lt ly_103 (by decide)) ?_
  refine fg_icmp_geN (tgt := 99) (fg_ft (pc := 48) tb_Told_copyFrom 26 rfl) (by decide) (by decide) (by decide) (fun c48 => ?_) (fun c48 => (absurd c48 (by decide)))
  refine fg_iconst (fg_ft (pc := 99) tb_Told_copyFrom 53 rfl) ic_0 ?_
  refine fg_istoren (fg_ft (pc := 100) tb_Told_copyFrom 54 rfl) (Nat.le_of_ble_eq_true rfl) ?_
  refine fg_iloadn (fg_ft (pc := 101) tb_Told_copyFrom 55 rfl) rfl ?_
  refine fg_aloadn (fg_ft (pc := 102) tb_Told_copyFrom 56 rfl) rfl ?_
  refine fg_getR (fg_ft (pc := 103) tb_Told_copyFrom 57 rfl) ff_Told_28 ly_101 rfl (fg_lt ly_101 (by decide)) (rh_101_7 R) ?_
  refine fg_alen (fg_ft (pc := 106) tb_Told_copyFrom 58 rfl) ly_132 (by decide) (fg_lt ly_132 (by decide)) ?_
  refine fg_icmp_geN (tgt := 158) (fg_ft (pc := 107) tb_Told_copyFrom 59 rfl) (by decide) (by decide) (by decide) (fun c107 => (absurd c107 (by decide))) (fun c107 => ?_)
  refine fg_iloadn (fg_ft (pc := 110) tb_Told_copyFrom 60 rfl) rfl ?_
  refine fg_aloadn (fg_ft (pc := 111) tb_Told_copyFrom 61 rfl) rfl ?_
  refine fg_getR (fg_ft (pc := 112) tb_Told_copyFrom 62 rfl) ff_Told_28 ly_178 rfl (fg_lt ly_178 (by decide)) (rh_178_7 R) ?_
  refine fg_alen (fg_ft (pc := 115) tb_Told_copyFrom 63 rfl) ly_209 (by decide) (fg_lt ly_209 (by decide)) ?_
  refine fg_icmp_geN (tgt := 158) (fg_ft (pc := 116) tb_Told_copyFrom 64 rfl) (by decide) (by decide) (by decide) (fun c116 => (absurd c116 (by decide))) (fun c116 => ?_)
  refine fg_aloadn (fg_ft (pc := 119) tb_Told_copyFrom 65 rfl) rfl ?_
  refine fg_getR (fg_ft (pc := 120) tb_Told_copyFrom 66 rfl) ff_Told_28 ly_101 rfl (fg_lt ly_101 (by decide)) (rh_101_7 R) ?_
  refine fg_iloadn (fg_ft (pc := 123) tb_Told_copyFrom 67 rfl) rfl ?_
  refine fg_aaldN (fg_ft (pc := 124) tb_Told_copyFrom 68 rfl) ly_132 (by decide) (fg_lt ly_132 (by decide)) (by omega) (rh_132_0 R) ?_
  refine fg_ifnull_r (fg_ft (pc := 125) tb_Told_copyFrom 69 rfl) ?_
  refine fg_aloadn (fg_ft (pc := 128) tb_Told_copyFrom 70 rfl) rfl ?_
  refine fg_getR (fg_ft (pc := 129) tb_Told_copyFrom 71 rfl) ff_Told_28 ly_178 rfl (fg_lt ly_178 (by decide)) (rh_178_7 R) ?_
  refine fg_iloadn (fg_ft (pc := 132) tb_Told_copyFrom 72 rfl) rfl ?_
  refine fg_aaldN (fg_ft (pc := 133) tb_Told_copyFrom 73 rfl) ly_209 (by decide) (fg_lt ly_209 (by decide)) (by omega) (rh_209_0 R) ?_
  refine fg_ifnull_r (fg_ft (pc := 134) tb_Told_copyFrom 74 rfl) ?_
  refine fg_aloadn (fg_ft (pc := 137) tb_Told_copyFrom 75 rfl) rfl ?_
  refine fg_getR (fg_ft (pc := 138) tb_Told_copyFrom 76 rfl) ff_Told_28 ly_101 rfl (fg_lt ly_101 (by decide)) (rh_101_7 R) ?_
  refine fg_iloadn (fg_ft (pc := 141) tb_Told_copyFrom 77 rfl) rfl ?_
  refine fg_aaldN (fg_ft (pc := 142) tb_Told_copyFrom 78 rfl) ly_132 (by decide) (fg_lt ly_132 (by decide)) (by omega) (rh_132_0 R) ?_
  refine fg_aloadn (fg_ft (pc := 143) tb_Told_copyFrom 79 rfl) rfl ?_
  refine fg_getR (fg_ft (pc := 144) tb_Told_copyFrom 80 rfl) ff_Told_28 ly_178 rfl (fg_lt ly_178 (by decide)) (rh_178_7 R) ?_
  refine fg_iloadn (fg_ft (pc := 147) tb_Told_copyFrom 81 rfl) rfl ?_
  refine fg_aaldN (fg_ft (pc := 148) tb_Told_copyFrom 82 rfl) ly_209 (by decide) (fg_lt ly_209 (by decide)) (by omega) (rh_209_0 R) ?_
  refine fg_callV (fg_ft (pc := 149) tb_Told_copyFrom 83 rfl) cf_Told_54 (fg_isOf ly_133 rfl (fg_lt ly_133 (by decide))) (as := [.ref 210]) (st := []) rfl rfl (Nat.le_of_ble_eq_true rfl) (Nat.le_refl _) (Nat.le_refl _) (ev_Rows_copyFromA (r := 133) (c := 134) (n := 120) (o := 210) (co := 211) ⟨ly_133, rfl, ly_134⟩ ⟨ly_210, rfl, ly_211⟩ (by decide) (by decide) ?_)
  intro ν0 ah0 rd0
  show fg_wp _ _ _ _ _ _ _ _ _ (ν0, fg_rho R, 304)
  refine fg_iincN (fg_ft (pc := 152) tb_Told_copyFrom 84 rfl) rfl ic_1 rfl ?_
  refine fg_goto (tgt := 101) (fg_ft (pc := 155) tb_Told_copyFrom 85 rfl) (by decide) ?_
  refine fg_iloadn (fg_ft (pc := 101) tb_Told_copyFrom 55 rfl) rfl ?_
  refine fg_aloadn (fg_ft (pc := 102) tb_Told_copyFrom 56 rfl) rfl ?_
  refine fg_getR (fg_ft (pc := 103) tb_Told_copyFrom 57 rfl) ff_Told_28 ly_101 rfl (fg_lt ly_101 (by decide)) (rh_101_7 R) ?_
  refine fg_alen (fg_ft (pc := 106) tb_Told_copyFrom 58 rfl) ly_132 (by decide) (fg_lt ly_132 (by decide)) ?_
  refine fg_icmp_geN (tgt := 158) (fg_ft (pc := 107) tb_Told_copyFrom 59 rfl) (by decide) (by decide) (by decide) (fun c107 => (absurd c107 (by decide))) (fun c107 => ?_)
  refine fg_iloadn (fg_ft (pc := 110) tb_Told_copyFrom 60 rfl) rfl ?_
  refine fg_aloadn (fg_ft (pc := 111) tb_Told_copyFrom 61 rfl) rfl ?_
  refine fg_getR (fg_ft (pc := 112) tb_Told_copyFrom 62 rfl) ff_Told_28 ly_178 rfl (fg_lt ly_178 (by decide)) (rh_178_7 R) ?_
  refine fg_alen (fg_ft (pc := 115) tb_Told_copyFrom 63 rfl) ly_209 (by decide) (fg_lt ly_209 (by decide)) ?_
  refine fg_icmp_geN (tgt := 158) (fg_ft (pc := 116) tb_Told_copyFrom 64 rfl) (by decide) (by decide) (by decide) (fun c116 => (absurd c116 (by decide))) (fun c116 => ?_)
  refine fg_aloadn (fg_ft (pc := 119) tb_Told_copyFrom 65 rfl) rfl ?_
  refine fg_getR (fg_ft (pc := 120) tb_Told_copyFrom 66 rfl) ff_Told_28 ly_101 rfl (fg_lt ly_101 (by decide)) (rh_101_7 R) ?_
  refine fg_iloadn (fg_ft (pc := 123) tb_Told_copyFrom 67 rfl) rfl ?_
  refine fg_aaldN (fg_ft (pc := 124) tb_Told_copyFrom 68 rfl) ly_132 (by decide) (fg_lt ly_132 (by decide)) (by omega) (rh_132_1 R) ?_
  refine fg_ifnull_r (fg_ft (pc := 125) tb_Told_copyFrom 69 rfl) ?_
  refine fg_aloadn (fg_ft (pc := 128) tb_Told_copyFrom 70 rfl) rfl ?_
  refine fg_getR (fg_ft (pc := 129) tb_Told_copyFrom 71 rfl) ff_Told_28 ly_178 rfl (fg_lt ly_178 (by decide)) (rh_178_7 R) ?_
  refine fg_iloadn (fg_ft (pc := 132) tb_Told_copyFrom 72 rfl) rfl ?_
  refine fg_aaldN (fg_ft (pc := 133) tb_Told_copyFrom 73 rfl) ly_209 (by decide) (fg_lt ly_209 (by decide)) (by omega) (rh_209_1 R) ?_
  refine fg_ifnull_r (fg_ft (pc := 134) tb_Told_copyFrom 74 rfl) ?_
  refine fg_aloadn (fg_ft (pc := 137) tb_Told_copyFrom 75 rfl) rfl ?_
  refine fg_getR (fg_ft (pc := 138) tb_Told_copyFrom 76 rfl) ff_Told_28 ly_101 rfl (fg_lt ly_101 (by decide)) (rh_101_7 R) ?_
  refine fg_iloadn (fg_ft (pc := 141) tb_Told_copyFrom 77 rfl) rfl ?_
  refine fg_aaldN (fg_ft (pc := 142) tb_Told_copyFrom 78 rfl) ly_132 (by decide) (fg_lt ly_132 (by decide)) (by omega) (rh_132_1 R) ?_
  refine fg_aloadn (fg_ft (pc := 143) tb_Told_copyFrom 79 rfl) rfl ?_
  refine fg_getR (fg_ft (pc := 144) tb_Told_copyFrom 80 rfl) ff_Told_28 ly_178 rfl (fg_lt ly_178 (by decide)) (rh_178_7 R) ?_
  refine fg_iloadn (fg_ft (pc := 147) tb_Told_copyFrom 81 rfl) rfl ?_
  refine fg_aaldN (fg_ft (pc := 148) tb_Told_copyFrom 82 rfl) ly_209 (by decide) (fg_lt ly_209 (by decide)) (by omega) (rh_209_1 R) ?_
  refine fg_callV (fg_ft (pc := 149) tb_Told_copyFrom 83 rfl) cf_Told_54 (fg_isOf ly_135 rfl (fg_lt ly_135 (by decide))) (as := [.ref 212]) (st := []) rfl rfl (Nat.le_of_ble_eq_true rfl) (Nat.le_refl _) (Nat.le_refl _) (ev_Rows_copyFromA (r := 135) (c := 136) (n := 120) (o := 212) (co := 213) ⟨ly_135, rfl, ly_136⟩ ⟨ly_212, rfl, ly_213⟩ (by decide) (by decide) ?_)
  intro ν1 ah1 rd1
  show fg_wp _ _ _ _ _ _ _ _ _ (ν1, fg_rho R, 304)
  refine fg_iincN (fg_ft (pc := 152) tb_Told_copyFrom 84 rfl) rfl ic_1 rfl ?_
  refine fg_goto (tgt := 101) (fg_ft (pc := 155) tb_Told_copyFrom 85 rfl) (by decide) ?_
  refine fg_iloadn (fg_ft (pc := 101) tb_Told_copyFrom 55 rfl) rfl ?_
  refine fg_aloadn (fg_ft (pc := 102) tb_Told_copyFrom 56 rfl) rfl ?_
  refine fg_getR (fg_ft (pc := 103) tb_Told_copyFrom 57 rfl) ff_Told_28 ly_101 rfl (fg_lt ly_101 (by decide)) (rh_101_7 R) ?_
  refine fg_alen (fg_ft (pc := 106) tb_Told_copyFrom 58 rfl) ly_132 (by decide) (fg_lt ly_132 (by decide)) ?_
  refine fg_icmp_geN (tgt := 158) (fg_ft (pc := 107) tb_Told_copyFrom 59 rfl) (by decide) (by decide) (by decide) (fun c107 => (absurd c107 (by decide))) (fun c107 => ?_)
  refine fg_iloadn (fg_ft (pc := 110) tb_Told_copyFrom 60 rfl) rfl ?_
  refine fg_aloadn (fg_ft (pc := 111) tb_Told_copyFrom 61 rfl) rfl ?_
  refine fg_getR (fg_ft (pc := 112) tb_Told_copyFrom 62 rfl) ff_Told_28 ly_178 rfl (fg_lt ly_178 (by decide)) (rh_178_7 R) ?_
  refine fg_alen (fg_ft (pc := 115) tb_Told_copyFrom 63 rfl) ly_209 (by decide) (fg_lt ly_209 (by decide)) ?_
  refine fg_icmp_geN (tgt := 158) (fg_ft (pc := 116) tb_Told_copyFrom 64 rfl) (by decide) (by decide) (by decide) (fun c116 => (absurd c116 (by decide))) (fun c116 => ?_)
  refine fg_aloadn (fg_ft (pc := 119) tb_Told_copyFrom 65 rfl) rfl ?_
  refine fg_getR (fg_ft (pc := 120) tb_Told_copyFrom 66 rfl) ff_Told_28 ly_101 rfl (fg_lt ly_101 (by decide)) (rh_101_7 R) ?_
  refine fg_iloadn (fg_ft (pc := 123) tb_Told_copyFrom 67 rfl) rfl ?_
  refine fg_aaldN (fg_ft (pc := 124) tb_Told_copyFrom 68 rfl) ly_132 (by decide) (fg_lt ly_132 (by decide)) (by omega) (rh_132_2 R) ?_
  refine fg_ifnull_r (fg_ft (pc := 125) tb_Told_copyFrom 69 rfl) ?_
  refine fg_aloadn (fg_ft (pc := 128) tb_Told_copyFrom 70 rfl) rfl ?_
  refine fg_getR (fg_ft (pc := 129) tb_Told_copyFrom 71 rfl) ff_Told_28 ly_178 rfl (fg_lt ly_178 (by decide)) (rh_178_7 R) ?_
  refine fg_iloadn (fg_ft (pc := 132) tb_Told_copyFrom 72 rfl) rfl ?_
  refine fg_aaldN (fg_ft (pc := 133) tb_Told_copyFrom 73 rfl) ly_209 (by decide) (fg_lt ly_209 (by decide)) (by omega) (rh_209_2 R) ?_
  refine fg_ifnull_r (fg_ft (pc := 134) tb_Told_copyFrom 74 rfl) ?_
  refine fg_aloadn (fg_ft (pc := 137) tb_Told_copyFrom 75 rfl) rfl ?_
  refine fg_getR (fg_ft (pc := 138) tb_Told_copyFrom 76 rfl) ff_Told_28 ly_101 rfl (fg_lt ly_101 (by decide)) (rh_101_7 R) ?_
  refine fg_iloadn (fg_ft (pc := 141) tb_Told_copyFrom 77 rfl) rfl ?_
  refine fg_aaldN (fg_ft (pc := 142) tb_Told_copyFrom 78 rfl) ly_132 (by decide) (fg_lt ly_132 (by decide)) (by omega) (rh_132_2 R) ?_
  refine fg_aloadn (fg_ft (pc := 143) tb_Told_copyFrom 79 rfl) rfl ?_
  refine fg_getR (fg_ft (pc := 144) tb_Told_copyFrom 80 rfl) ff_Told_28 ly_178 rfl (fg_lt ly_178 (by decide)) (rh_178_7 R) ?_
  refine fg_iloadn (fg_ft (pc := 147) tb_Told_copyFrom 81 rfl) rfl ?_
  refine fg_aaldN (fg_ft (pc := 148) tb_Told_copyFrom 82 rfl) ly_209 (by decide) (fg_lt ly_209 (by decide)) (by omega) (rh_209_2 R) ?_
  refine fg_callV (fg_ft (pc := 149) tb_Told_copyFrom 83 rfl) cf_Told_54 (fg_isOf ly_137 rfl (fg_lt ly_137 (by decide))) (as := [.ref 214]) (st := []) rfl rfl (Nat.le_of_ble_eq_true rfl) (Nat.le_refl _) (Nat.le_refl _) (ev_Rows_copyFromA (r := 137) (c := 138) (n := 120) (o := 214) (co := 215) ⟨ly_137, rfl, ly_138⟩ ⟨ly_214, rfl, ly_215⟩ (by decide) (by decide) ?_)
  intro ν2 ah2 rd2
  show fg_wp _ _ _ _ _ _ _ _ _ (ν2, fg_rho R, 304)
  refine fg_iincN (fg_ft (pc := 152) tb_Told_copyFrom 84 rfl) rfl ic_1 rfl ?_
  refine fg_goto (tgt := 101) (fg_ft (pc := 155) tb_Told_copyFrom 85 rfl) (by decide) ?_
  refine fg_iloadn (fg_ft (pc := 101) tb_Told_copyFrom 55 rfl) rfl ?_
  refine fg_aloadn (fg_ft (pc := 102) tb_Told_copyFrom 56 rfl) rfl ?_
  refine fg_getR (fg_ft (pc := 103) tb_Told_copyFrom 57 rfl) ff_Told_28 ly_101 rfl (fg_lt ly_101 (by decide)) (rh_101_7 R) ?_
  refine fg_alen (fg_ft (pc := 106) tb_Told_copyFrom 58 rfl) ly_132 (by decide) (fg_lt ly_132 (by decide)) ?_
  refine fg_icmp_geN (tgt := 158) (fg_ft (pc := 107) tb_Told_copyFrom 59 rfl) (by decide) (by decide) (by decide) (fun c107 => ?_) (fun c107 => (absurd c107 (by decide)))
  refine fg_aloadn (fg_ft (pc := 158) tb_Told_copyFrom 86 rfl) rfl ?_
  refine fg_aloadn (fg_ft (pc := 159) tb_Told_copyFrom 87 rfl) rfl ?_
  refine fg_getI (fg_ft (pc := 160) tb_Told_copyFrom 88 rfl) ff_Told_38 ly_178 rfl (fg_lt ly_178 (by decide)) ?_
  refine fg_putI (fg_ft (pc := 163) tb_Told_copyFrom 89 rfl) ff_Told_38 ly_101 rfl (fg_lt ly_101 (by decide)) (fg_nokI _) (fun _ _ h => by cases h; rfl) ?_
  show fg_wp _ _ _ _ _ _ _ _ _ (fg_u2 ν2 101 4 (ν2 178 4), fg_rho R, 304)
  refine fg_aloadn (fg_ft (pc := 166) tb_Told_copyFrom 90 rfl) rfl ?_
  refine fg_aloadn (fg_ft (pc := 167) tb_Told_copyFrom 91 rfl) rfl ?_
  refine fg_getI (fg_ft (pc := 168) tb_Told_copyFrom 92 rfl) ff_Told_41 ly_178 rfl (fg_lt ly_178 (by decide)) ?_
  refine fg_putI (fg_ft (pc := 171) tb_Told_copyFrom 93 rfl) ff_Told_41 ly_101 rfl (fg_lt ly_101 (by decide)) (fg_nokI _) (fun _ _ h => by cases h; rfl) ?_
  show fg_wp _ _ _ _ _ _ _ _ _ (fg_u2 (fg_u2 ν2 101 4 (ν2 178 4)) 101 5 ((fg_u2 ν2 101 4 (ν2 178 4)) 178 5), fg_rho R, 304)
  exact fg_vret (fg_ft (pc := 174) tb_Told_copyFrom 94 rfl) rfl rfl (by
  have c5 : ∀ a, a ≠ 101 → ∀ j, (fg_u2 (fg_u2 ν2 101 4 (ν2 178 4)) 101 5 ((fg_u2 ν2 101 4 (ν2 178 4)) 178 5)) a j = ν2 a j := fun a ha j => (fg_u2ne ha).trans (fg_u2ne ha)
  have cv : ∀ a, (a < 133 ∨ 139 ≤ a) → ∀ j, ν2 a j = μ1 a j := fun a ha j => (ah2 a j (by omega) (by omega)).trans ((ah1 a j (by omega) (by omega)).trans (ah0 a j (by omega) (by omega)))
  have c1 : ∀ a, (a < 118 ∨ 132 ≤ a) → ∀ j, μ1 a j = μ0 a j := fun a ha j => ag1 a (by omega) j
  have c0 : ∀ a, (a < 104 ∨ 118 ≤ a) → ∀ j, μ0 a j = m0 a j := fun a ha j => ag0 a (by omega) j
  have cm : ∀ a, (a < 104 ∨ 139 ≤ a) → ∀ j, ν2 a j = m0 a j := fun a ha j => (cv a (by omega) j).trans ((c1 a (by omega) j).trans (c0 a (by omega) j))
  refine hQ _ ⟨fun j h1 h5 => ?_, fun j hj => (c5 _ (by decide) _).trans ((cm _ (by decide) _).trans (e1 j hj)), fun i hi => ?_, fun i hi => ?_, fun a ha j => (c5 a (by omega) j).trans ((cm a (by omega) j).trans (e0 a (by omega) (by omega) j))⟩
  · rcases (show j = 1 ∨ j = 2 ∨ j = 3 ∨ j = 4 ∨ j = 5 by omega) with rfl | rfl | rfl | rfl | rfl
    · exact (fg_u2ns (by decide)).trans ((fg_u2ns (by decide)).trans ((cm _ (by decide) _).trans s1))
    · exact (fg_u2ns (by decide)).trans ((fg_u2ns (by decide)).trans ((cm _ (by decide) _).trans s2))
    · exact (fg_u2ns (by decide)).trans ((fg_u2ns (by decide)).trans ((cm _ (by decide) _).trans s3))
    · exact (fg_u2ns (by decide)).trans (fg_u2eq.trans ((cm _ (by decide) _).trans (e0 _ (by decide) (by decide) _)))
    · exact fg_u2eq.trans ((fg_u2ne (by decide)).trans ((cm _ (by decide) _).trans (e0 _ (by decide) (by decide) _)))
  · rcases (show i = 0 ∨ i = 1 by omega) with rfl | rfl
    · have hk : ∀ a, 104 ≤ a → a < 118 → ∀ j, (fg_u2 (fg_u2 ν2 101 4 (ν2 178 4)) 101 5 ((fg_u2 ν2 101 4 (ν2 178 4)) 178 5)) a j = μ0 a j := fun a h1 h2 j => (c5 a (by omega) j).trans ((cv a (by omega) j).trans (c1 a (by omega) j))
      exact ⟨fg_TC.fr (t := 104) (t2 := 181) tc0 (fun a h1 h2 j => e0 a (by omega) (by omega) j) hk, fun hw => fg_wdT.fr (t := 104) (wd0 (fg_wdT.fr (t := 104) hw (fun a h1 h2 j => e0 a (by omega) (by omega) j))) hk⟩
    · have hk : ∀ a, 118 ≤ a → a < 132 → ∀ j, (fg_u2 (fg_u2 ν2 101 4 (ν2 178 4)) 101 5 ((fg_u2 ν2 101 4 (ν2 178 4)) 178 5)) a j = μ1 a j := fun a h1 h2 j => (c5 a (by omega) j).trans (cv a (by omega) j)
      exact ⟨fg_TC.fr (t := 118) (t2 := 195) tc1 (fun a h1 h2 j => (c0 a (by omega) j).trans (e0 a (by omega) (by omega) j)) hk, fun hw => fg_wdT.fr (t := 118) (wd1 (fg_wdT.fr (t := 118) hw (fun a h1 h2 j => (c0 a (by omega) j).trans (e0 a (by omega) (by omega) j)))) hk⟩
  · have co : ∀ a, (a < 101 ∨ 132 ≤ a) → ∀ j, μ1 a j = μ a j := fun a ha j => (c1 a (by omega) j).trans ((c0 a (by omega) j).trans (e0 a (by omega) (by omega) j))
    rcases (show i = 0 ∨ i = 1 ∨ i = 2 by omega) with rfl | rfl | rfl
    · exact ⟨(((c5 133 (by decide) 0).trans (ah2 133 0 (by decide) (by decide))).trans (ah1 133 0 (by decide) (by decide))).trans (rd0.1.trans (co 133 (by decide) 0)), (((c5 133 (by decide) 2).trans (ah2 133 2 (by decide) (by decide))).trans (ah1 133 2 (by decide) (by decide))).trans (rd0.2.1.trans (co 210 (by decide) 2)), fun j hj => (((c5 134 (by decide) j).trans (ah2 134 j (by decide) (by decide))).trans (ah1 134 j (by decide) (by decide))).trans ((rd0.2.2 j hj).trans (co 211 (by decide) j))⟩
    · exact ⟨((c5 135 (by decide) 0).trans (ah2 135 0 (by decide) (by decide))).trans (rd1.1.trans ((ah0 135 0 (by decide) (by decide)).trans (co 135 (by decide) 0))), ((c5 135 (by decide) 2).trans (ah2 135 2 (by decide) (by decide))).trans (rd1.2.1.trans ((ah0 212 2 (by decide) (by decide)).trans (co 212 (by decide) 2))), fun j hj => ((c5 136 (by decide) j).trans (ah2 136 j (by decide) (by decide))).trans ((rd1.2.2 j hj).trans ((ah0 213 j (by decide) (by decide)).trans (co 213 (by decide) j)))⟩
    · exact ⟨(c5 137 (by decide) 0).trans (rd2.1.trans ((ah1 137 0 (by decide) (by decide)).trans ((ah0 137 0 (by decide) (by decide)).trans (co 137 (by decide) 0)))), (c5 137 (by decide) 2).trans (rd2.2.1.trans ((ah1 214 2 (by decide) (by decide)).trans ((ah0 214 2 (by decide) (by decide)).trans (co 214 (by decide) 2)))), fun j hj => (c5 138 (by decide) j).trans ((rd2.2.2 j hj).trans ((ah1 215 j (by decide) (by decide)).trans ((ah0 215 j (by decide) (by decide)).trans (co 215 (by decide) j))))⟩)
theorem ev_Told_copy_178_101 {E : fg_E} {d : Nat} {μ : Nat → Nat → Int32} {R : fg_T4} {Q : Option Value → fg_M → Prop} (hfit : ∀ i, i < 600 → fits (fg_aty (11 - 10)) (.int (μ 102 i)) = true) (hQ : ∀ μ' : Nat → Nat → Int32, fg_KC μ 101 μ' 178 → Q none (μ', fg_rho R, 304)) : fg_Ev E yy_Told_copyFrom (d + 3) [.ref 178, .ref 101] (μ, fg_rho R, 304) 304 Q := by
  refine fg_intro (by decide +kernel) (Nat.le_of_ble_eq_true rfl) (fg_okAs rfl) (Nat.le_refl _) ?_
  refine fg_aloadn (fg_ft (pc := 0) tb_Told_copyFrom 0 rfl) rfl ?_
  refine fg_getR (fg_ft (pc := 1) tb_Told_copyFrom 1 rfl) ff_Told_9 ly_101 rfl (fg_lt ly_101 (by decide)) (rh_101_0 R) ?_
  refine fg_iconst (fg_ft (pc := 4) tb_Told_copyFrom 2 rfl) ic_0 ?_
  refine fg_aloadn (fg_ft (pc := 5) tb_Told_copyFrom 3 rfl) rfl ?_
  refine fg_getR (fg_ft (pc := 6) tb_Told_copyFrom 4 rfl) ff_Told_9 ly_178 rfl (fg_lt ly_178 (by decide)) (rh_178_0 R) ?_
  refine fg_iconst (fg_ft (pc := 9) tb_Told_copyFrom 5 rfl) ic_0 ?_
  refine fg_sipush (fg_ft (pc := 10) tb_Told_copyFrom 6 rfl) is_600 ?_
  refine fg_copy (fg_ft (pc := 13) tb_Told_copyFrom 7 rfl) fy_Told_57 fy_native fy_static fy_init (Or.inr rfl) ly_102 ly_179 (fg_lt ly_102 (by decide)) (fg_lt ly_179 (by decide)) rfl rfl rfl (by omega) (by omega) (hfit) (Nat.le_of_ble_eq_true rfl) ?_
  show fg_wp _ _ _ _ _ _ _ _ _ (fg_cp1 μ 102 179 600, fg_rho R, 304)
  refine fg_aloadn (fg_ft (pc := 16) tb_Told_copyFrom 8 rfl) rfl ?_
  refine fg_aloadn (fg_ft (pc := 17) tb_Told_copyFrom 9 rfl) rfl ?_
  refine fg_getI (fg_ft (pc := 18) tb_Told_copyFrom 10 rfl) ff_Told_35 ly_101 rfl (fg_lt ly_101 (by decide)) ?_
  refine fg_putI (fg_ft (pc := 21) tb_Told_copyFrom 11 rfl) ff_Told_35 ly_178 rfl (fg_lt ly_178 (by decide)) (fg_nokI _) (fun _ _ h => by cases h; rfl) ?_
  show fg_wp _ _ _ _ _ _ _ _ _ (fg_u2 (fg_cp1 μ 102 179 600) 178 1 ((fg_cp1 μ 102 179 600) 101 1), fg_rho R, 304)
  refine fg_aloadn (fg_ft (pc := 24) tb_Told_copyFrom 12 rfl) rfl ?_
  refine fg_aloadn (fg_ft (pc := 25) tb_Told_copyFrom 13 rfl) rfl ?_
  refine fg_getI (fg_ft (pc := 26) tb_Told_copyFrom 14 rfl) ff_Told_63 ly_101 rfl (fg_lt ly_101 (by decide)) ?_
  refine fg_putI (fg_ft (pc := 29) tb_Told_copyFrom 15 rfl) ff_Told_63 ly_178 rfl (fg_lt ly_178 (by decide)) (fg_nokI _) (fun _ _ h => by cases h; rfl) ?_
  show fg_wp _ _ _ _ _ _ _ _ _ (fg_u2 (fg_u2 (fg_cp1 μ 102 179 600) 178 1 ((fg_cp1 μ 102 179 600) 101 1)) 178 2 ((fg_u2 (fg_cp1 μ 102 179 600) 178 1 ((fg_cp1 μ 102 179 600) 101 1)) 101 2), fg_rho R, 304)
  refine fg_aloadn (fg_ft (pc := 32) tb_Told_copyFrom 16 rfl) rfl ?_
  refine fg_aloadn (fg_ft (pc := 33) tb_Told_copyFrom 17 rfl) rfl ?_
  refine fg_getI (fg_ft (pc := 34) tb_Told_copyFrom 18 rfl) ff_Told_15 ly_101 rfl (fg_lt ly_101 (by decide)) ?_
  refine fg_putI (fg_ft (pc := 37) tb_Told_copyFrom 19 rfl) ff_Told_15 ly_178 rfl (fg_lt ly_178 (by decide)) (fg_nokI _) (fun _ _ h => by cases h; rfl) ?_
  show fg_wp _ _ _ _ _ _ _ _ _ (fg_u2 (fg_u2 (fg_u2 (fg_cp1 μ 102 179 600) 178 1 ((fg_cp1 μ 102 179 600) 101 1)) 178 2 ((fg_u2 (fg_cp1 μ 102 179 600) 178 1 ((fg_cp1 μ 102 179 600) 101 1)) 101 2)) 178 3 ((fg_u2 (fg_u2 (fg_cp1 μ 102 179 600) 178 1 ((fg_cp1 μ 102 179 600) 101 1)) 178 2 ((fg_u2 (fg_cp1 μ 102 179 600) 178 1 ((fg_cp1 μ 102 179 600) 101 1)) 101 2)) 101 3), fg_rho R, 304)
  obtain ⟨m0, hm0⟩ : ∃ m0, m0 = fg_u2 (fg_u2 (fg_u2 (fg_cp1 μ 102 179 600) 178 1 ((fg_cp1 μ 102 179 600) 101 1)) 178 2 ((fg_u2 (fg_cp1 μ 102 179 600) 178 1 ((fg_cp1 μ 102 179 600) 101 1)) 101 2)) 178 3 ((fg_u2 (fg_u2 (fg_cp1 μ 102 179 600) 178 1 ((fg_cp1 μ 102 179 600) 101 1)) 178 2 ((fg_u2 (fg_cp1 μ 102 179 600) 178 1 ((fg_cp1 μ 102 179 600) 101 1)) 101 2)) 101 3) := ⟨_, rfl⟩
  rw [← hm0]
  have e0 : ∀ a, a ≠ 178 → a ≠ 179 → ∀ j, m0 a j = μ a j := fun a a1 a2 j => by rw [hm0]; exact (fg_u2ne a1).trans ((fg_u2ne a1).trans ((fg_u2ne a1).trans (fg_cp1_ne a2)))
  have e1 : ∀ j, j < 600 → m0 179 j = μ 102 j := fun j hj => by rw [hm0]; exact (fg_u2ne (by decide)).trans ((fg_u2ne (by decide)).trans ((fg_u2ne (by decide)).trans (fg_cp1_lt hj)))
  have s1 : m0 178 1 = μ 101 1 := by rw [hm0]; exact (fg_u2ns (by decide)).trans ((fg_u2ns (by decide)).trans (fg_u2eq.trans (fg_cp1_ne (by decide))))
  have s2 : m0 178 2 = μ 101 2 := by rw [hm0]; exact (fg_u2ns (by decide)).trans (fg_u2eq.trans ((fg_u2ne (by decide)).trans (fg_cp1_ne (by decide))))
  have s3 : m0 178 3 = μ 101 3 := by rw [hm0]; exact fg_u2eq.trans ((fg_u2ne (by decide)).trans ((fg_u2ne (by decide)).trans (fg_cp1_ne (by decide))))
  refine fg_iconst (fg_ft (pc := 40) tb_Told_copyFrom 20 rfl) ic_0 ?_
  refine fg_istoren (fg_ft (pc := 41) tb_Told_copyFrom 21 rfl) (Nat.le_of_ble_eq_true rfl) ?_
  refine fg_iloadn (fg_ft (pc := 42) tb_Told_copyFrom 22 rfl) rfl ?_
  refine fg_aloadn (fg_ft (pc := 43) tb_Told_copyFrom 23 rfl) rfl ?_
  refine fg_getR (fg_ft (pc := 44) tb_Told_copyFrom 24 rfl) ff_Told_21 ly_178 rfl (fg_lt ly_178 (by decide)) (rh_178_6 R) ?_
  refine fg_alen (fg_ft (pc := 47) tb_Told_copyFrom 25 rfl) ly_180 (by decide) (fg_lt ly_180 (by decide)) ?_
  refine fg_icmp_geN (tgt := 99) (fg_ft (pc := 48) tb_Told_copyFrom 26 rfl) (by decide) (by decide) (by decide) (fun c48 => (absurd c48 (by decide))) (fun c48 => ?_)
  refine fg_iloadn (fg_ft (pc := 51) tb_Told_copyFrom 27 rfl) rfl ?_
  refine fg_aloadn (fg_ft (pc := 52) tb_Told_copyFrom 28 rfl) rfl ?_
  refine fg_getR (fg_ft (pc := 53) tb_Told_copyFrom 29 rfl) ff_Told_21 ly_101 rfl (fg_lt ly_101 (by decide)) (rh_101_6 R) ?_
  refine fg_alen (fg_ft (pc := 56) tb_Told_copyFrom 30 rfl) ly_103 (by decide) (fg_lt ly_103 (by decide)) ?_
  refine fg_icmp_geN (tgt := 99) (fg_ft (pc := 57) tb_Told_copyFrom 31 rfl) (by decide) (by decide) (by decide) (fun c57 => (absurd c57 (by decide))) (fun c57 => ?_)
  refine fg_aloadn (fg_ft (pc := 60) tb_Told_copyFrom 32 rfl) rfl ?_
  refine fg_getR (fg_ft (pc := 61) tb_Told_copyFrom 33 rfl) ff_Told_21 ly_178 rfl (fg_lt ly_178 (by decide)) (rh_178_6 R) ?_
  refine fg_iloadn (fg_ft (pc := 64) tb_Told_copyFrom 34 rfl) rfl ?_
  refine fg_aaldN (fg_ft (pc := 65) tb_Told_copyFrom 35 rfl) ly_180 (by decide) (fg_lt ly_180 (by decide)) (by omega) (rh_180_0 R) ?_
  refine fg_ifnull_r (fg_ft (pc := 66) tb_Told_copyFrom 36 rfl) ?_
  refine fg_aloadn (fg_ft (pc := 69) tb_Told_copyFrom 37 rfl) rfl ?_
  refine fg_getR (fg_ft (pc := 70) tb_Told_copyFrom 38 rfl) ff_Told_21 ly_101 rfl (fg_lt ly_101 (by decide)) (rh_101_6 R) ?_
  refine fg_iloadn (fg_ft (pc := 73) tb_Told_copyFrom 39 rfl) rfl ?_
  refine fg_aaldN (fg_ft (pc := 74) tb_Told_copyFrom 40 rfl) ly_103 (by decide) (fg_lt ly_103 (by decide)) (by omega) (rh_103_0 R) ?_
  refine fg_ifnull_r (fg_ft (pc := 75) tb_Told_copyFrom 41 rfl) ?_
  refine fg_aloadn (fg_ft (pc := 78) tb_Told_copyFrom 42 rfl) rfl ?_
  refine fg_getR (fg_ft (pc := 79) tb_Told_copyFrom 43 rfl) ff_Told_21 ly_178 rfl (fg_lt ly_178 (by decide)) (rh_178_6 R) ?_
  refine fg_iloadn (fg_ft (pc := 82) tb_Told_copyFrom 44 rfl) rfl ?_
  refine fg_aaldN (fg_ft (pc := 83) tb_Told_copyFrom 45 rfl) ly_180 (by decide) (fg_lt ly_180 (by decide)) (by omega) (rh_180_0 R) ?_
  refine fg_aloadn (fg_ft (pc := 84) tb_Told_copyFrom 46 rfl) rfl ?_
  refine fg_getR (fg_ft (pc := 85) tb_Told_copyFrom 47 rfl) ff_Told_21 ly_101 rfl (fg_lt ly_101 (by decide)) (rh_101_6 R) ?_
  refine fg_iloadn (fg_ft (pc := 88) tb_Told_copyFrom 48 rfl) rfl ?_
  refine fg_aaldN (fg_ft (pc := 89) tb_Told_copyFrom 49 rfl) ly_103 (by decide) (fg_lt ly_103 (by decide)) (by omega) (rh_103_0 R) ?_
  refine fg_callV (fg_ft (pc := 90) tb_Told_copyFrom 50 rfl) cf_Told_44 (fg_isOf ly_181 rfl (fg_lt ly_181 (by decide))) (as := [.ref 104]) (st := []) rfl rfl (Nat.le_of_ble_eq_true rfl) (Nat.le_refl _) (Nat.le_refl _) (ev_Town_copyFrom (t := 181) (t2 := 104) (by unfold fg_isT; decide) (by unfold fg_isT; decide) (by decide) ?_)
  intro μ0 ag0 tc0 wd0
  show fg_wp _ _ _ _ _ _ _ _ _ (μ0, fg_rho R, 304)
  refine fg_iincN (fg_ft (pc := 93) tb_Told_copyFrom 51 rfl) rfl ic_1 rfl ?_
  refine fg_goto (tgt := 42) (fg_ft (pc := 96) tb_Told_copyFrom 52 rfl) (by decide) ?_
  refine fg_iloadn (fg_ft (pc := 42) tb_Told_copyFrom 22 rfl) rfl ?_
  refine fg_aloadn (fg_ft (pc := 43) tb_Told_copyFrom 23 rfl) rfl ?_
  refine fg_getR (fg_ft (pc := 44) tb_Told_copyFrom 24 rfl) ff_Told_21 ly_178 rfl (fg_lt ly_178 (by decide)) (rh_178_6 R) ?_
  refine fg_alen (fg_ft (pc := 47) tb_Told_copyFrom 25 rfl) ly_180 (by decide) (fg_lt ly_180 (by decide)) ?_
  refine fg_icmp_geN (tgt := 99) (fg_ft (pc := 48) tb_Told_copyFrom 26 rfl) (by decide) (by decide) (by decide) (fun c48 => (absurd c48 (by decide))) (fun c48 => ?_)
  refine fg_iloadn (fg_ft (pc := 51) tb_Told_copyFrom 27 rfl) rfl ?_
  refine fg_aloadn (fg_ft (pc := 52) tb_Told_copyFrom 28 rfl) rfl ?_
  refine fg_getR (fg_ft (pc := 53) tb_Told_copyFrom 29 rfl) ff_Told_21 ly_101 rfl (fg_lt ly_101 (by decide)) (rh_101_6 R) ?_
  refine fg_alen (fg_ft (pc := 56) tb_Told_copyFrom 30 rfl) ly_103 (by decide) (fg_lt ly_103 (by decide)) ?_
  refine fg_icmp_geN (tgt := 99) (fg_ft (pc := 57) tb_Told_copyFrom 31 rfl) (by decide) (by decide) (by decide) (fun c57 => (absurd c57 (by decide))) (fun c57 => ?_)
  refine fg_aloadn (fg_ft (pc := 60) tb_Told_copyFrom 32 rfl) rfl ?_
  refine fg_getR (fg_ft (pc := 61) tb_Told_copyFrom 33 rfl) ff_Told_21 ly_178 rfl (fg_lt ly_178 (by decide)) (rh_178_6 R) ?_
  refine fg_iloadn (fg_ft (pc := 64) tb_Told_copyFrom 34 rfl) rfl ?_
  refine fg_aaldN (fg_ft (pc := 65) tb_Told_copyFrom 35 rfl) ly_180 (by decide) (fg_lt ly_180 (by decide)) (by omega) (rh_180_1 R) ?_
  refine fg_ifnull_r (fg_ft (pc := 66) tb_Told_copyFrom 36 rfl) ?_
  refine fg_aloadn (fg_ft (pc := 69) tb_Told_copyFrom 37 rfl) rfl ?_
  refine fg_getR (fg_ft (pc := 70) tb_Told_copyFrom 38 rfl) ff_Told_21 ly_101 rfl (fg_lt ly_101 (by decide)) (rh_101_6 R) ?_
  refine fg_iloadn (fg_ft (pc := 73) tb_Told_copyFrom 39 rfl) rfl ?_
  refine fg_aaldN (fg_ft (pc := 74) tb_Told_copyFrom 40 rfl) ly_103 (by decide) (fg_lt ly_103 (by decide)) (by omega) (rh_103_1 R) ?_
  refine fg_ifnull_r (fg_ft (pc := 75) tb_Told_copyFrom 41 rfl) ?_
  refine fg_aloadn (fg_ft (pc := 78) tb_Told_copyFrom 42 rfl) rfl ?_
  refine fg_getR (fg_ft (pc := 79) tb_Told_copyFrom 43 rfl) ff_Told_21 ly_178 rfl (fg_lt ly_178 (by decide)) (rh_178_6 R) ?_
  refine fg_iloadn (fg_ft (pc := 82) tb_Told_copyFrom 44 rfl) rfl ?_
  refine fg_aaldN (fg_ft (pc := 83) tb_Told_copyFrom 45 rfl) ly_180 (by decide) (fg_lt ly_180 (by decide)) (by omega) (rh_180_1 R) ?_
  refine fg_aloadn (fg_ft (pc := 84) tb_Told_copyFrom 46 rfl) rfl ?_
  refine fg_getR (fg_ft (pc := 85) tb_Told_copyFrom 47 rfl) ff_Told_21 ly_101 rfl (fg_lt ly_101 (by decide)) (rh_101_6 R) ?_
  refine fg_iloadn (fg_ft (pc := 88) tb_Told_copyFrom 48 rfl) rfl ?_
  refine fg_aaldN (fg_ft (pc := 89) tb_Told_copyFrom 49 rfl) ly_103 (by decide) (fg_lt ly_103 (by decide)) (by omega) (rh_103_1 R) ?_
  refine fg_callV (fg_ft (pc := 90) tb_Told_copyFrom 50 rfl) cf_Told_44 (fg_isOf ly_195 rfl (fg_lt ly_195 (by decide))) (as := [.ref 118]) (st := []) rfl rfl (Nat.le_of_ble_eq_true rfl) (Nat.le_refl _) (Nat.le_refl _) (ev_Town_copyFrom (t := 195) (t2 := 118) (by unfold fg_isT; decide) (by unfold fg_isT; decide) (by decide) ?_)
  intro μ1 ag1 tc1 wd1
  show fg_wp _ _ _ _ _ _ _ _ _ (μ1, fg_rho R, 304)
  refine fg_iincN (fg_ft (pc := 93) tb_Told_copyFrom 51 rfl) rfl ic_1 rfl ?_
  refine fg_goto (tgt := 42) (fg_ft (pc := 96) tb_Told_copyFrom 52 rfl) (by decide) ?_
  refine fg_iloadn (fg_ft (pc := 42) tb_Told_copyFrom 22 rfl) rfl ?_
  refine fg_aloadn (fg_ft (pc := 43) tb_Told_copyFrom 23 rfl) rfl ?_
  refine fg_getR (fg_ft (pc := 44) tb_Told_copyFrom 24 rfl) ff_Told_21 ly_178 rfl (fg_lt ly_178 (by decide)) (rh_178_6 R) ?_
  refine fg_alen (fg_ft (pc := 47) tb_Told_copyFrom 25 rfl) ly_180 (by decide) (fg_lt ly_180 (by decide)) ?_
  refine fg_icmp_geN (tgt := 99) (fg_ft (pc := 48) tb_Told_copyFrom 26 rfl) (by decide) (by decide) (by decide) (fun c48 => ?_) (fun c48 => (absurd c48 (by decide)))
  refine fg_iconst (fg_ft (pc := 99) tb_Told_copyFrom 53 rfl) ic_0 ?_
  refine fg_istoren (fg_ft (pc := 100) tb_Told_copyFrom 54 rfl) (Nat.le_of_ble_eq_true rfl) ?_
  refine fg_iloadn (fg_ft (pc := 101) tb_Told_copyFrom 55 rfl) rfl ?_
  refine fg_aloadn (fg_ft (pc := 102) tb_Told_copyFrom 56 rfl) rfl ?_
  refine fg_getR (fg_ft (pc := 103) tb_Told_copyFrom 57 rfl) ff_Told_28 ly_178 rfl (fg_lt ly_178 (by decide)) (rh_178_7 R) ?_
  refine fg_alen (fg_ft (pc := 106) tb_Told_copyFrom 58 rfl) ly_209 (by decide) (fg_lt ly_209 (by decide)) ?_
  refine fg_icmp_geN (tgt := 158) (fg_ft (pc := 107) tb_Told_copyFrom 59 rfl) (by decide) (by decide) (by decide) (fun c107 => (absurd c107 (by decide))) (fun c107 => ?_)
  refine fg_iloadn (fg_ft (pc := 110) tb_Told_copyFrom 60 rfl) rfl ?_
  refine fg_aloadn (fg_ft (pc := 111) tb_Told_copyFrom 61 rfl) rfl ?_
  refine fg_getR (fg_ft (pc := 112) tb_Told_copyFrom 62 rfl) ff_Told_28 ly_101 rfl (fg_lt ly_101 (by decide)) (rh_101_7 R) ?_
  refine fg_alen (fg_ft (pc := 115) tb_Told_copyFrom 63 rfl) ly_132 (by decide) (fg_lt ly_132 (by decide)) ?_
  refine fg_icmp_geN (tgt := 158) (fg_ft (pc := 116) tb_Told_copyFrom 64 rfl) (by decide) (by decide) (by decide) (fun c116 => (absurd c116 (by decide))) (fun c116 => ?_)
  refine fg_aloadn (fg_ft (pc := 119) tb_Told_copyFrom 65 rfl) rfl ?_
  refine fg_getR (fg_ft (pc := 120) tb_Told_copyFrom 66 rfl) ff_Told_28 ly_178 rfl (fg_lt ly_178 (by decide)) (rh_178_7 R) ?_
  refine fg_iloadn (fg_ft (pc := 123) tb_Told_copyFrom 67 rfl) rfl ?_
  refine fg_aaldN (fg_ft (pc := 124) tb_Told_copyFrom 68 rfl) ly_209 (by decide) (fg_lt ly_209 (by decide)) (by omega) (rh_209_0 R) ?_
  refine fg_ifnull_r (fg_ft (pc := 125) tb_Told_copyFrom 69 rfl) ?_
  refine fg_aloadn (fg_ft (pc := 128) tb_Told_copyFrom 70 rfl) rfl ?_
  refine fg_getR (fg_ft (pc := 129) tb_Told_copyFrom 71 rfl) ff_Told_28 ly_101 rfl (fg_lt ly_101 (by decide)) (rh_101_7 R) ?_
  refine fg_iloadn (fg_ft (pc := 132) tb_Told_copyFrom 72 rfl) rfl ?_
  refine fg_aaldN (fg_ft (pc := 133) tb_Told_copyFrom 73 rfl) ly_132 (by decide) (fg_lt ly_132 (by decide)) (by omega) (rh_132_0 R) ?_
  refine fg_ifnull_r (fg_ft (pc := 134) tb_Told_copyFrom 74 rfl) ?_
  refine fg_aloadn (fg_ft (pc := 137) tb_Told_copyFrom 75 rfl) rfl ?_
  refine fg_getR (fg_ft (pc := 138) tb_Told_copyFrom 76 rfl) ff_Told_28 ly_178 rfl (fg_lt ly_178 (by decide)) (rh_178_7 R) ?_
  refine fg_iloadn (fg_ft (pc := 141) tb_Told_copyFrom 77 rfl) rfl ?_
  refine fg_aaldN (fg_ft (pc := 142) tb_Told_copyFrom 78 rfl) ly_209 (by decide) (fg_lt ly_209 (by decide)) (by omega) (rh_209_0 R) ?_
  refine fg_aloadn (fg_ft (pc := 143) tb_Told_copyFrom 79 rfl) rfl ?_
  refine fg_getR (fg_ft (pc := 144) tb_Told_copyFrom 80 rfl) ff_Told_28 ly_101 rfl (fg_lt ly_101 (by decide)) (rh_101_7 R) ?_
  refine fg_iloadn (fg_ft (pc := 147) tb_Told_copyFrom 81 rfl) rfl ?_
  refine fg_aaldN (fg_ft (pc := 148) tb_Told_copyFrom 82 rfl) ly_132 (by decide) (fg_lt ly_132 (by decide)) (by omega) (rh_132_0 R) ?_
  refine fg_callV (fg_ft (pc := 149) tb_Told_copyFrom 83 rfl) cf_Told_54 (fg_isOf ly_210 rfl (fg_lt ly_210 (by decide))) (as := [.ref 133]) (st := []) rfl rfl (Nat.le_of_ble_eq_true rfl) (Nat.le_refl _) (Nat.le_refl _) (ev_Rows_copyFromA (r := 210) (c := 211) (n := 120) (o := 133) (co := 134) ⟨ly_210, rfl, ly_211⟩ ⟨ly_133, rfl, ly_134⟩ (by decide) (by decide) ?_)
  intro ν0 ah0 rd0
  show fg_wp _ _ _ _ _ _ _ _ _ (ν0, fg_rho R, 304)
  refine fg_iincN (fg_ft (pc := 152) tb_Told_copyFrom 84 rfl) rfl ic_1 rfl ?_
  refine fg_goto (tgt := 101) (fg_ft (pc := 155) tb_Told_copyFrom 85 rfl) (by decide) ?_
  refine fg_iloadn (fg_ft (pc := 101) tb_Told_copyFrom 55 rfl) rfl ?_
  refine fg_aloadn (fg_ft (pc := 102) tb_Told_copyFrom 56 rfl) rfl ?_
  refine fg_getR (fg_ft (pc := 103) tb_Told_copyFrom 57 rfl) ff_Told_28 ly_178 rfl (fg_lt ly_178 (by decide)) (rh_178_7 R) ?_
  refine fg_alen (fg_ft (pc := 106) tb_Told_copyFrom 58 rfl) ly_209 (by decide) (fg_lt ly_209 (by decide)) ?_
  refine fg_icmp_geN (tgt := 158) (fg_ft (pc := 107) tb_Told_copyFrom 59 rfl) (by decide) (by decide) (by decide) (fun c107 => (absurd c107 (by decide))) (fun c107 => ?_)
  refine fg_iloadn (fg_ft (pc := 110) tb_Told_copyFrom 60 rfl) rfl ?_
  refine fg_aloadn (fg_ft (pc := 111) tb_Told_copyFrom 61 rfl) rfl ?_
  refine fg_getR (fg_ft (pc := 112) tb_Told_copyFrom 62 rfl) ff_Told_28 ly_101 rfl (fg_lt ly_101 (by decide)) (rh_101_7 R) ?_
  refine fg_alen (fg_ft (pc := 115) tb_Told_copyFrom 63 rfl) ly_132 (by decide) (fg_lt ly_132 (by decide)) ?_
  refine fg_icmp_geN (tgt := 158) (fg_ft (pc := 116) tb_Told_copyFrom 64 rfl) (by decide) (by decide) (by decide) (fun c116 => (absurd c116 (by decide))) (fun c116 => ?_)
  refine fg_aloadn (fg_ft (pc := 119) tb_Told_copyFrom 65 rfl) rfl ?_
  refine fg_getR (fg_ft (pc := 120) tb_Told_copyFrom 66 rfl) ff_Told_28 ly_178 rfl (fg_lt ly_178 (by decide)) (rh_178_7 R) ?_
  refine fg_iloadn (fg_ft (pc := 123) tb_Told_copyFrom 67 rfl) rfl ?_
  refine fg_aaldN (fg_ft (pc := 124) tb_Told_copyFrom 68 rfl) ly_209 (by decide) (fg_lt ly_209 (by decide)) (by omega) (rh_209_1 R) ?_
  refine fg_ifnull_r (fg_ft (pc := 125) tb_Told_copyFrom 69 rfl) ?_
  refine fg_aloadn (fg_ft (pc := 128) tb_Told_copyFrom 70 rfl) rfl ?_
  refine fg_getR (fg_ft (pc := 129) tb_Told_copyFrom 71 rfl) ff_Told_28 ly_101 rfl (fg_lt ly_101 (by decide)) (rh_101_7 R) ?_
  refine fg_iloadn (fg_ft (pc := 132) tb_Told_copyFrom 72 rfl) rfl ?_
  refine fg_aaldN (fg_ft (pc := 133) tb_Told_copyFrom 73 rfl) ly_132 (by decide) (fg_lt ly_132 (by decide)) (by omega) (rh_132_1 R) ?_
  refine fg_ifnull_r (fg_ft (pc := 134) tb_Told_copyFrom 74 rfl) ?_
  refine fg_aloadn (fg_ft (pc := 137) tb_Told_copyFrom 75 rfl) rfl ?_
  refine fg_getR (fg_ft (pc := 138) tb_Told_copyFrom 76 rfl) ff_Told_28 ly_178 rfl (fg_lt ly_178 (by decide)) (rh_178_7 R) ?_
  refine fg_iloadn (fg_ft (pc := 141) tb_Told_copyFrom 77 rfl) rfl ?_
  refine fg_aaldN (fg_ft (pc := 142) tb_Told_copyFrom 78 rfl) ly_209 (by decide) (fg_lt ly_209 (by decide)) (by omega) (rh_209_1 R) ?_
  refine fg_aloadn (fg_ft (pc := 143) tb_Told_copyFrom 79 rfl) rfl ?_
  refine fg_getR (fg_ft (pc := 144) tb_Told_copyFrom 80 rfl) ff_Told_28 ly_101 rfl (fg_lt ly_101 (by decide)) (rh_101_7 R) ?_
  refine fg_iloadn (fg_ft (pc := 147) tb_Told_copyFrom 81 rfl) rfl ?_
  refine fg_aaldN (fg_ft (pc := 148) tb_Told_copyFrom 82 rfl) ly_132 (by decide) (fg_lt ly_132 (by decide)) (by omega) (rh_132_1 R) ?_
  refine fg_callV (fg_ft (pc := 149) tb_Told_copyFrom 83 rfl) cf_Told_54 (fg_isOf ly_212 rfl (fg_lt ly_212 (by decide))) (as := [.ref 135]) (st := []) rfl rfl (Nat.le_of_ble_eq_true rfl) (Nat.le_refl _) (Nat.le_refl _) (ev_Rows_copyFromA (r := 212) (c := 213) (n := 120) (o := 135) (co := 136) ⟨ly_212, rfl, ly_213⟩ ⟨ly_135, rfl, ly_136⟩ (by decide) (by decide) ?_)
  intro ν1 ah1 rd1
  show fg_wp _ _ _ _ _ _ _ _ _ (ν1, fg_rho R, 304)
  refine fg_iincN (fg_ft (pc := 152) tb_Told_copyFrom 84 rfl) rfl ic_1 rfl ?_
  refine fg_goto (tgt := 101) (fg_ft (pc := 155) tb_Told_copyFrom 85 rfl) (by decide) ?_
  refine fg_iloadn (fg_ft (pc := 101) tb_Told_copyFrom 55 rfl) rfl ?_
  refine fg_aloadn (fg_ft (pc := 102) tb_Told_copyFrom 56 rfl) rfl ?_
  refine fg_getR (fg_ft (pc := 103) tb_Told_copyFrom 57 rfl) ff_Told_28 ly_178 rfl (fg_lt ly_178 (by decide)) (rh_178_7 R) ?_
  refine fg_alen (fg_ft (pc := 106) tb_Told_copyFrom 58 rfl) ly_209 (by decide) (fg_lt ly_209 (by decide)) ?_
  refine fg_icmp_geN (tgt := 158) (fg_ft (pc := 107) tb_Told_copyFrom 59 rfl) (by decide) (by decide) (by decide) (fun c107 => (absurd c107 (by decide))) (fun c107 => ?_)
  refine fg_iloadn (fg_ft (pc := 110) tb_Told_copyFrom 60 rfl) rfl ?_
  refine fg_aloadn (fg_ft (pc := 111) tb_Told_copyFrom 61 rfl) rfl ?_
  refine fg_getR (fg_ft (pc := 112) tb_Told_copyFrom 62 rfl) ff_Told_28 ly_101 rfl (fg_lt ly_101 (by decide)) (rh_101_7 R) ?_
  refine fg_alen (fg_ft (pc := 115) tb_Told_copyFrom 63 rfl) ly_132 (by decide) (fg_lt ly_132 (by decide)) ?_
  refine fg_icmp_geN (tgt := 158) (fg_ft (pc := 116) tb_Told_copyFrom 64 rfl) (by decide) (by decide) (by decide) (fun c116 => (absurd c116 (by decide))) (fun c116 => ?_)
  refine fg_aloadn (fg_ft (pc := 119) tb_Told_copyFrom 65 rfl) rfl ?_
  refine fg_getR (fg_ft (pc := 120) tb_Told_copyFrom 66 rfl) ff_Told_28 ly_178 rfl (fg_lt ly_178 (by decide)) (rh_178_7 R) ?_
  refine fg_iloadn (fg_ft (pc := 123) tb_Told_copyFrom 67 rfl) rfl ?_
  refine fg_aaldN (fg_ft (pc := 124) tb_Told_copyFrom 68 rfl) ly_209 (by decide) (fg_lt ly_209 (by decide)) (by omega) (rh_209_2 R) ?_
  refine fg_ifnull_r (fg_ft (pc := 125) tb_Told_copyFrom 69 rfl) ?_
  refine fg_aloadn (fg_ft (pc := 128) tb_Told_copyFrom 70 rfl) rfl ?_
  refine fg_getR (fg_ft (pc := 129) tb_Told_copyFrom 71 rfl) ff_Told_28 ly_101 rfl (fg_lt ly_101 (by decide)) (rh_101_7 R) ?_
  refine fg_iloadn (fg_ft (pc := 132) tb_Told_copyFrom 72 rfl) rfl ?_
  refine fg_aaldN (fg_ft (pc := 133) tb_Told_copyFrom 73 rfl) ly_132 (by decide) (fg_lt ly_132 (by decide)) (by omega) (rh_132_2 R) ?_
  refine fg_ifnull_r (fg_ft (pc := 134) tb_Told_copyFrom 74 rfl) ?_
  refine fg_aloadn (fg_ft (pc := 137) tb_Told_copyFrom 75 rfl) rfl ?_
  refine fg_getR (fg_ft (pc := 138) tb_Told_copyFrom 76 rfl) ff_Told_28 ly_178 rfl (fg_lt ly_178 (by decide)) (rh_178_7 R) ?_
  refine fg_iloadn (fg_ft (pc := 141) tb_Told_copyFrom 77 rfl) rfl ?_
  refine fg_aaldN (fg_ft (pc := 142) tb_Told_copyFrom 78 rfl) ly_209 (by decide) (fg_lt ly_209 (by decide)) (by omega) (rh_209_2 R) ?_
  refine fg_aloadn (fg_ft (pc := 143) tb_Told_copyFrom 79 rfl) rfl ?_
  refine fg_getR (fg_ft (pc := 144) tb_Told_copyFrom 80 rfl) ff_Told_28 ly_101 rfl (fg_lt ly_101 (by decide)) (rh_101_7 R) ?_
  refine fg_iloadn (fg_ft (pc := 147) tb_Told_copyFrom 81 rfl) rfl ?_
  refine fg_aaldN (fg_ft (pc := 148) tb_Told_copyFrom 82 rfl) ly_132 (by decide) (fg_lt ly_132 (by decide)) (by omega) (rh_132_2 R) ?_
  refine fg_callV (fg_ft (pc := 149) tb_Told_copyFrom 83 rfl) cf_Told_54 (fg_isOf ly_214 rfl (fg_lt ly_214 (by decide))) (as := [.ref 137]) (st := []) rfl rfl (Nat.le_of_ble_eq_true rfl) (Nat.le_refl _) (Nat.le_refl _) (ev_Rows_copyFromA (r := 214) (c := 215) (n := 120) (o := 137) (co := 138) ⟨ly_214, rfl, ly_215⟩ ⟨ly_137, rfl, ly_138⟩ (by decide) (by decide) ?_)
  intro ν2 ah2 rd2
  show fg_wp _ _ _ _ _ _ _ _ _ (ν2, fg_rho R, 304)
  refine fg_iincN (fg_ft (pc := 152) tb_Told_copyFrom 84 rfl) rfl ic_1 rfl ?_
  refine fg_goto (tgt := 101) (fg_ft (pc := 155) tb_Told_copyFrom 85 rfl) (by decide) ?_
  refine fg_iloadn (fg_ft (pc := 101) tb_Told_copyFrom 55 rfl) rfl ?_
  refine fg_aloadn (fg_ft (pc := 102) tb_Told_copyFrom 56 rfl) rfl ?_
  refine fg_getR (fg_ft (pc := 103) tb_Told_copyFrom 57 rfl) ff_Told_28 ly_178 rfl (fg_lt ly_178 (by decide)) (rh_178_7 R) ?_
  refine fg_alen (fg_ft (pc := 106) tb_Told_copyFrom 58 rfl) ly_209 (by decide) (fg_lt ly_209 (by decide)) ?_
  refine fg_icmp_geN (tgt := 158) (fg_ft (pc := 107) tb_Told_copyFrom 59 rfl) (by decide) (by decide) (by decide) (fun c107 => ?_) (fun c107 => (absurd c107 (by decide)))
  refine fg_aloadn (fg_ft (pc := 158) tb_Told_copyFrom 86 rfl) rfl ?_
  refine fg_aloadn (fg_ft (pc := 159) tb_Told_copyFrom 87 rfl) rfl ?_
  refine fg_getI (fg_ft (pc := 160) tb_Told_copyFrom 88 rfl) ff_Told_38 ly_101 rfl (fg_lt ly_101 (by decide)) ?_
  refine fg_putI (fg_ft (pc := 163) tb_Told_copyFrom 89 rfl) ff_Told_38 ly_178 rfl (fg_lt ly_178 (by decide)) (fg_nokI _) (fun _ _ h => by cases h; rfl) ?_
  show fg_wp _ _ _ _ _ _ _ _ _ (fg_u2 ν2 178 4 (ν2 101 4), fg_rho R, 304)
  refine fg_aloadn (fg_ft (pc := 166) tb_Told_copyFrom 90 rfl) rfl ?_
  refine fg_aloadn (fg_ft (pc := 167) tb_Told_copyFrom 91 rfl) rfl ?_
  refine fg_getI (fg_ft (pc := 168) tb_Told_copyFrom 92 rfl) ff_Told_41 ly_101 rfl (fg_lt ly_101 (by decide)) ?_
  refine fg_putI (fg_ft (pc := 171) tb_Told_copyFrom 93 rfl) ff_Told_41 ly_178 rfl (fg_lt ly_178 (by decide)) (fg_nokI _) (fun _ _ h => by cases h; rfl) ?_
  show fg_wp _ _ _ _ _ _ _ _ _ (fg_u2 (fg_u2 ν2 178 4 (ν2 101 4)) 178 5 ((fg_u2 ν2 178 4 (ν2 101 4)) 101 5), fg_rho R, 304)
  exact fg_vret (fg_ft (pc := 174) tb_Told_copyFrom 94 rfl) rfl rfl (by
  have c5 : ∀ a, a ≠ 178 → ∀ j, (fg_u2 (fg_u2 ν2 178 4 (ν2 101 4)) 178 5 ((fg_u2 ν2 178 4 (ν2 101 4)) 101 5)) a j = ν2 a j := fun a ha j => (fg_u2ne ha).trans (fg_u2ne ha)
  have cv : ∀ a, (a < 210 ∨ 216 ≤ a) → ∀ j, ν2 a j = μ1 a j := fun a ha j => (ah2 a j (by omega) (by omega)).trans ((ah1 a j (by omega) (by omega)).trans (ah0 a j (by omega) (by omega)))
  have c1 : ∀ a, (a < 195 ∨ 209 ≤ a) → ∀ j, μ1 a j = μ0 a j := fun a ha j => ag1 a (by omega) j
  have c0 : ∀ a, (a < 181 ∨ 195 ≤ a) → ∀ j, μ0 a j = m0 a j := fun a ha j => ag0 a (by omega) j
  have cm : ∀ a, (a < 181 ∨ 216 ≤ a) → ∀ j, ν2 a j = m0 a j := fun a ha j => (cv a (by omega) j).trans ((c1 a (by omega) j).trans (c0 a (by omega) j))
  refine hQ _ ⟨fun j h1 h5 => ?_, fun j hj => (c5 _ (by decide) _).trans ((cm _ (by decide) _).trans (e1 j hj)), fun i hi => ?_, fun i hi => ?_, fun a ha j => (c5 a (by omega) j).trans ((cm a (by omega) j).trans (e0 a (by omega) (by omega) j))⟩
  · rcases (show j = 1 ∨ j = 2 ∨ j = 3 ∨ j = 4 ∨ j = 5 by omega) with rfl | rfl | rfl | rfl | rfl
    · exact (fg_u2ns (by decide)).trans ((fg_u2ns (by decide)).trans ((cm _ (by decide) _).trans s1))
    · exact (fg_u2ns (by decide)).trans ((fg_u2ns (by decide)).trans ((cm _ (by decide) _).trans s2))
    · exact (fg_u2ns (by decide)).trans ((fg_u2ns (by decide)).trans ((cm _ (by decide) _).trans s3))
    · exact (fg_u2ns (by decide)).trans (fg_u2eq.trans ((cm _ (by decide) _).trans (e0 _ (by decide) (by decide) _)))
    · exact fg_u2eq.trans ((fg_u2ne (by decide)).trans ((cm _ (by decide) _).trans (e0 _ (by decide) (by decide) _)))
  · rcases (show i = 0 ∨ i = 1 by omega) with rfl | rfl
    · have hk : ∀ a, 181 ≤ a → a < 195 → ∀ j, (fg_u2 (fg_u2 ν2 178 4 (ν2 101 4)) 178 5 ((fg_u2 ν2 178 4 (ν2 101 4)) 101 5)) a j = μ0 a j := fun a h1 h2 j => (c5 a (by omega) j).trans ((cv a (by omega) j).trans (c1 a (by omega) j))
      exact ⟨fg_TC.fr (t := 181) (t2 := 104) tc0 (fun a h1 h2 j => e0 a (by omega) (by omega) j) hk, fun hw => fg_wdT.fr (t := 181) (wd0 (fg_wdT.fr (t := 181) hw (fun a h1 h2 j => e0 a (by omega) (by omega) j))) hk⟩
    · have hk : ∀ a, 195 ≤ a → a < 209 → ∀ j, (fg_u2 (fg_u2 ν2 178 4 (ν2 101 4)) 178 5 ((fg_u2 ν2 178 4 (ν2 101 4)) 101 5)) a j = μ1 a j := fun a h1 h2 j => (c5 a (by omega) j).trans (cv a (by omega) j)
      exact ⟨fg_TC.fr (t := 195) (t2 := 118) tc1 (fun a h1 h2 j => (c0 a (by omega) j).trans (e0 a (by omega) (by omega) j)) hk, fun hw => fg_wdT.fr (t := 195) (wd1 (fg_wdT.fr (t := 195) hw (fun a h1 h2 j => (c0 a (by omega) j).trans (e0 a (by omega) (by omega) j)))) hk⟩
  · have co : ∀ a, (a < 178 ∨ 209 ≤ a) → ∀ j, μ1 a j = μ a j := fun a ha j => (c1 a (by omega) j).trans ((c0 a (by omega) j).trans (e0 a (by omega) (by omega) j))
    rcases (show i = 0 ∨ i = 1 ∨ i = 2 by omega) with rfl | rfl | rfl
    · exact ⟨(((c5 210 (by decide) 0).trans (ah2 210 0 (by decide) (by decide))).trans (ah1 210 0 (by decide) (by decide))).trans (rd0.1.trans (co 210 (by decide) 0)), (((c5 210 (by decide) 2).trans (ah2 210 2 (by decide) (by decide))).trans (ah1 210 2 (by decide) (by decide))).trans (rd0.2.1.trans (co 133 (by decide) 2)), fun j hj => (((c5 211 (by decide) j).trans (ah2 211 j (by decide) (by decide))).trans (ah1 211 j (by decide) (by decide))).trans ((rd0.2.2 j hj).trans (co 134 (by decide) j))⟩
    · exact ⟨((c5 212 (by decide) 0).trans (ah2 212 0 (by decide) (by decide))).trans (rd1.1.trans ((ah0 212 0 (by decide) (by decide)).trans (co 212 (by decide) 0))), ((c5 212 (by decide) 2).trans (ah2 212 2 (by decide) (by decide))).trans (rd1.2.1.trans ((ah0 135 2 (by decide) (by decide)).trans (co 135 (by decide) 2))), fun j hj => ((c5 213 (by decide) j).trans (ah2 213 j (by decide) (by decide))).trans ((rd1.2.2 j hj).trans ((ah0 136 j (by decide) (by decide)).trans (co 136 (by decide) j)))⟩
    · exact ⟨(c5 214 (by decide) 0).trans (rd2.1.trans ((ah1 214 0 (by decide) (by decide)).trans ((ah0 214 0 (by decide) (by decide)).trans (co 214 (by decide) 0)))), (c5 214 (by decide) 2).trans (rd2.2.1.trans ((ah1 137 2 (by decide) (by decide)).trans ((ah0 137 2 (by decide) (by decide)).trans (co 137 (by decide) 2)))), fun j hj => (c5 215 (by decide) j).trans ((rd2.2.2 j hj).trans ((ah1 138 j (by decide) (by decide)).trans ((ah0 138 j (by decide) (by decide)).trans (co 138 (by decide) j))))⟩)
theorem ev_Told_copy_101_216 {E : fg_E} {d : Nat} {μ : Nat → Nat → Int32} {R : fg_T4} {Q : Option Value → fg_M → Prop} (hfit : ∀ i, i < 600 → fits (fg_aty (11 - 10)) (.int (μ 217 i)) = true) (hQ : ∀ μ' : Nat → Nat → Int32, fg_KC μ 216 μ' 101 → Q none (μ', fg_rho R, 304)) : fg_Ev E yy_Told_copyFrom (d + 3) [.ref 101, .ref 216] (μ, fg_rho R, 304) 304 Q := by
  refine fg_intro (by decide +kernel) (Nat.le_of_ble_eq_true rfl) (fg_okAs rfl) (Nat.le_refl _) ?_
  refine fg_aloadn (fg_ft (pc := 0) tb_Told_copyFrom 0 rfl) rfl ?_
  refine fg_getR (fg_ft (pc := 1) tb_Told_copyFrom 1 rfl) ff_Told_9 ly_216 rfl (fg_lt ly_216 (by decide)) (rh_216_0 R) ?_
  refine fg_iconst (fg_ft (pc := 4) tb_Told_copyFrom 2 rfl) ic_0 ?_
  refine fg_aloadn (fg_ft (pc := 5) tb_Told_copyFrom 3 rfl) rfl ?_
  refine fg_getR (fg_ft (pc := 6) tb_Told_copyFrom 4 rfl) ff_Told_9 ly_101 rfl (fg_lt ly_101 (by decide)) (rh_101_0 R) ?_
  refine fg_iconst (fg_ft (pc := 9) tb_Told_copyFrom 5 rfl) ic_0 ?_
  refine fg_sipush (fg_ft (pc := 10) tb_Told_copyFrom 6 rfl) is_600 ?_
  refine fg_copy (fg_ft (pc := 13) tb_Told_copyFrom 7 rfl) fy_Told_57 fy_native fy_static fy_init (Or.inr rfl) ly_217 ly_102 (fg_lt ly_217 (by decide)) (fg_lt ly_102 (by decide)) rfl rfl rfl (by omega) (by omega) (hfit) (Nat.le_of_ble_eq_true rfl) ?_
  show fg_wp _ _ _ _ _ _ _ _ _ (fg_cp1 μ 217 102 600, fg_rho R, 304)
  refine fg_aloadn (fg_ft (pc := 16) tb_Told_copyFrom 8 rfl) rfl ?_
  refine fg_aloadn (fg_ft (pc := 17) tb_Told_copyFrom 9 rfl) rfl ?_
  refine fg_getI (fg_ft (pc := 18) tb_Told_copyFrom 10 rfl) ff_Told_35 ly_216 rfl (fg_lt ly_216 (by decide)) ?_
  refine fg_putI (fg_ft (pc := 21) tb_Told_copyFrom 11 rfl) ff_Told_35 ly_101 rfl (fg_lt ly_101 (by decide)) (fg_nokI _) (fun _ _ h => by cases h; rfl) ?_
  show fg_wp _ _ _ _ _ _ _ _ _ (fg_u2 (fg_cp1 μ 217 102 600) 101 1 ((fg_cp1 μ 217 102 600) 216 1), fg_rho R, 304)
  refine fg_aloadn (fg_ft (pc := 24) tb_Told_copyFrom 12 rfl) rfl ?_
  refine fg_aloadn (fg_ft (pc := 25) tb_Told_copyFrom 13 rfl) rfl ?_
  refine fg_getI (fg_ft (pc := 26) tb_Told_copyFrom 14 rfl) ff_Told_63 ly_216 rfl (fg_lt ly_216 (by decide)) ?_
  refine fg_putI (fg_ft (pc := 29) tb_Told_copyFrom 15 rfl) ff_Told_63 ly_101 rfl (fg_lt ly_101 (by decide)) (fg_nokI _) (fun _ _ h => by cases h; rfl) ?_
  show fg_wp _ _ _ _ _ _ _ _ _ (fg_u2 (fg_u2 (fg_cp1 μ 217 102 600) 101 1 ((fg_cp1 μ 217 102 600) 216 1)) 101 2 ((fg_u2 (fg_cp1 μ 217 102 600) 101 1 ((fg_cp1 μ 217 102 600) 216 1)) 216 2), fg_rho R, 304)
  refine fg_aloadn (fg_ft (pc := 32) tb_Told_copyFrom 16 rfl) rfl ?_
  refine fg_aloadn (fg_ft (pc := 33) tb_Told_copyFrom 17 rfl) rfl ?_
  refine fg_getI (fg_ft (pc := 34) tb_Told_copyFrom 18 rfl) ff_Told_15 ly_216 rfl (fg_lt ly_216 (by decide)) ?_
  refine fg_putI (fg_ft (pc := 37) tb_Told_copyFrom 19 rfl) ff_Told_15 ly_101 rfl (fg_lt ly_101 (by decide)) (fg_nokI _) (fun _ _ h => by cases h; rfl) ?_
  show fg_wp _ _ _ _ _ _ _ _ _ (fg_u2 (fg_u2 (fg_u2 (fg_cp1 μ 217 102 600) 101 1 ((fg_cp1 μ 217 102 600) 216 1)) 101 2 ((fg_u2 (fg_cp1 μ 217 102 600) 101 1 ((fg_cp1 μ 217 102 600) 216 1)) 216 2)) 101 3 ((fg_u2 (fg_u2 (fg_cp1 μ 217 102 600) 101 1 ((fg_cp1 μ 217 102 600) 216 1)) 101 2 ((fg_u2 (fg_cp1 μ 217 102 600) 101 1 ((fg_cp1 μ 217 102 600) 216 1)) 216 2)) 216 3), fg_rho R, 304)
  obtain ⟨m0, hm0⟩ : ∃ m0, m0 = fg_u2 (fg_u2 (fg_u2 (fg_cp1 μ 217 102 600) 101 1 ((fg_cp1 μ 217 102 600) 216 1)) 101 2 ((fg_u2 (fg_cp1 μ 217 102 600) 101 1 ((fg_cp1 μ 217 102 600) 216 1)) 216 2)) 101 3 ((fg_u2 (fg_u2 (fg_cp1 μ 217 102 600) 101 1 ((fg_cp1 μ 217 102 600) 216 1)) 101 2 ((fg_u2 (fg_cp1 μ 217 102 600) 101 1 ((fg_cp1 μ 217 102 600) 216 1)) 216 2)) 216 3) := ⟨_, rfl⟩
  rw [← hm0]
  have e0 : ∀ a, a ≠ 101 → a ≠ 102 → ∀ j, m0 a j = μ a j := fun a a1 a2 j => by rw [hm0]; exact (fg_u2ne a1).trans ((fg_u2ne a1).trans ((fg_u2ne a1).trans (fg_cp1_ne a2)))
  have e1 : ∀ j, j < 600 → m0 102 j = μ 217 j := fun j hj => by rw [hm0]; exact (fg_u2ne (by decide)).trans ((fg_u2ne (by decide)).trans ((fg_u2ne (by decide)).trans (fg_cp1_lt hj)))
  have s1 : m0 101 1 = μ 216 1 := by rw [hm0]; exact (fg_u2ns (by decide)).trans ((fg_u2ns (by decide)).trans (fg_u2eq.trans (fg_cp1_ne (by decide))))
  have s2 : m0 101 2 = μ 216 2 := by rw [hm0]; exact (fg_u2ns (by decide)).trans (fg_u2eq.trans ((fg_u2ne (by decide)).trans (fg_cp1_ne (by decide))))
  have s3 : m0 101 3 = μ 216 3 := by rw [hm0]; exact fg_u2eq.trans ((fg_u2ne (by decide)).trans ((fg_u2ne (by decide)).trans (fg_cp1_ne (by decide))))
  refine fg_iconst (fg_ft (pc := 40) tb_Told_copyFrom 20 rfl) ic_0 ?_
  refine fg_istoren (fg_ft (pc := 41) tb_Told_copyFrom 21 rfl) (Nat.le_of_ble_eq_true rfl) ?_
  refine fg_iloadn (fg_ft (pc := 42) tb_Told_copyFrom 22 rfl) rfl ?_
  refine fg_aloadn (fg_ft (pc := 43) tb_Told_copyFrom 23 rfl) rfl ?_
  refine fg_getR (fg_ft (pc := 44) tb_Told_copyFrom 24 rfl) ff_Told_21 ly_101 rfl (fg_lt ly_101 (by decide)) (rh_101_6 R) ?_
  refine fg_alen (fg_ft (pc := 47) tb_Told_copyFrom 25 rfl) ly_103 (by decide) (fg_lt ly_103 (by decide)) ?_
  refine fg_icmp_geN (tgt := 99) (fg_ft (pc := 48) tb_Told_copyFrom 26 rfl) (by decide) (by decide) (by decide) (fun c48 => (absurd c48 (by decide))) (fun c48 => ?_)
  refine fg_iloadn (fg_ft (pc := 51) tb_Told_copyFrom 27 rfl) rfl ?_
  refine fg_aloadn (fg_ft (pc := 52) tb_Told_copyFrom 28 rfl) rfl ?_
  refine fg_getR (fg_ft (pc := 53) tb_Told_copyFrom 29 rfl) ff_Told_21 ly_216 rfl (fg_lt ly_216 (by decide)) (rh_216_6 R) ?_
  refine fg_alen (fg_ft (pc := 56) tb_Told_copyFrom 30 rfl) ly_218 (by decide) (fg_lt ly_218 (by decide)) ?_
  refine fg_icmp_geN (tgt := 99) (fg_ft (pc := 57) tb_Told_copyFrom 31 rfl) (by decide) (by decide) (by decide) (fun c57 => (absurd c57 (by decide))) (fun c57 => ?_)
  refine fg_aloadn (fg_ft (pc := 60) tb_Told_copyFrom 32 rfl) rfl ?_
  refine fg_getR (fg_ft (pc := 61) tb_Told_copyFrom 33 rfl) ff_Told_21 ly_101 rfl (fg_lt ly_101 (by decide)) (rh_101_6 R) ?_
  refine fg_iloadn (fg_ft (pc := 64) tb_Told_copyFrom 34 rfl) rfl ?_
  refine fg_aaldN (fg_ft (pc := 65) tb_Told_copyFrom 35 rfl) ly_103 (by decide) (fg_lt ly_103 (by decide)) (by omega) (rh_103_0 R) ?_
  refine fg_ifnull_r (fg_ft (pc := 66) tb_Told_copyFrom 36 rfl) ?_
  refine fg_aloadn (fg_ft (pc := 69) tb_Told_copyFrom 37 rfl) rfl ?_
  refine fg_getR (fg_ft (pc := 70) tb_Told_copyFrom 38 rfl) ff_Told_21 ly_216 rfl (fg_lt ly_216 (by decide)) (rh_216_6 R) ?_
  refine fg_iloadn (fg_ft (pc := 73) tb_Told_copyFrom 39 rfl) rfl ?_
  refine fg_aaldN (fg_ft (pc := 74) tb_Told_copyFrom 40 rfl) ly_218 (by decide) (fg_lt ly_218 (by decide)) (by omega) (rh_218_0 R) ?_
  refine fg_ifnull_r (fg_ft (pc := 75) tb_Told_copyFrom 41 rfl) ?_
  refine fg_aloadn (fg_ft (pc := 78) tb_Told_copyFrom 42 rfl) rfl ?_
  refine fg_getR (fg_ft (pc := 79) tb_Told_copyFrom 43 rfl) ff_Told_21 ly_101 rfl (fg_lt ly_101 (by decide)) (rh_101_6 R) ?_
  refine fg_iloadn (fg_ft (pc := 82) tb_Told_copyFrom 44 rfl) rfl ?_
  refine fg_aaldN (fg_ft (pc := 83) tb_Told_copyFrom 45 rfl) ly_103 (by decide) (fg_lt ly_103 (by decide)) (by omega) (rh_103_0 R) ?_
  refine fg_aloadn (fg_ft (pc := 84) tb_Told_copyFrom 46 rfl) rfl ?_
  refine fg_getR (fg_ft (pc := 85) tb_Told_copyFrom 47 rfl) ff_Told_21 ly_216 rfl (fg_lt ly_216 (by decide)) (rh_216_6 R) ?_
  refine fg_iloadn (fg_ft (pc := 88) tb_Told_copyFrom 48 rfl) rfl ?_
  refine fg_aaldN (fg_ft (pc := 89) tb_Told_copyFrom 49 rfl) ly_218 (by decide) (fg_lt ly_218 (by decide)) (by omega) (rh_218_0 R) ?_
  refine fg_callV (fg_ft (pc := 90) tb_Told_copyFrom 50 rfl) cf_Told_44 (fg_isOf ly_104 rfl (fg_lt ly_104 (by decide))) (as := [.ref 219]) (st := []) rfl rfl (Nat.le_of_ble_eq_true rfl) (Nat.le_refl _) (Nat.le_refl _) (ev_Town_copyFrom (t := 104) (t2 := 219) (by unfold fg_isT; decide) (by unfold fg_isT; decide) (by decide) ?_)
  intro μ0 ag0 tc0 wd0
  show fg_wp _ _ _ _ _ _ _ _ _ (μ0, fg_rho R, 304)
  refine fg_iincN (fg_ft (pc := 93) tb_Told_copyFrom 51 rfl) rfl ic_1 rfl ?_
  refine fg_goto (tgt := 42) (fg_ft (pc := 96) tb_Told_copyFrom 52 rfl) (by decide) ?_
  refine fg_iloadn (fg_ft (pc := 42) tb_Told_copyFrom 22 rfl) rfl ?_
  refine fg_aloadn (fg_ft (pc := 43) tb_Told_copyFrom 23 rfl) rfl ?_
  refine fg_getR (fg_ft (pc := 44) tb_Told_copyFrom 24 rfl) ff_Told_21 ly_101 rfl (fg_lt ly_101 (by decide)) (rh_101_6 R) ?_
  refine fg_alen (fg_ft (pc := 47) tb_Told_copyFrom 25 rfl) ly_103 (by decide) (fg_lt ly_103 (by decide)) ?_
  refine fg_icmp_geN (tgt := 99) (fg_ft (pc := 48) tb_Told_copyFrom 26 rfl) (by decide) (by decide) (by decide) (fun c48 => (absurd c48 (by decide))) (fun c48 => ?_)
  refine fg_iloadn (fg_ft (pc := 51) tb_Told_copyFrom 27 rfl) rfl ?_
  refine fg_aloadn (fg_ft (pc := 52) tb_Told_copyFrom 28 rfl) rfl ?_
  refine fg_getR (fg_ft (pc := 53) tb_Told_copyFrom 29 rfl) ff_Told_21 ly_216 rfl (fg_lt ly_216 (by decide)) (rh_216_6 R) ?_
  refine fg_alen (fg_ft (pc := 56) tb_Told_copyFrom 30 rfl) ly_218 (by decide) (fg_lt ly_218 (by decide)) ?_
  refine fg_icmp_geN (tgt := 99) (fg_ft (pc := 57) tb_Told_copyFrom 31 rfl) (by decide) (by decide) (by decide) (fun c57 => (absurd c57 (by decide))) (fun c57 => ?_)
  refine fg_aloadn (fg_ft (pc := 60) tb_Told_copyFrom 32 rfl) rfl ?_
  refine fg_getR (fg_ft (pc := 61) tb_Told_copyFrom 33 rfl) ff_Told_21 ly_101 rfl (fg_lt ly_101 (by decide)) (rh_101_6 R) ?_
  refine fg_iloadn (fg_ft (pc := 64) tb_Told_copyFrom 34 rfl) rfl ?_
  refine fg_aaldN (fg_ft (pc := 65) tb_Told_copyFrom 35 rfl) ly_103 (by decide) (fg_lt ly_103 (by decide)) (by omega) (rh_103_1 R) ?_
  refine fg_ifnull_r (fg_ft (pc := 66) tb_Told_copyFrom 36 rfl) ?_
  refine fg_aloadn (fg_ft (pc := 69) tb_Told_copyFrom 37 rfl) rfl ?_
  refine fg_getR (fg_ft (pc := 70) tb_Told_copyFrom 38 rfl) ff_Told_21 ly_216 rfl (fg_lt ly_216 (by decide)) (rh_216_6 R) ?_
  refine fg_iloadn (fg_ft (pc := 73) tb_Told_copyFrom 39 rfl) rfl ?_
  refine fg_aaldN (fg_ft (pc := 74) tb_Told_copyFrom 40 rfl) ly_218 (by decide) (fg_lt ly_218 (by decide)) (by omega) (rh_218_1 R) ?_
  refine fg_ifnull_r (fg_ft (pc := 75) tb_Told_copyFrom 41 rfl) ?_
  refine fg_aloadn (fg_ft (pc := 78) tb_Told_copyFrom 42 rfl) rfl ?_
  refine fg_getR (fg_ft (pc := 79) tb_Told_copyFrom 43 rfl) ff_Told_21 ly_101 rfl (fg_lt ly_101 (by decide)) (rh_101_6 R) ?_
  refine fg_iloadn (fg_ft (pc := 82) tb_Told_copyFrom 44 rfl) rfl ?_
  refine fg_aaldN (fg_ft (pc := 83) tb_Told_copyFrom 45 rfl) ly_103 (by decide) (fg_lt ly_103 (by decide)) (by omega) (rh_103_1 R) ?_
  refine fg_aloadn (fg_ft (pc := 84) tb_Told_copyFrom 46 rfl) rfl ?_
  refine fg_getR (fg_ft (pc := 85) tb_Told_copyFrom 47 rfl) ff_Told_21 ly_216 rfl (fg_lt ly_216 (by decide)) (rh_216_6 R) ?_
  refine fg_iloadn (fg_ft (pc := 88) tb_Told_copyFrom 48 rfl) rfl ?_
  refine fg_aaldN (fg_ft (pc := 89) tb_Told_copyFrom 49 rfl) ly_218 (by decide) (fg_lt ly_218 (by decide)) (by omega) (rh_218_1 R) ?_
  refine fg_callV (fg_ft (pc := 90) tb_Told_copyFrom 50 rfl) cf_Told_44 (fg_isOf ly_118 rfl (fg_lt ly_118 (by decide))) (as := [.ref 233]) (st := []) rfl rfl (Nat.le_of_ble_eq_true rfl) (Nat.le_refl _) (Nat.le_refl _) (ev_Town_copyFrom (t := 118) (t2 := 233) (by unfold fg_isT; decide) (by unfold fg_isT; decide) (by decide) ?_)
  intro μ1 ag1 tc1 wd1
  show fg_wp _ _ _ _ _ _ _ _ _ (μ1, fg_rho R, 304)
  refine fg_iincN (fg_ft (pc := 93) tb_Told_copyFrom 51 rfl) rfl ic_1 rfl ?_
  refine fg_goto (tgt := 42) (fg_ft (pc := 96) tb_Told_copyFrom 52 rfl) (by decide) ?_
  refine fg_iloadn (fg_ft (pc := 42) tb_Told_copyFrom 22 rfl) rfl ?_
  refine fg_aloadn (fg_ft (pc := 43) tb_Told_copyFrom 23 rfl) rfl ?_
  refine fg_getR (fg_ft (pc := 44) tb_Told_copyFrom 24 rfl) ff_Told_21 ly_101 rfl (fg_lt ly_101 (by decide)) (rh_101_6 R) ?_
  refine fg_alen (fg_ft (pc := 47) tb_Told_copyFrom 25 rfl) ly_103 (by decide) (fg_lt ly_103 (by decide)) ?_
  refine fg_icmp_geN (tgt := 99) (fg_ft (pc := 48) tb_Told_copyFrom 26 rfl) (by decide) (by decide) (by decide) (fun c48 => ?_) (fun c48 => (absurd c48 (by decide)))
  refine fg_iconst (fg_ft (pc := 99) tb_Told_copyFrom 53 rfl) ic_0 ?_
  refine fg_istoren (fg_ft (pc := 100) tb_Told_copyFrom 54 rfl) (Nat.le_of_ble_eq_true rfl) ?_
  refine fg_iloadn (fg_ft (pc := 101) tb_Told_copyFrom 55 rfl) rfl ?_
  refine fg_aloadn (fg_ft (pc := 102) tb_Told_copyFrom 56 rfl) rfl ?_
  refine fg_getR (fg_ft (pc := 103) tb_Told_copyFrom 57 rfl) ff_Told_28 ly_101 rfl (fg_lt ly_101 (by decide)) (rh_101_7 R) ?_
  refine fg_alen (fg_ft (pc := 106) tb_Told_copyFrom 58 rfl) ly_132 (by decide) (fg_lt ly_132 (by decide)) ?_
  refine fg_icmp_geN (tgt := 158) (fg_ft (pc := 107) tb_Told_copyFrom 59 rfl) (by decide) (by decide) (by decide) (fun c107 => (absurd c107 (by decide))) (fun c107 => ?_)
  refine fg_iloadn (fg_ft (pc := 110) tb_Told_copyFrom 60 rfl) rfl ?_
  refine fg_aloadn (fg_ft (pc := 111) tb_Told_copyFrom 61 rfl) rfl ?_
  refine fg_getR (fg_ft (pc := 112) tb_Told_copyFrom 62 rfl) ff_Told_28 ly_216 rfl (fg_lt ly_216 (by decide)) (rh_216_7 R) ?_
  refine fg_alen (fg_ft (pc := 115) tb_Told_copyFrom 63 rfl) ly_247 (by decide) (fg_lt ly_247 (by decide)) ?_
  refine fg_icmp_geN (tgt := 158) (fg_ft (pc := 116) tb_Told_copyFrom 64 rfl) (by decide) (by decide) (by decide) (fun c116 => (absurd c116 (by decide))) (fun c116 => ?_)
  refine fg_aloadn (fg_ft (pc := 119) tb_Told_copyFrom 65 rfl) rfl ?_
  refine fg_getR (fg_ft (pc := 120) tb_Told_copyFrom 66 rfl) ff_Told_28 ly_101 rfl (fg_lt ly_101 (by decide)) (rh_101_7 R) ?_
  refine fg_iloadn (fg_ft (pc := 123) tb_Told_copyFrom 67 rfl) rfl ?_
  refine fg_aaldN (fg_ft (pc := 124) tb_Told_copyFrom 68 rfl) ly_132 (by decide) (fg_lt ly_132 (by decide)) (by omega) (rh_132_0 R) ?_
  refine fg_ifnull_r (fg_ft (pc := 125) tb_Told_copyFrom 69 rfl) ?_
  refine fg_aloadn (fg_ft (pc := 128) tb_Told_copyFrom 70 rfl) rfl ?_
  refine fg_getR (fg_ft (pc := 129) tb_Told_copyFrom 71 rfl) ff_Told_28 ly_216 rfl (fg_lt ly_216 (by decide)) (rh_216_7 R) ?_
  refine fg_iloadn (fg_ft (pc := 132) tb_Told_copyFrom 72 rfl) rfl ?_
  refine fg_aaldN (fg_ft (pc := 133) tb_Told_copyFrom 73 rfl) ly_247 (by decide) (fg_lt ly_247 (by decide)) (by omega) (rh_247_0 R) ?_
  refine fg_ifnull_r (fg_ft (pc := 134) tb_Told_copyFrom 74 rfl) ?_
  refine fg_aloadn (fg_ft (pc := 137) tb_Told_copyFrom 75 rfl) rfl ?_
  refine fg_getR (fg_ft (pc := 138) tb_Told_copyFrom 76 rfl) ff_Told_28 ly_101 rfl (fg_lt ly_101 (by decide)) (rh_101_7 R) ?_
  refine fg_iloadn (fg_ft (pc := 141) tb_Told_copyFrom 77 rfl) rfl ?_
  refine fg_aaldN (fg_ft (pc := 142) tb_Told_copyFrom 78 rfl) ly_132 (by decide) (fg_lt ly_132 (by decide)) (by omega) (rh_132_0 R) ?_
  refine fg_aloadn (fg_ft (pc := 143) tb_Told_copyFrom 79 rfl) rfl ?_
  refine fg_getR (fg_ft (pc := 144) tb_Told_copyFrom 80 rfl) ff_Told_28 ly_216 rfl (fg_lt ly_216 (by decide)) (rh_216_7 R) ?_
  refine fg_iloadn (fg_ft (pc := 147) tb_Told_copyFrom 81 rfl) rfl ?_
  refine fg_aaldN (fg_ft (pc := 148) tb_Told_copyFrom 82 rfl) ly_247 (by decide) (fg_lt ly_247 (by decide)) (by omega) (rh_247_0 R) ?_
  refine fg_callV (fg_ft (pc := 149) tb_Told_copyFrom 83 rfl) cf_Told_54 (fg_isOf ly_133 rfl (fg_lt ly_133 (by decide))) (as := [.ref 248]) (st := []) rfl rfl (Nat.le_of_ble_eq_true rfl) (Nat.le_refl _) (Nat.le_refl _) (ev_Rows_copyFromA (r := 133) (c := 134) (n := 120) (o := 248) (co := 249) ⟨ly_133, rfl, ly_134⟩ ⟨ly_248, rfl, ly_249⟩ (by decide) (by decide) ?_)
  intro ν0 ah0 rd0
  show fg_wp _ _ _ _ _ _ _ _ _ (ν0, fg_rho R, 304)
  refine fg_iincN (fg_ft (pc := 152) tb_Told_copyFrom 84 rfl) rfl ic_1 rfl ?_
  refine fg_goto (tgt := 101) (fg_ft (pc := 155) tb_Told_copyFrom 85 rfl) (by decide) ?_
  refine fg_iloadn (fg_ft (pc := 101) tb_Told_copyFrom 55 rfl) rfl ?_
  refine fg_aloadn (fg_ft (pc := 102) tb_Told_copyFrom 56 rfl) rfl ?_
  refine fg_getR (fg_ft (pc := 103) tb_Told_copyFrom 57 rfl) ff_Told_28 ly_101 rfl (fg_lt ly_101 (by decide)) (rh_101_7 R) ?_
  refine fg_alen (fg_ft (pc := 106) tb_Told_copyFrom 58 rfl) ly_132 (by decide) (fg_lt ly_132 (by decide)) ?_
  refine fg_icmp_geN (tgt := 158) (fg_ft (pc := 107) tb_Told_copyFrom 59 rfl) (by decide) (by decide) (by decide) (fun c107 => (absurd c107 (by decide))) (fun c107 => ?_)
  refine fg_iloadn (fg_ft (pc := 110) tb_Told_copyFrom 60 rfl) rfl ?_
  refine fg_aloadn (fg_ft (pc := 111) tb_Told_copyFrom 61 rfl) rfl ?_
  refine fg_getR (fg_ft (pc := 112) tb_Told_copyFrom 62 rfl) ff_Told_28 ly_216 rfl (fg_lt ly_216 (by decide)) (rh_216_7 R) ?_
  refine fg_alen (fg_ft (pc := 115) tb_Told_copyFrom 63 rfl) ly_247 (by decide) (fg_lt ly_247 (by decide)) ?_
  refine fg_icmp_geN (tgt := 158) (fg_ft (pc := 116) tb_Told_copyFrom 64 rfl) (by decide) (by decide) (by decide) (fun c116 => (absurd c116 (by decide))) (fun c116 => ?_)
  refine fg_aloadn (fg_ft (pc := 119) tb_Told_copyFrom 65 rfl) rfl ?_
  refine fg_getR (fg_ft (pc := 120) tb_Told_copyFrom 66 rfl) ff_Told_28 ly_101 rfl (fg_lt ly_101 (by decide)) (rh_101_7 R) ?_
  refine fg_iloadn (fg_ft (pc := 123) tb_Told_copyFrom 67 rfl) rfl ?_
  refine fg_aaldN (fg_ft (pc := 124) tb_Told_copyFrom 68 rfl) ly_132 (by decide) (fg_lt ly_132 (by decide)) (by omega) (rh_132_1 R) ?_
  refine fg_ifnull_r (fg_ft (pc := 125) tb_Told_copyFrom 69 rfl) ?_
  refine fg_aloadn (fg_ft (pc := 128) tb_Told_copyFrom 70 rfl) rfl ?_
  refine fg_getR (fg_ft (pc := 129) tb_Told_copyFrom 71 rfl) ff_Told_28 ly_216 rfl (fg_lt ly_216 (by decide)) (rh_216_7 R) ?_
  refine fg_iloadn (fg_ft (pc := 132) tb_Told_copyFrom 72 rfl) rfl ?_
  refine fg_aaldN (fg_ft (pc := 133) tb_Told_copyFrom 73 rfl) ly_247 (by decide) (fg_lt ly_247 (by decide)) (by omega) (rh_247_1 R) ?_
  refine fg_ifnull_r (fg_ft (pc := 134) tb_Told_copyFrom 74 rfl) ?_
  refine fg_aloadn (fg_ft (pc := 137) tb_Told_copyFrom 75 rfl) rfl ?_
  refine fg_getR (fg_ft (pc := 138) tb_Told_copyFrom 76 rfl) ff_Told_28 ly_101 rfl (fg_lt ly_101 (by decide)) (rh_101_7 R) ?_
  refine fg_iloadn (fg_ft (pc := 141) tb_Told_copyFrom 77 rfl) rfl ?_
  refine fg_aaldN (fg_ft (pc := 142) tb_Told_copyFrom 78 rfl) ly_132 (by decide) (fg_lt ly_132 (by decide)) (by omega) (rh_132_1 R) ?_
  refine fg_aloadn (fg_ft (pc := 143) tb_Told_copyFrom 79 rfl) rfl ?_
  refine fg_getR (fg_ft (pc := 144) tb_Told_copyFrom 80 rfl) ff_Told_28 ly_216 rfl (fg_lt ly_216 (by decide)) (rh_216_7 R) ?_
  refine fg_iloadn (fg_ft (pc := 147) tb_Told_copyFrom 81 rfl) rfl ?_
  refine fg_aaldN (fg_ft (pc := 148) tb_Told_copyFrom 82 rfl) ly_247 (by decide) (fg_lt ly_247 (by decide)) (by omega) (rh_247_1 R) ?_
  refine fg_callV (fg_ft (pc := 149) tb_Told_copyFrom 83 rfl) cf_Told_54 (fg_isOf ly_135 rfl (fg_lt ly_135 (by decide))) (as := [.ref 250]) (st := []) rfl rfl (Nat.le_of_ble_eq_true rfl) (Nat.le_refl _) (Nat.le_refl _) (ev_Rows_copyFromA (r := 135) (c := 136) (n := 120) (o := 250) (co := 251) ⟨ly_135, rfl, ly_136⟩ ⟨ly_250, rfl, ly_251⟩ (by decide) (by decide) ?_)
  intro ν1 ah1 rd1
  show fg_wp _ _ _ _ _ _ _ _ _ (ν1, fg_rho R, 304)
  refine fg_iincN (fg_ft (pc := 152) tb_Told_copyFrom 84 rfl) rfl ic_1 rfl ?_
  refine fg_goto (tgt := 101) (fg_ft (pc := 155) tb_Told_copyFrom 85 rfl) (by decide) ?_
  refine fg_iloadn (fg_ft (pc := 101) tb_Told_copyFrom 55 rfl) rfl ?_
  refine fg_aloadn (fg_ft (pc := 102) tb_Told_copyFrom 56 rfl) rfl ?_
  refine fg_getR (fg_ft (pc := 103) tb_Told_copyFrom 57 rfl) ff_Told_28 ly_101 rfl (fg_lt ly_101 (by decide)) (rh_101_7 R) ?_
  refine fg_alen (fg_ft (pc := 106) tb_Told_copyFrom 58 rfl) ly_132 (by decide) (fg_lt ly_132 (by decide)) ?_
  refine fg_icmp_geN (tgt := 158) (fg_ft (pc := 107) tb_Told_copyFrom 59 rfl) (by decide) (by decide) (by decide) (fun c107 => (absurd c107 (by decide))) (fun c107 => ?_)
  refine fg_iloadn (fg_ft (pc := 110) tb_Told_copyFrom 60 rfl) rfl ?_
  refine fg_aloadn (fg_ft (pc := 111) tb_Told_copyFrom 61 rfl) rfl ?_
  refine fg_getR (fg_ft (pc := 112) tb_Told_copyFrom 62 rfl) ff_Told_28 ly_216 rfl (fg_lt ly_216 (by decide)) (rh_216_7 R) ?_
  refine fg_alen (fg_ft (pc := 115) tb_Told_copyFrom 63 rfl) ly_247 (by decide) (fg_lt ly_247 (by decide)) ?_
  refine fg_icmp_geN (tgt := 158) (fg_ft (pc := 116) tb_Told_copyFrom 64 rfl) (by decide) (by decide) (by decide) (fun c116 => (absurd c116 (by decide))) (fun c116 => ?_)
  refine fg_aloadn (fg_ft (pc := 119) tb_Told_copyFrom 65 rfl) rfl ?_
  refine fg_getR (fg_ft (pc := 120) tb_Told_copyFrom 66 rfl) ff_Told_28 ly_101 rfl (fg_lt ly_101 (by decide)) (rh_101_7 R) ?_
  refine fg_iloadn (fg_ft (pc := 123) tb_Told_copyFrom 67 rfl) rfl ?_
  refine fg_aaldN (fg_ft (pc := 124) tb_Told_copyFrom 68 rfl) ly_132 (by decide) (fg_lt ly_132 (by decide)) (by omega) (rh_132_2 R) ?_
  refine fg_ifnull_r (fg_ft (pc := 125) tb_Told_copyFrom 69 rfl) ?_
  refine fg_aloadn (fg_ft (pc := 128) tb_Told_copyFrom 70 rfl) rfl ?_
  refine fg_getR (fg_ft (pc := 129) tb_Told_copyFrom 71 rfl) ff_Told_28 ly_216 rfl (fg_lt ly_216 (by decide)) (rh_216_7 R) ?_
  refine fg_iloadn (fg_ft (pc := 132) tb_Told_copyFrom 72 rfl) rfl ?_
  refine fg_aaldN (fg_ft (pc := 133) tb_Told_copyFrom 73 rfl) ly_247 (by decide) (fg_lt ly_247 (by decide)) (by omega) (rh_247_2 R) ?_
  refine fg_ifnull_r (fg_ft (pc := 134) tb_Told_copyFrom 74 rfl) ?_
  refine fg_aloadn (fg_ft (pc := 137) tb_Told_copyFrom 75 rfl) rfl ?_
  refine fg_getR (fg_ft (pc := 138) tb_Told_copyFrom 76 rfl) ff_Told_28 ly_101 rfl (fg_lt ly_101 (by decide)) (rh_101_7 R) ?_
  refine fg_iloadn (fg_ft (pc := 141) tb_Told_copyFrom 77 rfl) rfl ?_
  refine fg_aaldN (fg_ft (pc := 142) tb_Told_copyFrom 78 rfl) ly_132 (by decide) (fg_lt ly_132 (by decide)) (by omega) (rh_132_2 R) ?_
  refine fg_aloadn (fg_ft (pc := 143) tb_Told_copyFrom 79 rfl) rfl ?_
  refine fg_getR (fg_ft (pc := 144) tb_Told_copyFrom 80 rfl) ff_Told_28 ly_216 rfl (fg_lt ly_216 (by decide)) (rh_216_7 R) ?_
  refine fg_iloadn (fg_ft (pc := 147) tb_Told_copyFrom 81 rfl) rfl ?_
  refine fg_aaldN (fg_ft (pc := 148) tb_Told_copyFrom 82 rfl) ly_247 (by decide) (fg_lt ly_247 (by decide)) (by omega) (rh_247_2 R) ?_
  refine fg_callV (fg_ft (pc := 149) tb_Told_copyFrom 83 rfl) cf_Told_54 (fg_isOf ly_137 rfl (fg_lt ly_137 (by decide))) (as := [.ref 252]) (st := []) rfl rfl (Nat.le_of_ble_eq_true rfl) (Nat.le_refl _) (Nat.le_refl _) (ev_Rows_copyFromA (r := 137) (c := 138) (n := 120) (o := 252) (co := 253) ⟨ly_137, rfl, ly_138⟩ ⟨ly_252, rfl, ly_253⟩ (by decide) (by decide) ?_)
  intro ν2 ah2 rd2
  show fg_wp _ _ _ _ _ _ _ _ _ (ν2, fg_rho R, 304)
  refine fg_iincN (fg_ft (pc := 152) tb_Told_copyFrom 84 rfl) rfl ic_1 rfl ?_
  refine fg_goto (tgt := 101) (fg_ft (pc := 155) tb_Told_copyFrom 85 rfl) (by decide) ?_
  refine fg_iloadn (fg_ft (pc := 101) tb_Told_copyFrom 55 rfl) rfl ?_
  refine fg_aloadn (fg_ft (pc := 102) tb_Told_copyFrom 56 rfl) rfl ?_
  refine fg_getR (fg_ft (pc := 103) tb_Told_copyFrom 57 rfl) ff_Told_28 ly_101 rfl (fg_lt ly_101 (by decide)) (rh_101_7 R) ?_
  refine fg_alen (fg_ft (pc := 106) tb_Told_copyFrom 58 rfl) ly_132 (by decide) (fg_lt ly_132 (by decide)) ?_
  refine fg_icmp_geN (tgt := 158) (fg_ft (pc := 107) tb_Told_copyFrom 59 rfl) (by decide) (by decide) (by decide) (fun c107 => ?_) (fun c107 => (absurd c107 (by decide)))
  refine fg_aloadn (fg_ft (pc := 158) tb_Told_copyFrom 86 rfl) rfl ?_
  refine fg_aloadn (fg_ft (pc := 159) tb_Told_copyFrom 87 rfl) rfl ?_
  refine fg_getI (fg_ft (pc := 160) tb_Told_copyFrom 88 rfl) ff_Told_38 ly_216 rfl (fg_lt ly_216 (by decide)) ?_
  refine fg_putI (fg_ft (pc := 163) tb_Told_copyFrom 89 rfl) ff_Told_38 ly_101 rfl (fg_lt ly_101 (by decide)) (fg_nokI _) (fun _ _ h => by cases h; rfl) ?_
  show fg_wp _ _ _ _ _ _ _ _ _ (fg_u2 ν2 101 4 (ν2 216 4), fg_rho R, 304)
  refine fg_aloadn (fg_ft (pc := 166) tb_Told_copyFrom 90 rfl) rfl ?_
  refine fg_aloadn (fg_ft (pc := 167) tb_Told_copyFrom 91 rfl) rfl ?_
  refine fg_getI (fg_ft (pc := 168) tb_Told_copyFrom 92 rfl) ff_Told_41 ly_216 rfl (fg_lt ly_216 (by decide)) ?_
  refine fg_putI (fg_ft (pc := 171) tb_Told_copyFrom 93 rfl) ff_Told_41 ly_101 rfl (fg_lt ly_101 (by decide)) (fg_nokI _) (fun _ _ h => by cases h; rfl) ?_
  show fg_wp _ _ _ _ _ _ _ _ _ (fg_u2 (fg_u2 ν2 101 4 (ν2 216 4)) 101 5 ((fg_u2 ν2 101 4 (ν2 216 4)) 216 5), fg_rho R, 304)
  exact fg_vret (fg_ft (pc := 174) tb_Told_copyFrom 94 rfl) rfl rfl (by
  have c5 : ∀ a, a ≠ 101 → ∀ j, (fg_u2 (fg_u2 ν2 101 4 (ν2 216 4)) 101 5 ((fg_u2 ν2 101 4 (ν2 216 4)) 216 5)) a j = ν2 a j := fun a ha j => (fg_u2ne ha).trans (fg_u2ne ha)
  have cv : ∀ a, (a < 133 ∨ 139 ≤ a) → ∀ j, ν2 a j = μ1 a j := fun a ha j => (ah2 a j (by omega) (by omega)).trans ((ah1 a j (by omega) (by omega)).trans (ah0 a j (by omega) (by omega)))
  have c1 : ∀ a, (a < 118 ∨ 132 ≤ a) → ∀ j, μ1 a j = μ0 a j := fun a ha j => ag1 a (by omega) j
  have c0 : ∀ a, (a < 104 ∨ 118 ≤ a) → ∀ j, μ0 a j = m0 a j := fun a ha j => ag0 a (by omega) j
  have cm : ∀ a, (a < 104 ∨ 139 ≤ a) → ∀ j, ν2 a j = m0 a j := fun a ha j => (cv a (by omega) j).trans ((c1 a (by omega) j).trans (c0 a (by omega) j))
  refine hQ _ ⟨fun j h1 h5 => ?_, fun j hj => (c5 _ (by decide) _).trans ((cm _ (by decide) _).trans (e1 j hj)), fun i hi => ?_, fun i hi => ?_, fun a ha j => (c5 a (by omega) j).trans ((cm a (by omega) j).trans (e0 a (by omega) (by omega) j))⟩
  · rcases (show j = 1 ∨ j = 2 ∨ j = 3 ∨ j = 4 ∨ j = 5 by omega) with rfl | rfl | rfl | rfl | rfl
    · exact (fg_u2ns (by decide)).trans ((fg_u2ns (by decide)).trans ((cm _ (by decide) _).trans s1))
    · exact (fg_u2ns (by decide)).trans ((fg_u2ns (by decide)).trans ((cm _ (by decide) _).trans s2))
    · exact (fg_u2ns (by decide)).trans ((fg_u2ns (by decide)).trans ((cm _ (by decide) _).trans s3))
    · exact (fg_u2ns (by decide)).trans (fg_u2eq.trans ((cm _ (by decide) _).trans (e0 _ (by decide) (by decide) _)))
    · exact fg_u2eq.trans ((fg_u2ne (by decide)).trans ((cm _ (by decide) _).trans (e0 _ (by decide) (by decide) _)))
  · rcases (show i = 0 ∨ i = 1 by omega) with rfl | rfl
    · have hk : ∀ a, 104 ≤ a → a < 118 → ∀ j, (fg_u2 (fg_u2 ν2 101 4 (ν2 216 4)) 101 5 ((fg_u2 ν2 101 4 (ν2 216 4)) 216 5)) a j = μ0 a j := fun a h1 h2 j => (c5 a (by omega) j).trans ((cv a (by omega) j).trans (c1 a (by omega) j))
      exact ⟨fg_TC.fr (t := 104) (t2 := 219) tc0 (fun a h1 h2 j => e0 a (by omega) (by omega) j) hk, fun hw => fg_wdT.fr (t := 104) (wd0 (fg_wdT.fr (t := 104) hw (fun a h1 h2 j => e0 a (by omega) (by omega) j))) hk⟩
    · have hk : ∀ a, 118 ≤ a → a < 132 → ∀ j, (fg_u2 (fg_u2 ν2 101 4 (ν2 216 4)) 101 5 ((fg_u2 ν2 101 4 (ν2 216 4)) 216 5)) a j = μ1 a j := fun a h1 h2 j => (c5 a (by omega) j).trans (cv a (by omega) j)
      exact ⟨fg_TC.fr (t := 118) (t2 := 233) tc1 (fun a h1 h2 j => (c0 a (by omega) j).trans (e0 a (by omega) (by omega) j)) hk, fun hw => fg_wdT.fr (t := 118) (wd1 (fg_wdT.fr (t := 118) hw (fun a h1 h2 j => (c0 a (by omega) j).trans (e0 a (by omega) (by omega) j)))) hk⟩
  · have co : ∀ a, (a < 101 ∨ 132 ≤ a) → ∀ j, μ1 a j = μ a j := fun a ha j => (c1 a (by omega) j).trans ((c0 a (by omega) j).trans (e0 a (by omega) (by omega) j))
    rcases (show i = 0 ∨ i = 1 ∨ i = 2 by omega) with rfl | rfl | rfl
    · exact ⟨(((c5 133 (by decide) 0).trans (ah2 133 0 (by decide) (by decide))).trans (ah1 133 0 (by decide) (by decide))).trans (rd0.1.trans (co 133 (by decide) 0)), (((c5 133 (by decide) 2).trans (ah2 133 2 (by decide) (by decide))).trans (ah1 133 2 (by decide) (by decide))).trans (rd0.2.1.trans (co 248 (by decide) 2)), fun j hj => (((c5 134 (by decide) j).trans (ah2 134 j (by decide) (by decide))).trans (ah1 134 j (by decide) (by decide))).trans ((rd0.2.2 j hj).trans (co 249 (by decide) j))⟩
    · exact ⟨((c5 135 (by decide) 0).trans (ah2 135 0 (by decide) (by decide))).trans (rd1.1.trans ((ah0 135 0 (by decide) (by decide)).trans (co 135 (by decide) 0))), ((c5 135 (by decide) 2).trans (ah2 135 2 (by decide) (by decide))).trans (rd1.2.1.trans ((ah0 250 2 (by decide) (by decide)).trans (co 250 (by decide) 2))), fun j hj => ((c5 136 (by decide) j).trans (ah2 136 j (by decide) (by decide))).trans ((rd1.2.2 j hj).trans ((ah0 251 j (by decide) (by decide)).trans (co 251 (by decide) j)))⟩
    · exact ⟨(c5 137 (by decide) 0).trans (rd2.1.trans ((ah1 137 0 (by decide) (by decide)).trans ((ah0 137 0 (by decide) (by decide)).trans (co 137 (by decide) 0)))), (c5 137 (by decide) 2).trans (rd2.2.1.trans ((ah1 252 2 (by decide) (by decide)).trans ((ah0 252 2 (by decide) (by decide)).trans (co 252 (by decide) 2)))), fun j hj => (c5 138 (by decide) j).trans ((rd2.2.2 j hj).trans ((ah1 253 j (by decide) (by decide)).trans ((ah0 253 j (by decide) (by decide)).trans (co 253 (by decide) j))))⟩)
theorem ev_Told_copy_216_101 {E : fg_E} {d : Nat} {μ : Nat → Nat → Int32} {R : fg_T4} {Q : Option Value → fg_M → Prop} (hfit : ∀ i, i < 600 → fits (fg_aty (11 - 10)) (.int (μ 102 i)) = true) (hQ : ∀ μ' : Nat → Nat → Int32, fg_KC μ 101 μ' 216 → Q none (μ', fg_rho R, 304)) : fg_Ev E yy_Told_copyFrom (d + 3) [.ref 216, .ref 101] (μ, fg_rho R, 304) 304 Q := by
  refine fg_intro (by decide +kernel) (Nat.le_of_ble_eq_true rfl) (fg_okAs rfl) (Nat.le_refl _) ?_
  refine fg_aloadn (fg_ft (pc := 0) tb_Told_copyFrom 0 rfl) rfl ?_
  refine fg_getR (fg_ft (pc := 1) tb_Told_copyFrom 1 rfl) ff_Told_9 ly_101 rfl (fg_lt ly_101 (by decide)) (rh_101_0 R) ?_
  refine fg_iconst (fg_ft (pc := 4) tb_Told_copyFrom 2 rfl) ic_0 ?_
  refine fg_aloadn (fg_ft (pc := 5) tb_Told_copyFrom 3 rfl) rfl ?_
  refine fg_getR (fg_ft (pc := 6) tb_Told_copyFrom 4 rfl) ff_Told_9 ly_216 rfl (fg_lt ly_216 (by decide)) (rh_216_0 R) ?_
  refine fg_iconst (fg_ft (pc := 9) tb_Told_copyFrom 5 rfl) ic_0 ?_
  refine fg_sipush (fg_ft (pc := 10) tb_Told_copyFrom 6 rfl) is_600 ?_
  refine fg_copy (fg_ft (pc := 13) tb_Told_copyFrom 7 rfl) fy_Told_57 fy_native fy_static fy_init (Or.inr rfl) ly_102 ly_217 (fg_lt ly_102 (by decide)) (fg_lt ly_217 (by decide)) rfl rfl rfl (by omega) (by omega) (hfit) (Nat.le_of_ble_eq_true rfl) ?_
  show fg_wp _ _ _ _ _ _ _ _ _ (fg_cp1 μ 102 217 600, fg_rho R, 304)
  refine fg_aloadn (fg_ft (pc := 16) tb_Told_copyFrom 8 rfl) rfl ?_
  refine fg_aloadn (fg_ft (pc := 17) tb_Told_copyFrom 9 rfl) rfl ?_
  refine fg_getI (fg_ft (pc := 18) tb_Told_copyFrom 10 rfl) ff_Told_35 ly_101 rfl (fg_lt ly_101 (by decide)) ?_
  refine fg_putI (fg_ft (pc := 21) tb_Told_copyFrom 11 rfl) ff_Told_35 ly_216 rfl (fg_lt ly_216 (by decide)) (fg_nokI _) (fun _ _ h => by cases h; rfl) ?_
  show fg_wp _ _ _ _ _ _ _ _ _ (fg_u2 (fg_cp1 μ 102 217 600) 216 1 ((fg_cp1 μ 102 217 600) 101 1), fg_rho R, 304)
  refine fg_aloadn (fg_ft (pc := 24) tb_Told_copyFrom 12 rfl) rfl ?_
  refine fg_aloadn (fg_ft (pc := 25) tb_Told_copyFrom 13 rfl) rfl ?_
  refine fg_getI (fg_ft (pc := 26) tb_Told_copyFrom 14 rfl) ff_Told_63 ly_101 rfl (fg_lt ly_101 (by decide)) ?_
  refine fg_putI (fg_ft (pc := 29) tb_Told_copyFrom 15 rfl) ff_Told_63 ly_216 rfl (fg_lt ly_216 (by decide)) (fg_nokI _) (fun _ _ h => by cases h; rfl) ?_
  show fg_wp _ _ _ _ _ _ _ _ _ (fg_u2 (fg_u2 (fg_cp1 μ 102 217 600) 216 1 ((fg_cp1 μ 102 217 600) 101 1)) 216 2 ((fg_u2 (fg_cp1 μ 102 217 600) 216 1 ((fg_cp1 μ 102 217 600) 101 1)) 101 2), fg_rho R, 304)
  refine fg_aloadn (fg_ft (pc := 32) tb_Told_copyFrom 16 rfl) rfl ?_
  refine fg_aloadn (fg_ft (pc := 33) tb_Told_copyFrom 17 rfl) rfl ?_
  refine fg_getI (fg_ft (pc := 34) tb_Told_copyFrom 18 rfl) ff_Told_15 ly_101 rfl (fg_lt ly_101 (by decide)) ?_
  refine fg_putI (fg_ft (pc := 37) tb_Told_copyFrom 19 rfl) ff_Told_15 ly_216 rfl (fg_lt ly_216 (by decide)) (fg_nokI _) (fun _ _ h => by cases h; rfl) ?_
  show fg_wp _ _ _ _ _ _ _ _ _ (fg_u2 (fg_u2 (fg_u2 (fg_cp1 μ 102 217 600) 216 1 ((fg_cp1 μ 102 217 600) 101 1)) 216 2 ((fg_u2 (fg_cp1 μ 102 217 600) 216 1 ((fg_cp1 μ 102 217 600) 101 1)) 101 2)) 216 3 ((fg_u2 (fg_u2 (fg_cp1 μ 102 217 600) 216 1 ((fg_cp1 μ 102 217 600) 101 1)) 216 2 ((fg_u2 (fg_cp1 μ 102 217 600) 216 1 ((fg_cp1 μ 102 217 600) 101 1)) 101 2)) 101 3), fg_rho R, 304)
  obtain ⟨m0, hm0⟩ : ∃ m0, m0 = fg_u2 (fg_u2 (fg_u2 (fg_cp1 μ 102 217 600) 216 1 ((fg_cp1 μ 102 217 600) 101 1)) 216 2 ((fg_u2 (fg_cp1 μ 102 217 600) 216 1 ((fg_cp1 μ 102 217 600) 101 1)) 101 2)) 216 3 ((fg_u2 (fg_u2 (fg_cp1 μ 102 217 600) 216 1 ((fg_cp1 μ 102 217 600) 101 1)) 216 2 ((fg_u2 (fg_cp1 μ 102 217 600) 216 1 ((fg_cp1 μ 102 217 600) 101 1)) 101 2)) 101 3) := ⟨_, rfl⟩
  rw [← hm0]
  have e0 : ∀ a, a ≠ 216 → a ≠ 217 → ∀ j, m0 a j = μ a j := fun a a1 a2 j => by rw [hm0]; exact (fg_u2ne a1).trans ((fg_u2ne a1).trans ((fg_u2ne a1).trans (fg_cp1_ne a2)))
  have e1 : ∀ j, j < 600 → m0 217 j = μ 102 j := fun j hj => by rw [hm0]; exact (fg_u2ne (by decide)).trans ((fg_u2ne (by decide)).trans ((fg_u2ne (by decide)).trans (fg_cp1_lt hj)))
  have s1 : m0 216 1 = μ 101 1 := by rw [hm0]; exact (fg_u2ns (by decide)).trans ((fg_u2ns (by decide)).trans (fg_u2eq.trans (fg_cp1_ne (by decide))))
  have s2 : m0 216 2 = μ 101 2 := by rw [hm0]; exact (fg_u2ns (by decide)).trans (fg_u2eq.trans ((fg_u2ne (by decide)).trans (fg_cp1_ne (by decide))))
  have s3 : m0 216 3 = μ 101 3 := by rw [hm0]; exact fg_u2eq.trans ((fg_u2ne (by decide)).trans ((fg_u2ne (by decide)).trans (fg_cp1_ne (by decide))))
  refine fg_iconst (fg_ft (pc := 40) tb_Told_copyFrom 20 rfl) ic_0 ?_
  refine fg_istoren (fg_ft (pc := 41) tb_Told_copyFrom 21 rfl) (Nat.le_of_ble_eq_true rfl) ?_
  refine fg_iloadn (fg_ft (pc := 42) tb_Told_copyFrom 22 rfl) rfl ?_
  refine fg_aloadn (fg_ft (pc := 43) tb_Told_copyFrom 23 rfl) rfl ?_
  refine fg_getR (fg_ft (pc := 44) tb_Told_copyFrom 24 rfl) ff_Told_21 ly_216 rfl (fg_lt ly_216 (by decide)) (rh_216_6 R) ?_
  refine fg_alen (fg_ft (pc := 47) tb_Told_copyFrom 25 rfl) ly_218 (by decide) (fg_lt ly_218 (by decide)) ?_
  refine fg_icmp_geN (tgt := 99) (fg_ft (pc := 48) tb_Told_copyFrom 26 rfl) (by decide) (by decide) (by decide) (fun c48 => (absurd c48 (by decide))) (fun c48 => ?_)
  refine fg_iloadn (fg_ft (pc := 51) tb_Told_copyFrom 27 rfl) rfl ?_
  refine fg_aloadn (fg_ft (pc := 52) tb_Told_copyFrom 28 rfl) rfl ?_
  refine fg_getR (fg_ft (pc := 53) tb_Told_copyFrom 29 rfl) ff_Told_21 ly_101 rfl (fg_lt ly_101 (by decide)) (rh_101_6 R) ?_
  refine fg_alen (fg_ft (pc := 56) tb_Told_copyFrom 30 rfl) ly_103 (by decide) (fg_lt ly_103 (by decide)) ?_
  refine fg_icmp_geN (tgt := 99) (fg_ft (pc := 57) tb_Told_copyFrom 31 rfl) (by decide) (by decide) (by decide) (fun c57 => (absurd c57 (by decide))) (fun c57 => ?_)
  refine fg_aloadn (fg_ft (pc := 60) tb_Told_copyFrom 32 rfl) rfl ?_
  refine fg_getR (fg_ft (pc := 61) tb_Told_copyFrom 33 rfl) ff_Told_21 ly_216 rfl (fg_lt ly_216 (by decide)) (rh_216_6 R) ?_
  refine fg_iloadn (fg_ft (pc := 64) tb_Told_copyFrom 34 rfl) rfl ?_
  refine fg_aaldN (fg_ft (pc := 65) tb_Told_copyFrom 35 rfl) ly_218 (by decide) (fg_lt ly_218 (by decide)) (by omega) (rh_218_0 R) ?_
  refine fg_ifnull_r (fg_ft (pc := 66) tb_Told_copyFrom 36 rfl) ?_
  refine fg_aloadn (fg_ft (pc := 69) tb_Told_copyFrom 37 rfl) rfl ?_
  refine fg_getR (fg_ft (pc := 70) tb_Told_copyFrom 38 rfl) ff_Told_21 ly_101 rfl (fg_lt ly_101 (by decide)) (rh_101_6 R) ?_
  refine fg_iloadn (fg_ft (pc := 73) tb_Told_copyFrom 39 rfl) rfl ?_
  refine fg_aaldN (fg_ft (pc := 74) tb_Told_copyFrom 40 rfl) ly_103 (by decide) (fg_lt ly_103 (by decide)) (by omega) (rh_103_0 R) ?_
  refine fg_ifnull_r (fg_ft (pc := 75) tb_Told_copyFrom 41 rfl) ?_
  refine fg_aloadn (fg_ft (pc := 78) tb_Told_copyFrom 42 rfl) rfl ?_
  refine fg_getR (fg_ft (pc := 79) tb_Told_copyFrom 43 rfl) ff_Told_21 ly_216 rfl (fg_lt ly_216 (by decide)) (rh_216_6 R) ?_
  refine fg_iloadn (fg_ft (pc := 82) tb_Told_copyFrom 44 rfl) rfl ?_
  refine fg_aaldN (fg_ft (pc := 83) tb_Told_copyFrom 45 rfl) ly_218 (by decide) (fg_lt ly_218 (by decide)) (by omega) (rh_218_0 R) ?_
  refine fg_aloadn (fg_ft (pc := 84) tb_Told_copyFrom 46 rfl) rfl ?_
  refine fg_getR (fg_ft (pc := 85) tb_Told_copyFrom 47 rfl) ff_Told_21 ly_101 rfl (fg_lt ly_101 (by decide)) (rh_101_6 R) ?_
  refine fg_iloadn (fg_ft (pc := 88) tb_Told_copyFrom 48 rfl) rfl ?_
  refine fg_aaldN (fg_ft (pc := 89) tb_Told_copyFrom 49 rfl) ly_103 (by decide) (fg_lt ly_103 (by decide)) (by omega) (rh_103_0 R) ?_
  refine fg_callV (fg_ft (pc := 90) tb_Told_copyFrom 50 rfl) cf_Told_44 (fg_isOf ly_219 rfl (fg_lt ly_219 (by decide))) (as := [.ref 104]) (st := []) rfl rfl (Nat.le_of_ble_eq_true rfl) (Nat.le_refl _) (Nat.le_refl _) (ev_Town_copyFrom (t := 219) (t2 := 104) (by unfold fg_isT; decide) (by unfold fg_isT; decide) (by decide) ?_)
  intro μ0 ag0 tc0 wd0
  show fg_wp _ _ _ _ _ _ _ _ _ (μ0, fg_rho R, 304)
  refine fg_iincN (fg_ft (pc := 93) tb_Told_copyFrom 51 rfl) rfl ic_1 rfl ?_
  refine fg_goto (tgt := 42) (fg_ft (pc := 96) tb_Told_copyFrom 52 rfl) (by decide) ?_
  refine fg_iloadn (fg_ft (pc := 42) tb_Told_copyFrom 22 rfl) rfl ?_
  refine fg_aloadn (fg_ft (pc := 43) tb_Told_copyFrom 23 rfl) rfl ?_
  refine fg_getR (fg_ft (pc := 44) tb_Told_copyFrom 24 rfl) ff_Told_21 ly_216 rfl (fg_lt ly_216 (by decide)) (rh_216_6 R) ?_
  refine fg_alen (fg_ft (pc := 47) tb_Told_copyFrom 25 rfl) ly_218 (by decide) (fg_lt ly_218 (by decide)) ?_
  refine fg_icmp_geN (tgt := 99) (fg_ft (pc := 48) tb_Told_copyFrom 26 rfl) (by decide) (by decide) (by decide) (fun c48 => (absurd c48 (by decide))) (fun c48 => ?_)
  refine fg_iloadn (fg_ft (pc := 51) tb_Told_copyFrom 27 rfl) rfl ?_
  refine fg_aloadn (fg_ft (pc := 52) tb_Told_copyFrom 28 rfl) rfl ?_
  refine fg_getR (fg_ft (pc := 53) tb_Told_copyFrom 29 rfl) ff_Told_21 ly_101 rfl (fg_lt ly_101 (by decide)) (rh_101_6 R) ?_
  refine fg_alen (fg_ft (pc := 56) tb_Told_copyFrom 30 rfl) ly_103 (by decide) (fg_lt ly_103 (by decide)) ?_
  refine fg_icmp_geN (tgt := 99) (fg_ft (pc := 57) tb_Told_copyFrom 31 rfl) (by decide) (by decide) (by decide) (fun c57 => (absurd c57 (by decide))) (fun c57 => ?_)
  refine fg_aloadn (fg_ft (pc := 60) tb_Told_copyFrom 32 rfl) rfl ?_
  refine fg_getR (fg_ft (pc := 61) tb_Told_copyFrom 33 rfl) ff_Told_21 ly_216 rfl (fg_lt ly_216 (by decide)) (rh_216_6 R) ?_
  refine fg_iloadn (fg_ft (pc := 64) tb_Told_copyFrom 34 rfl) rfl ?_
  refine fg_aaldN (fg_ft (pc := 65) tb_Told_copyFrom 35 rfl) ly_218 (by decide) (fg_lt ly_218 (by decide)) (by omega) (rh_218_1 R) ?_
  refine fg_ifnull_r (fg_ft (pc := 66) tb_Told_copyFrom 36 rfl) ?_
  refine fg_aloadn (fg_ft (pc := 69) tb_Told_copyFrom 37 rfl) rfl ?_
  refine fg_getR (fg_ft (pc := 70) tb_Told_copyFrom 38 rfl) ff_Told_21 ly_101 rfl (fg_lt ly_101 (by decide)) (rh_101_6 R) ?_
  refine fg_iloadn (fg_ft (pc := 73) tb_Told_copyFrom 39 rfl) rfl ?_
  refine fg_aaldN (fg_ft (pc := 74) tb_Told_copyFrom 40 rfl) ly_103 (by decide) (fg_lt ly_103 (by decide)) (by omega) (rh_103_1 R) ?_
  refine fg_ifnull_r (fg_ft (pc := 75) tb_Told_copyFrom 41 rfl) ?_
  refine fg_aloadn (fg_ft (pc := 78) tb_Told_copyFrom 42 rfl) rfl ?_
  refine fg_getR (fg_ft (pc := 79) tb_Told_copyFrom 43 rfl) ff_Told_21 ly_216 rfl (fg_lt ly_216 (by decide)) (rh_216_6 R) ?_
  refine fg_iloadn (fg_ft (pc := 82) tb_Told_copyFrom 44 rfl) rfl ?_
  refine fg_aaldN (fg_ft (pc := 83) tb_Told_copyFrom 45 rfl) ly_218 (by decide) (fg_lt ly_218 (by decide)) (by omega) (rh_218_1 R) ?_
  refine fg_aloadn (fg_ft (pc := 84) tb_Told_copyFrom 46 rfl) rfl ?_
  refine fg_getR (fg_ft (pc := 85) tb_Told_copyFrom 47 rfl) ff_Told_21 ly_101 rfl (fg_lt ly_101 (by decide)) (rh_101_6 R) ?_
  refine fg_iloadn (fg_ft (pc := 88) tb_Told_copyFrom 48 rfl) rfl ?_
  refine fg_aaldN (fg_ft (pc := 89) tb_Told_copyFrom 49 rfl) ly_103 (by decide) (fg_lt ly_103 (by decide)) (by omega) (rh_103_1 R) ?_
  refine fg_callV (fg_ft (pc := 90) tb_Told_copyFrom 50 rfl) cf_Told_44 (fg_isOf ly_233 rfl (fg_lt ly_233 (by decide))) (as := [.ref 118]) (st := []) rfl rfl (Nat.le_of_ble_eq_true rfl) (Nat.le_refl _) (Nat.le_refl _) (ev_Town_copyFrom (t := 233) (t2 := 118) (by unfold fg_isT; decide) (by unfold fg_isT; decide) (by decide) ?_)
  intro μ1 ag1 tc1 wd1
  show fg_wp _ _ _ _ _ _ _ _ _ (μ1, fg_rho R, 304)
  refine fg_iincN (fg_ft (pc := 93) tb_Told_copyFrom 51 rfl) rfl ic_1 rfl ?_
  refine fg_goto (tgt := 42) (fg_ft (pc := 96) tb_Told_copyFrom 52 rfl) (by decide) ?_
  refine fg_iloadn (fg_ft (pc := 42) tb_Told_copyFrom 22 rfl) rfl ?_
  refine fg_aloadn (fg_ft (pc := 43) tb_Told_copyFrom 23 rfl) rfl ?_
  refine fg_getR (fg_ft (pc := 44) tb_Told_copyFrom 24 rfl) ff_Told_21 ly_216 rfl (fg_lt ly_216 (by decide)) (rh_216_6 R) ?_
  refine fg_alen (fg_ft (pc := 47) tb_Told_copyFrom 25 rfl) ly_218 (by decide) (fg_lt ly_218 (by decide)) ?_
  refine fg_icmp_geN (tgt := 99) (fg_ft (pc := 48) tb_Told_copyFrom 26 rfl) (by decide) (by decide) (by decide) (fun c48 => ?_) (fun c48 => (absurd c48 (by decide)))
  refine fg_iconst (fg_ft (pc := 99) tb_Told_copyFrom 53 rfl) ic_0 ?_
  refine fg_istoren (fg_ft (pc := 100) tb_Told_copyFrom 54 rfl) (Nat.le_of_ble_eq_true rfl) ?_
  refine fg_iloadn (fg_ft (pc := 101) tb_Told_copyFrom 55 rfl) rfl ?_
  refine fg_aloadn (fg_ft (pc := 102) tb_Told_copyFrom 56 rfl) rfl ?_
  refine fg_getR (fg_ft (pc := 103) tb_Told_copyFrom 57 rfl) ff_Told_28 ly_216 rfl (fg_lt ly_216 (by decide)) (rh_216_7 R) ?_
  refine fg_alen (fg_ft (pc := 106) tb_Told_copyFrom 58 rfl) ly_247 (by decide) (fg_lt ly_247 (by decide)) ?_
  refine fg_icmp_geN (tgt := 158) (fg_ft (pc := 107) tb_Told_copyFrom 59 rfl) (by decide) (by decide) (by decide) (fun c107 => (absurd c107 (by decide))) (fun c107 => ?_)
  refine fg_iloadn (fg_ft (pc := 110) tb_Told_copyFrom 60 rfl) rfl ?_
  refine fg_aloadn (fg_ft (pc := 111) tb_Told_copyFrom 61 rfl) rfl ?_
  refine fg_getR (fg_ft (pc := 112) tb_Told_copyFrom 62 rfl) ff_Told_28 ly_101 rfl (fg_lt ly_101 (by decide)) (rh_101_7 R) ?_
  refine fg_alen (fg_ft (pc := 115) tb_Told_copyFrom 63 rfl) ly_132 (by decide) (fg_lt ly_132 (by decide)) ?_
  refine fg_icmp_geN (tgt := 158) (fg_ft (pc := 116) tb_Told_copyFrom 64 rfl) (by decide) (by decide) (by decide) (fun c116 => (absurd c116 (by decide))) (fun c116 => ?_)
  refine fg_aloadn (fg_ft (pc := 119) tb_Told_copyFrom 65 rfl) rfl ?_
  refine fg_getR (fg_ft (pc := 120) tb_Told_copyFrom 66 rfl) ff_Told_28 ly_216 rfl (fg_lt ly_216 (by decide)) (rh_216_7 R) ?_
  refine fg_iloadn (fg_ft (pc := 123) tb_Told_copyFrom 67 rfl) rfl ?_
  refine fg_aaldN (fg_ft (pc := 124) tb_Told_copyFrom 68 rfl) ly_247 (by decide) (fg_lt ly_247 (by decide)) (by omega) (rh_247_0 R) ?_
  refine fg_ifnull_r (fg_ft (pc := 125) tb_Told_copyFrom 69 rfl) ?_
  refine fg_aloadn (fg_ft (pc := 128) tb_Told_copyFrom 70 rfl) rfl ?_
  refine fg_getR (fg_ft (pc := 129) tb_Told_copyFrom 71 rfl) ff_Told_28 ly_101 rfl (fg_lt ly_101 (by decide)) (rh_101_7 R) ?_
  refine fg_iloadn (fg_ft (pc := 132) tb_Told_copyFrom 72 rfl) rfl ?_
  refine fg_aaldN (fg_ft (pc := 133) tb_Told_copyFrom 73 rfl) ly_132 (by decide) (fg_lt ly_132 (by decide)) (by omega) (rh_132_0 R) ?_
  refine fg_ifnull_r (fg_ft (pc := 134) tb_Told_copyFrom 74 rfl) ?_
  refine fg_aloadn (fg_ft (pc := 137) tb_Told_copyFrom 75 rfl) rfl ?_
  refine fg_getR (fg_ft (pc := 138) tb_Told_copyFrom 76 rfl) ff_Told_28 ly_216 rfl (fg_lt ly_216 (by decide)) (rh_216_7 R) ?_
  refine fg_iloadn (fg_ft (pc := 141) tb_Told_copyFrom 77 rfl) rfl ?_
  refine fg_aaldN (fg_ft (pc := 142) tb_Told_copyFrom 78 rfl) ly_247 (by decide) (fg_lt ly_247 (by decide)) (by omega) (rh_247_0 R) ?_
  refine fg_aloadn (fg_ft (pc := 143) tb_Told_copyFrom 79 rfl) rfl ?_
  refine fg_getR (fg_ft (pc := 144) tb_Told_copyFrom 80 rfl) ff_Told_28 ly_101 rfl (fg_lt ly_101 (by decide)) (rh_101_7 R) ?_
  refine fg_iloadn (fg_ft (pc := 147) tb_Told_copyFrom 81 rfl) rfl ?_
  refine fg_aaldN (fg_ft (pc := 148) tb_Told_copyFrom 82 rfl) ly_132 (by decide) (fg_lt ly_132 (by decide)) (by omega) (rh_132_0 R) ?_
  refine fg_callV (fg_ft (pc := 149) tb_Told_copyFrom 83 rfl) cf_Told_54 (fg_isOf ly_248 rfl (fg_lt ly_248 (by decide))) (as := [.ref 133]) (st := []) rfl rfl (Nat.le_of_ble_eq_true rfl) (Nat.le_refl _) (Nat.le_refl _) (ev_Rows_copyFromA (r := 248) (c := 249) (n := 120) (o := 133) (co := 134) ⟨ly_248, rfl, ly_249⟩ ⟨ly_133, rfl, ly_134⟩ (by decide) (by decide) ?_)
  intro ν0 ah0 rd0
  show fg_wp _ _ _ _ _ _ _ _ _ (ν0, fg_rho R, 304)
  refine fg_iincN (fg_ft (pc := 152) tb_Told_copyFrom 84 rfl) rfl ic_1 rfl ?_
  refine fg_goto (tgt := 101) (fg_ft (pc := 155) tb_Told_copyFrom 85 rfl) (by decide) ?_
  refine fg_iloadn (fg_ft (pc := 101) tb_Told_copyFrom 55 rfl) rfl ?_
  refine fg_aloadn (fg_ft (pc := 102) tb_Told_copyFrom 56 rfl) rfl ?_
  refine fg_getR (fg_ft (pc := 103) tb_Told_copyFrom 57 rfl) ff_Told_28 ly_216 rfl (fg_lt ly_216 (by decide)) (rh_216_7 R) ?_
  refine fg_alen (fg_ft (pc := 106) tb_Told_copyFrom 58 rfl) ly_247 (by decide) (fg_lt ly_247 (by decide)) ?_
  refine fg_icmp_geN (tgt := 158) (fg_ft (pc := 107) tb_Told_copyFrom 59 rfl) (by decide) (by decide) (by decide) (fun c107 => (absurd c107 (by decide))) (fun c107 => ?_)
  refine fg_iloadn (fg_ft (pc := 110) tb_Told_copyFrom 60 rfl) rfl ?_
  refine fg_aloadn (fg_ft (pc := 111) tb_Told_copyFrom 61 rfl) rfl ?_
  refine fg_getR (fg_ft (pc := 112) tb_Told_copyFrom 62 rfl) ff_Told_28 ly_101 rfl (fg_lt ly_101 (by decide)) (rh_101_7 R) ?_
  refine fg_alen (fg_ft (pc := 115) tb_Told_copyFrom 63 rfl) ly_132 (by decide) (fg_lt ly_132 (by decide)) ?_
  refine fg_icmp_geN (tgt := 158) (fg_ft (pc := 116) tb_Told_copyFrom 64 rfl) (by decide) (by decide) (by decide) (fun c116 => (absurd c116 (by decide))) (fun c116 => ?_)
  refine fg_aloadn (fg_ft (pc := 119) tb_Told_copyFrom 65 rfl) rfl ?_
  refine fg_getR (fg_ft (pc := 120) tb_Told_copyFrom 66 rfl) ff_Told_28 ly_216 rfl (fg_lt ly_216 (by decide)) (rh_216_7 R) ?_
  refine fg_iloadn (fg_ft (pc := 123) tb_Told_copyFrom 67 rfl) rfl ?_
  refine fg_aaldN (fg_ft (pc := 124) tb_Told_copyFrom 68 rfl) ly_247 (by decide) (fg_lt ly_247 (by decide)) (by omega) (rh_247_1 R) ?_
  refine fg_ifnull_r (fg_ft (pc := 125) tb_Told_copyFrom 69 rfl) ?_
  refine fg_aloadn (fg_ft (pc := 128) tb_Told_copyFrom 70 rfl) rfl ?_
  refine fg_getR (fg_ft (pc := 129) tb_Told_copyFrom 71 rfl) ff_Told_28 ly_101 rfl (fg_lt ly_101 (by decide)) (rh_101_7 R) ?_
  refine fg_iloadn (fg_ft (pc := 132) tb_Told_copyFrom 72 rfl) rfl ?_
  refine fg_aaldN (fg_ft (pc := 133) tb_Told_copyFrom 73 rfl) ly_132 (by decide) (fg_lt ly_132 (by decide)) (by omega) (rh_132_1 R) ?_
  refine fg_ifnull_r (fg_ft (pc := 134) tb_Told_copyFrom 74 rfl) ?_
  refine fg_aloadn (fg_ft (pc := 137) tb_Told_copyFrom 75 rfl) rfl ?_
  refine fg_getR (fg_ft (pc := 138) tb_Told_copyFrom 76 rfl) ff_Told_28 ly_216 rfl (fg_lt ly_216 (by decide)) (rh_216_7 R) ?_
  refine fg_iloadn (fg_ft (pc := 141) tb_Told_copyFrom 77 rfl) rfl ?_
  refine fg_aaldN (fg_ft (pc := 142) tb_Told_copyFrom 78 rfl) ly_247 (by decide) (fg_lt ly_247 (by decide)) (by omega) (rh_247_1 R) ?_
  refine fg_aloadn (fg_ft (pc := 143) tb_Told_copyFrom 79 rfl) rfl ?_
  refine fg_getR (fg_ft (pc := 144) tb_Told_copyFrom 80 rfl) ff_Told_28 ly_101 rfl (fg_lt ly_101 (by decide)) (rh_101_7 R) ?_
  refine fg_iloadn (fg_ft (pc := 147) tb_Told_copyFrom 81 rfl) rfl ?_
  refine fg_aaldN (fg_ft (pc := 148) tb_Told_copyFrom 82 rfl) ly_132 (by decide) (fg_lt ly_132 (by decide)) (by omega) (rh_132_1 R) ?_
  refine fg_callV (fg_ft (pc := 149) tb_Told_copyFrom 83 rfl) cf_Told_54 (fg_isOf ly_250 rfl (fg_lt ly_250 (by decide))) (as := [.ref 135]) (st := []) rfl rfl (Nat.le_of_ble_eq_true rfl) (Nat.le_refl _) (Nat.le_refl _) (ev_Rows_copyFromA (r := 250) (c := 251) (n := 120) (o := 135) (co := 136) ⟨ly_250, rfl, ly_251⟩ ⟨ly_135, rfl, ly_136⟩ (by decide) (by decide) ?_)
  intro ν1 ah1 rd1
  show fg_wp _ _ _ _ _ _ _ _ _ (ν1, fg_rho R, 304)
  refine fg_iincN (fg_ft (pc := 152) tb_Told_copyFrom 84 rfl) rfl ic_1 rfl ?_
  refine fg_goto (tgt := 101) (fg_ft (pc := 155) tb_Told_copyFrom 85 rfl) (by decide) ?_
  refine fg_iloadn (fg_ft (pc := 101) tb_Told_copyFrom 55 rfl) rfl ?_
  refine fg_aloadn (fg_ft (pc := 102) tb_Told_copyFrom 56 rfl) rfl ?_
  refine fg_getR (fg_ft (pc := 103) tb_Told_copyFrom 57 rfl) ff_Told_28 ly_216 rfl (fg_lt ly_216 (by decide)) (rh_216_7 R) ?_
  refine fg_alen (fg_ft (pc := 106) tb_Told_copyFrom 58 rfl) ly_247 (by decide) (fg_lt ly_247 (by decide)) ?_
  refine fg_icmp_geN (tgt := 158) (fg_ft (pc := 107) tb_Told_copyFrom 59 rfl) (by decide) (by decide) (by decide) (fun c107 => (absurd c107 (by decide))) (fun c107 => ?_)
  refine fg_iloadn (fg_ft (pc := 110) tb_Told_copyFrom 60 rfl) rfl ?_
  refine fg_aloadn (fg_ft (pc := 111) tb_Told_copyFrom 61 rfl) rfl ?_
  refine fg_getR (fg_ft (pc := 112) tb_Told_copyFrom 62 rfl) ff_Told_28 ly_101 rfl (fg_lt ly_101 (by decide)) (rh_101_7 R) ?_
  refine fg_alen (fg_ft (pc := 115) tb_Told_copyFrom 63 rfl) ly_132 (by decide) (fg_lt ly_132 (by decide)) ?_
  refine fg_icmp_geN (tgt := 158) (fg_ft (pc := 116) tb_Told_copyFrom 64 rfl) (by decide) (by decide) (by decide) (fun c116 => (absurd c116 (by decide))) (fun c116 => ?_)
  refine fg_aloadn (fg_ft (pc := 119) tb_Told_copyFrom 65 rfl) rfl ?_
  refine fg_getR (fg_ft (pc := 120) tb_Told_copyFrom 66 rfl) ff_Told_28 ly_216 rfl (fg_lt ly_216 (by decide)) (rh_216_7 R) ?_
  refine fg_iloadn (fg_ft (pc := 123) tb_Told_copyFrom 67 rfl) rfl ?_
  refine fg_aaldN (fg_ft (pc := 124) tb_Told_copyFrom 68 rfl) ly_247 (by decide) (fg_lt ly_247 (by decide)) (by omega) (rh_247_2 R) ?_
  refine fg_ifnull_r (fg_ft (pc := 125) tb_Told_copyFrom 69 rfl) ?_
  refine fg_aloadn (fg_ft (pc := 128) tb_Told_copyFrom 70 rfl) rfl ?_
  refine fg_getR (fg_ft (pc := 129) tb_Told_copyFrom 71 rfl) ff_Told_28 ly_101 rfl (fg_lt ly_101 (by decide)) (rh_101_7 R) ?_
  refine fg_iloadn (fg_ft (pc := 132) tb_Told_copyFrom 72 rfl) rfl ?_
  refine fg_aaldN (fg_ft (pc := 133) tb_Told_copyFrom 73 rfl) ly_132 (by decide) (fg_lt ly_132 (by decide)) (by omega) (rh_132_2 R) ?_
  refine fg_ifnull_r (fg_ft (pc := 134) tb_Told_copyFrom 74 rfl) ?_
  refine fg_aloadn (fg_ft (pc := 137) tb_Told_copyFrom 75 rfl) rfl ?_
  refine fg_getR (fg_ft (pc := 138) tb_Told_copyFrom 76 rfl) ff_Told_28 ly_216 rfl (fg_lt ly_216 (by decide)) (rh_216_7 R) ?_
  refine fg_iloadn (fg_ft (pc := 141) tb_Told_copyFrom 77 rfl) rfl ?_
  refine fg_aaldN (fg_ft (pc := 142) tb_Told_copyFrom 78 rfl) ly_247 (by decide) (fg_lt ly_247 (by decide)) (by omega) (rh_247_2 R) ?_
  refine fg_aloadn (fg_ft (pc := 143) tb_Told_copyFrom 79 rfl) rfl ?_
  refine fg_getR (fg_ft (pc := 144) tb_Told_copyFrom 80 rfl) ff_Told_28 ly_101 rfl (fg_lt ly_101 (by decide)) (rh_101_7 R) ?_
  refine fg_iloadn (fg_ft (pc := 147) tb_Told_copyFrom 81 rfl) rfl ?_
  refine fg_aaldN (fg_ft (pc := 148) tb_Told_copyFrom 82 rfl) ly_132 (by decide) (fg_lt ly_132 (by decide)) (by omega) (rh_132_2 R) ?_
  refine fg_callV (fg_ft (pc := 149) tb_Told_copyFrom 83 rfl) cf_Told_54 (fg_isOf ly_252 rfl (fg_lt ly_252 (by decide))) (as := [.ref 137]) (st := []) rfl rfl (Nat.le_of_ble_eq_true rfl) (Nat.le_refl _) (Nat.le_refl _) (ev_Rows_copyFromA (r := 252) (c := 253) (n := 120) (o := 137) (co := 138) ⟨ly_252, rfl, ly_253⟩ ⟨ly_137, rfl, ly_138⟩ (by decide) (by decide) ?_)
  intro ν2 ah2 rd2
  show fg_wp _ _ _ _ _ _ _ _ _ (ν2, fg_rho R, 304)
  refine fg_iincN (fg_ft (pc := 152) tb_Told_copyFrom 84 rfl) rfl ic_1 rfl ?_
  refine fg_goto (tgt := 101) (fg_ft (pc := 155) tb_Told_copyFrom 85 rfl) (by decide) ?_
  refine fg_iloadn (fg_ft (pc := 101) tb_Told_copyFrom 55 rfl) rfl ?_
  refine fg_aloadn (fg_ft (pc := 102) tb_Told_copyFrom 56 rfl) rfl ?_
  refine fg_getR (fg_ft (pc := 103) tb_Told_copyFrom 57 rfl) ff_Told_28 ly_216 rfl (fg_lt ly_216 (by decide)) (rh_216_7 R) ?_
  refine fg_alen (fg_ft (pc := 106) tb_Told_copyFrom 58 rfl) ly_247 (by decide) (fg_lt ly_247 (by decide)) ?_
  refine fg_icmp_geN (tgt := 158) (fg_ft (pc := 107) tb_Told_copyFrom 59 rfl) (by decide) (by decide) (by decide) (fun c107 => ?_) (fun c107 => (absurd c107 (by decide)))
  refine fg_aloadn (fg_ft (pc := 158) tb_Told_copyFrom 86 rfl) rfl ?_
  refine fg_aloadn (fg_ft (pc := 159) tb_Told_copyFrom 87 rfl) rfl ?_
  refine fg_getI (fg_ft (pc := 160) tb_Told_copyFrom 88 rfl) ff_Told_38 ly_101 rfl (fg_lt ly_101 (by decide)) ?_
  refine fg_putI (fg_ft (pc := 163) tb_Told_copyFrom 89 rfl) ff_Told_38 ly_216 rfl (fg_lt ly_216 (by decide)) (fg_nokI _) (fun _ _ h => by cases h; rfl) ?_
  show fg_wp _ _ _ _ _ _ _ _ _ (fg_u2 ν2 216 4 (ν2 101 4), fg_rho R, 304)
  refine fg_aloadn (fg_ft (pc := 166) tb_Told_copyFrom 90 rfl) rfl ?_
  refine fg_aloadn (fg_ft (pc := 167) tb_Told_copyFrom 91 rfl) rfl ?_
  refine fg_getI (fg_ft (pc := 168) tb_Told_copyFrom 92 rfl) ff_Told_41 ly_101 rfl (fg_lt ly_101 (by decide)) ?_
  refine fg_putI (fg_ft (pc := 171) tb_Told_copyFrom 93 rfl) ff_Told_41 ly_216 rfl (fg_lt ly_216 (by decide)) (fg_nokI _) (fun _ _ h => by cases h; rfl) ?_
  show fg_wp _ _ _ _ _ _ _ _ _ (fg_u2 (fg_u2 ν2 216 4 (ν2 101 4)) 216 5 ((fg_u2 ν2 216 4 (ν2 101 4)) 101 5), fg_rho R, 304)
  exact fg_vret (fg_ft (pc := 174) tb_Told_copyFrom 94 rfl) rfl rfl (by
  have c5 : ∀ a, a ≠ 216 → ∀ j, (fg_u2 (fg_u2 ν2 216 4 (ν2 101 4)) 216 5 ((fg_u2 ν2 216 4 (ν2 101 4)) 101 5)) a j = ν2 a j := fun a ha j => (fg_u2ne ha).trans (fg_u2ne ha)
  have cv : ∀ a, (a < 248 ∨ 254 ≤ a) → ∀ j, ν2 a j = μ1 a j := fun a ha j => (ah2 a j (by omega) (by omega)).trans ((ah1 a j (by omega) (by omega)).trans (ah0 a j (by omega) (by omega)))
  have c1 : ∀ a, (a < 233 ∨ 247 ≤ a) → ∀ j, μ1 a j = μ0 a j := fun a ha j => ag1 a (by omega) j
  have c0 : ∀ a, (a < 219 ∨ 233 ≤ a) → ∀ j, μ0 a j = m0 a j := fun a ha j => ag0 a (by omega) j
  have cm : ∀ a, (a < 219 ∨ 254 ≤ a) → ∀ j, ν2 a j = m0 a j := fun a ha j => (cv a (by omega) j).trans ((c1 a (by omega) j).trans (c0 a (by omega) j))
  refine hQ _ ⟨fun j h1 h5 => ?_, fun j hj => (c5 _ (by decide) _).trans ((cm _ (by decide) _).trans (e1 j hj)), fun i hi => ?_, fun i hi => ?_, fun a ha j => (c5 a (by omega) j).trans ((cm a (by omega) j).trans (e0 a (by omega) (by omega) j))⟩
  · rcases (show j = 1 ∨ j = 2 ∨ j = 3 ∨ j = 4 ∨ j = 5 by omega) with rfl | rfl | rfl | rfl | rfl
    · exact (fg_u2ns (by decide)).trans ((fg_u2ns (by decide)).trans ((cm _ (by decide) _).trans s1))
    · exact (fg_u2ns (by decide)).trans ((fg_u2ns (by decide)).trans ((cm _ (by decide) _).trans s2))
    · exact (fg_u2ns (by decide)).trans ((fg_u2ns (by decide)).trans ((cm _ (by decide) _).trans s3))
    · exact (fg_u2ns (by decide)).trans (fg_u2eq.trans ((cm _ (by decide) _).trans (e0 _ (by decide) (by decide) _)))
    · exact fg_u2eq.trans ((fg_u2ne (by decide)).trans ((cm _ (by decide) _).trans (e0 _ (by decide) (by decide) _)))
  · rcases (show i = 0 ∨ i = 1 by omega) with rfl | rfl
    · have hk : ∀ a, 219 ≤ a → a < 233 → ∀ j, (fg_u2 (fg_u2 ν2 216 4 (ν2 101 4)) 216 5 ((fg_u2 ν2 216 4 (ν2 101 4)) 101 5)) a j = μ0 a j := fun a h1 h2 j => (c5 a (by omega) j).trans ((cv a (by omega) j).trans (c1 a (by omega) j))
      exact ⟨fg_TC.fr (t := 219) (t2 := 104) tc0 (fun a h1 h2 j => e0 a (by omega) (by omega) j) hk, fun hw => fg_wdT.fr (t := 219) (wd0 (fg_wdT.fr (t := 219) hw (fun a h1 h2 j => e0 a (by omega) (by omega) j))) hk⟩
    · have hk : ∀ a, 233 ≤ a → a < 247 → ∀ j, (fg_u2 (fg_u2 ν2 216 4 (ν2 101 4)) 216 5 ((fg_u2 ν2 216 4 (ν2 101 4)) 101 5)) a j = μ1 a j := fun a h1 h2 j => (c5 a (by omega) j).trans (cv a (by omega) j)
      exact ⟨fg_TC.fr (t := 233) (t2 := 118) tc1 (fun a h1 h2 j => (c0 a (by omega) j).trans (e0 a (by omega) (by omega) j)) hk, fun hw => fg_wdT.fr (t := 233) (wd1 (fg_wdT.fr (t := 233) hw (fun a h1 h2 j => (c0 a (by omega) j).trans (e0 a (by omega) (by omega) j)))) hk⟩
  · have co : ∀ a, (a < 216 ∨ 247 ≤ a) → ∀ j, μ1 a j = μ a j := fun a ha j => (c1 a (by omega) j).trans ((c0 a (by omega) j).trans (e0 a (by omega) (by omega) j))
    rcases (show i = 0 ∨ i = 1 ∨ i = 2 by omega) with rfl | rfl | rfl
    · exact ⟨(((c5 248 (by decide) 0).trans (ah2 248 0 (by decide) (by decide))).trans (ah1 248 0 (by decide) (by decide))).trans (rd0.1.trans (co 248 (by decide) 0)), (((c5 248 (by decide) 2).trans (ah2 248 2 (by decide) (by decide))).trans (ah1 248 2 (by decide) (by decide))).trans (rd0.2.1.trans (co 133 (by decide) 2)), fun j hj => (((c5 249 (by decide) j).trans (ah2 249 j (by decide) (by decide))).trans (ah1 249 j (by decide) (by decide))).trans ((rd0.2.2 j hj).trans (co 134 (by decide) j))⟩
    · exact ⟨((c5 250 (by decide) 0).trans (ah2 250 0 (by decide) (by decide))).trans (rd1.1.trans ((ah0 250 0 (by decide) (by decide)).trans (co 250 (by decide) 0))), ((c5 250 (by decide) 2).trans (ah2 250 2 (by decide) (by decide))).trans (rd1.2.1.trans ((ah0 135 2 (by decide) (by decide)).trans (co 135 (by decide) 2))), fun j hj => ((c5 251 (by decide) j).trans (ah2 251 j (by decide) (by decide))).trans ((rd1.2.2 j hj).trans ((ah0 136 j (by decide) (by decide)).trans (co 136 (by decide) j)))⟩
    · exact ⟨(c5 252 (by decide) 0).trans (rd2.1.trans ((ah1 252 0 (by decide) (by decide)).trans ((ah0 252 0 (by decide) (by decide)).trans (co 252 (by decide) 0)))), (c5 252 (by decide) 2).trans (rd2.2.1.trans ((ah1 137 2 (by decide) (by decide)).trans ((ah0 137 2 (by decide) (by decide)).trans (co 137 (by decide) 2)))), fun j hj => (c5 253 (by decide) j).trans ((rd2.2.2 j hj).trans ((ah1 138 j (by decide) (by decide)).trans ((ah0 138 j (by decide) (by decide)).trans (co 138 (by decide) j))))⟩)
