/-! the length set anew -/
theorem ev_Fb_end {E : fg_E} {d : Nat} {μ : Nat → Nat → Int32} {R : fg_T4} {Q : Option Value → fg_M → Prop} {k len : Nat} (hk : k < 2 ^ 32) (hlen : μ 101 1 = nI len) (hle : len ≤ 600) (h0 : ¬ k ≤ len → Q (some (.int (-1))) (μ, fg_rho R, 304)) (h1 : k ≤ len → Q (some (.int (nI k))) (fg_u2 μ 101 1 (nI k), fg_rho R, 304)) : fg_Ev E yy_Fb_end (d + 1) [.ref 100, .int (nI k)] (μ, fg_rho R, 304) 304 Q := by
  refine fg_intro (by decide +kernel) (Nat.le_of_ble_eq_true rfl) (fg_okAs rfl) (Nat.le_refl _) ?_
  refine fg_iloadn (fg_ft (pc := 0) tb_Fb_end 0 rfl) rfl ?_
  refine fg_if_ltW (tgt := 15) (fg_ft (pc := 1) tb_Fb_end 1 rfl) (by decide) (hk) (fun c1 => ?_) (fun c1 => ?_)
  · refine fg_iconst (fg_ft (pc := 15) tb_Fb_end 7 rfl) ic_m1 ?_
    exact fg_iret (fg_ft (pc := 16) tb_Fb_end 8 rfl) rfl rfl (h0 (by omega))
  · refine fg_iloadn (fg_ft (pc := 4) tb_Fb_end 2 rfl) rfl ?_
    refine fg_aloadn (fg_ft (pc := 5) tb_Fb_end 3 rfl) rfl ?_
    refine fg_getR (fg_ft (pc := 6) tb_Fb_end 4 rfl) ff_Fb_12 ly_100 rfl (fg_lt ly_100 (by decide)) (rh_100_0 R) ?_
    refine fg_getV (v := (nI len)) (fg_ft (pc := 9) tb_Fb_end 5 rfl) ff_Fb_52 ly_101 rfl (fg_lt ly_101 (by decide)) hlen ?_
    refine fg_icmp_leW (tgt := 17) (fg_ft (pc := 12) tb_Fb_end 6 rfl) (by decide) (hk) (by omega) (fun c12 => ?_) (fun c12 => ?_)
    · refine fg_aloadn (fg_ft (pc := 17) tb_Fb_end 9 rfl) rfl ?_
      refine fg_getR (fg_ft (pc := 18) tb_Fb_end 10 rfl) ff_Fb_12 ly_100 rfl (fg_lt ly_100 (by decide)) (rh_100_0 R) ?_
      refine fg_iloadn (fg_ft (pc := 21) tb_Fb_end 11 rfl) rfl ?_
      refine fg_putI (fg_ft (pc := 22) tb_Fb_end 12 rfl) ff_Fb_52 ly_101 rfl (fg_lt ly_101 (by decide)) (fg_nokI _) (fun _ _ h => by cases h; rfl) ?_
      show fg_wp _ _ _ _ _ _ _ _ _ (fg_u2 μ 101 1 (nI k), fg_rho R, 304)
      refine fg_iloadn (fg_ft (pc := 25) tb_Fb_end 13 rfl) rfl ?_
      exact fg_iret (fg_ft (pc := 26) tb_Fb_end 14 rfl) rfl rfl (h1 (by omega))
    · refine fg_iconst (fg_ft (pc := 15) tb_Fb_end 7 rfl) ic_m1 ?_
      exact fg_iret (fg_ft (pc := 16) tb_Fb_end 8 rfl) rfl rfl (h0 (by omega))
theorem ev_Mo_end {E : fg_E} {d : Nat} {μ : Nat → Nat → Int32} {R : fg_T4} {Q : Option Value → fg_M → Prop} {k len : Nat} (hk : k < 2 ^ 32) (hlen : μ 288 2 = nI len) (hle : len ≤ 600) (h0 : ¬ k ≤ len → Q (some (.int (-1))) (μ, fg_rho R, 304)) (h1 : k ≤ len → Q (some (.int (nI k))) (fg_u2 μ 288 2 (nI k), fg_rho R, 304)) : fg_Ev E yy_Mo_end (d + 1) [.ref 287, .int (nI k)] (μ, fg_rho R, 304) 304 Q := by
  refine fg_intro (by decide +kernel) (Nat.le_of_ble_eq_true rfl) (fg_okAs rfl) (Nat.le_refl _) ?_
  refine fg_iloadn (fg_ft (pc := 0) tb_Mo_end 0 rfl) rfl ?_
  refine fg_if_ltW (tgt := 14) (fg_ft (pc := 1) tb_Mo_end 1 rfl) (by decide) (hk) (fun c1 => ?_) (fun c1 => ?_)
  · refine fg_iconst (fg_ft (pc := 14) tb_Mo_end 8 rfl) ic_m1 ?_
    exact fg_iret (fg_ft (pc := 15) tb_Mo_end 9 rfl) rfl rfl (h0 (by omega))
  · refine fg_iloadn (fg_ft (pc := 4) tb_Mo_end 2 rfl) rfl ?_
    refine fg_aloadn (fg_ft (pc := 5) tb_Mo_end 3 rfl) rfl ?_
    refine fg_getR (fg_ft (pc := 6) tb_Mo_end 4 rfl) ff_Mo_7 ly_287 rfl (fg_lt ly_287 (by decide)) (rh_287_0 R) ?_
    refine fg_iconst (fg_ft (pc := 9) tb_Mo_end 5 rfl) ic_2 ?_
    refine fg_ialdV (v := (nI len)) (fg_ft (pc := 10) tb_Mo_end 6 rfl) ly_288 (fg_lt ly_288 (by decide)) (by omega) hlen ?_
    refine fg_icmp_leW (tgt := 16) (fg_ft (pc := 11) tb_Mo_end 7 rfl) (by decide) (hk) (by omega) (fun c11 => ?_) (fun c11 => ?_)
    · refine fg_aloadn (fg_ft (pc := 16) tb_Mo_end 10 rfl) rfl ?_
      refine fg_getR (fg_ft (pc := 17) tb_Mo_end 11 rfl) ff_Mo_7 ly_287 rfl (fg_lt ly_287 (by decide)) (rh_287_0 R) ?_
      refine fg_iconst (fg_ft (pc := 20) tb_Mo_end 12 rfl) ic_2 ?_
      refine fg_iloadn (fg_ft (pc := 21) tb_Mo_end 13 rfl) rfl ?_
      refine fg_iastN (fg_ft (pc := 22) tb_Mo_end 14 rfl) ly_288 (fg_lt ly_288 (by decide)) (by omega) ?_
      show fg_wp _ _ _ _ _ _ _ _ _ (fg_u2 μ 288 2 (nI k), fg_rho R, 304)
      refine fg_iloadn (fg_ft (pc := 23) tb_Mo_end 15 rfl) rfl ?_
      exact fg_iret (fg_ft (pc := 24) tb_Mo_end 16 rfl) rfl rfl (h1 (by omega))
    · refine fg_iconst (fg_ft (pc := 14) tb_Mo_end 8 rfl) ic_m1 ?_
      exact fg_iret (fg_ft (pc := 15) tb_Mo_end 9 rfl) rfl rfl (h0 (by omega))
def fg_fe5 (m : Nat → Int32) (len : Nat) (a b c d e : Int32) : Nat → Int32 := fg_fe (fg_fe (fg_fe (fg_fe (fg_fe m len a 4) (len + 4) b 4) (len + 8) c 4) (len + 12) d 4) (len + 16) e 4
theorem ev_Fb_feed {E : fg_E} {d : Nat} {μ : Nat → Nat → Int32} {R : fg_T4} {Q : Option Value → fg_M → Prop} {len : Nat} {a b c z y : Int32} (hlen : μ 101 1 = nI len) (hle : len ≤ 600) (h0 : ¬ len + 20 ≤ 600 → Q (some (.int (-1))) (μ, fg_rho R, 304)) (h1 : len + 20 ≤ 600 → ∀ μ' : Nat → Nat → Int32, (∀ b j, b ≠ 101 → b ≠ 102 → μ' b j = μ b j) → (∀ j, j ≠ 1 → μ' 101 j = μ 101 j) → μ' 101 1 = nI (len + 20) → (∀ j, μ' 102 j = fg_fe5 (μ 102) len a b c z y j) → Q (some (.int (nI (len + 20)))) (μ', fg_rho R, 304)) : fg_Ev E yy_Fb_feed (d + 2) [.ref 100, .int a, .int b, .int c, .int z, .int y] (μ, fg_rho R, 304) 304 Q := by
  refine fg_intro (by decide +kernel) (Nat.le_of_ble_eq_true rfl) (fg_okAs rfl) (Nat.le_refl _) ?_
  refine fg_aloadn (fg_ft (pc := 0) tb_Fb_feed 0 rfl) rfl ?_
  refine fg_getR (fg_ft (pc := 1) tb_Fb_feed 1 rfl) ff_Fb_12 ly_100 rfl (fg_lt ly_100 (by decide)) (rh_100_0 R) ?_
  refine fg_getV (v := (nI len)) (fg_ft (pc := 4) tb_Fb_feed 2 rfl) ff_Fb_52 ly_101 rfl (fg_lt ly_101 (by decide)) hlen ?_
  refine fg_bipush (fg_ft (pc := 7) tb_Fb_feed 3 rfl) ib_20 ?_
  refine fg_iaddN (fg_ft (pc := 9) tb_Fb_feed 4 rfl) ?_
  refine fg_sipush (fg_ft (pc := 10) tb_Fb_feed 5 rfl) is_600 ?_
  refine fg_icmp_leN (tgt := 18) (fg_ft (pc := 13) tb_Fb_feed 6 rfl) (by decide) (by omega) (by decide) (fun c13 => ?_) (fun c13 => ?_)
  · refine fg_aloadn (fg_ft (pc := 18) tb_Fb_feed 9 rfl) rfl ?_
    refine fg_getR (fg_ft (pc := 19) tb_Fb_feed 10 rfl) ff_Fb_12 ly_100 rfl (fg_lt ly_100 (by decide)) (rh_100_0 R) ?_
    refine fg_iloadn (fg_ft (pc := 22) tb_Fb_feed 11 rfl) rfl ?_
    refine fg_callV (fg_ft (pc := 23) tb_Fb_feed 12 rfl) cf_Fb_56 (fg_isOf ly_101 rfl (fg_lt ly_101 (by decide))) (as := [.int a]) (st := []) rfl rfl (Nat.le_of_ble_eq_true rfl) (Nat.le_refl _) (Nat.le_refl _) (ev_Told_feedNumber (len := len) (x := a) hlen (by omega) ?_)
    intro μ1 f1 l1 g1 t1
    have l1 : μ1 101 1 = nI (len + 4) := l1
    have f1' : ∀ b j, b ≠ 101 → b ≠ 102 → μ1 b j = μ b j := fun b j b1 b2 => (f1 b j b1 b2)
    have g1' : ∀ j, j ≠ 1 → μ1 101 j = μ 101 j := fun j hj => (g1 j hj)
    have t1' : ∀ j, μ1 102 j = (fg_fe (μ 102) len a 4) j := t1
    show fg_wp _ _ _ _ _ _ _ _ _ (μ1, fg_rho R, 304)
    refine fg_aloadn (fg_ft (pc := 26) tb_Fb_feed 13 rfl) rfl ?_
    refine fg_getR (fg_ft (pc := 27) tb_Fb_feed 14 rfl) ff_Fb_12 ly_100 rfl (fg_lt ly_100 (by decide)) (rh_100_0 R) ?_
    refine fg_iloadn (fg_ft (pc := 30) tb_Fb_feed 15 rfl) rfl ?_
    refine fg_callV (fg_ft (pc := 31) tb_Fb_feed 16 rfl) cf_Fb_56 (fg_isOf ly_101 rfl (fg_lt ly_101 (by decide))) (as := [.int b]) (st := []) rfl rfl (Nat.le_of_ble_eq_true rfl) (Nat.le_refl _) (Nat.le_refl _) (ev_Told_feedNumber (len := len + 4) (x := b) l1 (by omega) ?_)
    intro μ2 f2 l2 g2 t2
    have l2 : μ2 101 1 = nI (len + 8) := l2
    have f2' : ∀ b j, b ≠ 101 → b ≠ 102 → μ2 b j = μ b j := fun b j b1 b2 => (f2 b j b1 b2).trans (f1' b j b1 b2)
    have g2' : ∀ j, j ≠ 1 → μ2 101 j = μ 101 j := fun j hj => (g2 j hj).trans (g1' j hj)
    have t2' : ∀ j, μ2 102 j = (fg_fe (fg_fe (μ 102) len a 4) (len + 4) b 4) j := fun j => (t2 j).trans (by rw [show μ1 102 = (fg_fe (μ 102) len a 4) from funext t1']; try rfl)
    show fg_wp _ _ _ _ _ _ _ _ _ (μ2, fg_rho R, 304)
    refine fg_aloadn (fg_ft (pc := 34) tb_Fb_feed 17 rfl) rfl ?_
    refine fg_getR (fg_ft (pc := 35) tb_Fb_feed 18 rfl) ff_Fb_12 ly_100 rfl (fg_lt ly_100 (by decide)) (rh_100_0 R) ?_
    refine fg_iloadn (fg_ft (pc := 38) tb_Fb_feed 19 rfl) rfl ?_
    refine fg_callV (fg_ft (pc := 39) tb_Fb_feed 20 rfl) cf_Fb_56 (fg_isOf ly_101 rfl (fg_lt ly_101 (by decide))) (as := [.int c]) (st := []) rfl rfl (Nat.le_of_ble_eq_true rfl) (Nat.le_refl _) (Nat.le_refl _) (ev_Told_feedNumber (len := len + 8) (x := c) l2 (by omega) ?_)
    intro μ3 f3 l3 g3 t3
    have l3 : μ3 101 1 = nI (len + 12) := l3
    have f3' : ∀ b j, b ≠ 101 → b ≠ 102 → μ3 b j = μ b j := fun b j b1 b2 => (f3 b j b1 b2).trans (f2' b j b1 b2)
    have g3' : ∀ j, j ≠ 1 → μ3 101 j = μ 101 j := fun j hj => (g3 j hj).trans (g2' j hj)
    have t3' : ∀ j, μ3 102 j = (fg_fe (fg_fe (fg_fe (μ 102) len a 4) (len + 4) b 4) (len + 8) c 4) j := fun j => (t3 j).trans (by rw [show μ2 102 = (fg_fe (fg_fe (μ 102) len a 4) (len + 4) b 4) from funext t2']; try rfl)
    show fg_wp _ _ _ _ _ _ _ _ _ (μ3, fg_rho R, 304)
    refine fg_aloadn (fg_ft (pc := 42) tb_Fb_feed 21 rfl) rfl ?_
    refine fg_getR (fg_ft (pc := 43) tb_Fb_feed 22 rfl) ff_Fb_12 ly_100 rfl (fg_lt ly_100 (by decide)) (rh_100_0 R) ?_
    refine fg_iload (fg_ft (pc := 46) tb_Fb_feed 23 rfl) rfl ?_
    refine fg_callV (fg_ft (pc := 48) tb_Fb_feed 24 rfl) cf_Fb_56 (fg_isOf ly_101 rfl (fg_lt ly_101 (by decide))) (as := [.int z]) (st := []) rfl rfl (Nat.le_of_ble_eq_true rfl) (Nat.le_refl _) (Nat.le_refl _) (ev_Told_feedNumber (len := len + 12) (x := z) l3 (by omega) ?_)
    intro μ4 f4 l4 g4 t4
    have l4 : μ4 101 1 = nI (len + 16) := l4
    have f4' : ∀ b j, b ≠ 101 → b ≠ 102 → μ4 b j = μ b j := fun b j b1 b2 => (f4 b j b1 b2).trans (f3' b j b1 b2)
    have g4' : ∀ j, j ≠ 1 → μ4 101 j = μ 101 j := fun j hj => (g4 j hj).trans (g3' j hj)
    have t4' : ∀ j, μ4 102 j = (fg_fe (fg_fe (fg_fe (fg_fe (μ 102) len a 4) (len + 4) b 4) (len + 8) c 4) (len + 12) z 4) j := fun j => (t4 j).trans (by rw [show μ3 102 = (fg_fe (fg_fe (fg_fe (μ 102) len a 4) (len + 4) b 4) (len + 8) c 4) from funext t3']; try rfl)
    show fg_wp _ _ _ _ _ _ _ _ _ (μ4, fg_rho R, 304)
    refine fg_aloadn (fg_ft (pc := 51) tb_Fb_feed 25 rfl) rfl ?_
    refine fg_getR (fg_ft (pc := 52) tb_Fb_feed 26 rfl) ff_Fb_12 ly_100 rfl (fg_lt ly_100 (by decide)) (rh_100_0 R) ?_
    refine fg_iload (fg_ft (pc := 55) tb_Fb_feed 27 rfl) rfl ?_
    refine fg_callV (fg_ft (pc := 57) tb_Fb_feed 28 rfl) cf_Fb_56 (fg_isOf ly_101 rfl (fg_lt ly_101 (by decide))) (as := [.int y]) (st := []) rfl rfl (Nat.le_of_ble_eq_true rfl) (Nat.le_refl _) (Nat.le_refl _) (ev_Told_feedNumber (len := len + 16) (x := y) l4 (by omega) ?_)
    intro μ5 f5 l5 g5 t5
    have l5 : μ5 101 1 = nI (len + 20) := l5
    have f5' : ∀ b j, b ≠ 101 → b ≠ 102 → μ5 b j = μ b j := fun b j b1 b2 => (f5 b j b1 b2).trans (f4' b j b1 b2)
    have g5' : ∀ j, j ≠ 1 → μ5 101 j = μ 101 j := fun j hj => (g5 j hj).trans (g4' j hj)
    have t5' : ∀ j, μ5 102 j = (fg_fe5 (μ 102) len a b c z y) j := fun j => (t5 j).trans (by rw [show μ4 102 = (fg_fe (fg_fe (fg_fe (fg_fe (μ 102) len a 4) (len + 4) b 4) (len + 8) c 4) (len + 12) z 4) from funext t4']; try rfl)
    show fg_wp _ _ _ _ _ _ _ _ _ (μ5, fg_rho R, 304)
    refine fg_aloadn (fg_ft (pc := 60) tb_Fb_feed 29 rfl) rfl ?_
    refine fg_getR (fg_ft (pc := 61) tb_Fb_feed 30 rfl) ff_Fb_12 ly_100 rfl (fg_lt ly_100 (by decide)) (rh_100_0 R) ?_
    refine fg_getV (v := (nI (len + 20))) (fg_ft (pc := 64) tb_Fb_feed 31 rfl) ff_Fb_52 ly_101 rfl (fg_lt ly_101 (by decide)) l5 ?_
    exact fg_iret (fg_ft (pc := 67) tb_Fb_feed 32 rfl) rfl rfl (h1 (by omega) μ5 f5' g5' l5 t5')
  · refine fg_iconst (fg_ft (pc := 16) tb_Fb_feed 7 rfl) ic_m1 ?_
    exact fg_iret (fg_ft (pc := 17) tb_Fb_feed 8 rfl) rfl rfl (h0 (by omega))
