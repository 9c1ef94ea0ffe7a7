/-! the class's reader: a number is tested -/
def pz_pl (F P : Nat) : Int32 := if F = 0 then -1 else nI P
theorem pz_sg_lt (w i : Nat) (hw : w < 17) : pz_sg w i < 128 := by
  obtain ⟨v, h⟩ := pz_strN hw
  unfold pz_sg
  by_cases c : i < (pz_ns w).length
  · rw [if_pos c]; exact (h.2.2.2.2.2 i c).2
  · rw [if_neg c]
    by_cases c2 : pz_mo w = 1 ∧ 0 < (pz_ns w).length
    · rw [if_pos c2]; exact (h.2.2.2.2.2 _ (by omega)).2
    · rw [if_neg c2]; decide
theorem ev_Reader_noteFault0 {E : fg_E} {d : Nat} {μ : Nat → Nat → Int32} {R : fg_T4} {Q : Option Value → fg_M → Prop} {k s : Nat} (hF : μ 255 2 = nI 0) (h9 : μ 255 9 = nI s) (hQ : Q none (fg_u2 (fg_u2 μ 255 2 (nI k)) 255 3 (nI s), fg_rho R, 304)) : fg_Ev E yy_Reader_noteFault (d + 1) [.ref 255, .int (nI k)] (μ, fg_rho R, 304) 304 Q := by
  refine fg_intro (by decide +kernel) (Nat.le_of_ble_eq_true rfl) (fg_okAs rfl) (Nat.le_refl _) ?_
  refine fg_aloadn (fg_ft (pc := 0) tb_Reader_noteFault 0 rfl) rfl ?_
  refine fg_getV (v := (nI 0)) (fg_ft (pc := 1) tb_Reader_noteFault 1 rfl) ff_Reader_54 ly_255 rfl (fg_lt ly_255 (by decide)) hF ?_
  refine fg_if_ne (tgt := 20) (fg_ft (pc := 4) tb_Reader_noteFault 2 rfl) (by decide) (fun h => absurd h (by decide)) (fun _ => ?_)
  refine fg_aloadn (fg_ft (pc := 7) tb_Reader_noteFault 3 rfl) rfl ?_
  refine fg_iloadn (fg_ft (pc := 8) tb_Reader_noteFault 4 rfl) rfl ?_
  refine fg_putI (fg_ft (pc := 9) tb_Reader_noteFault 5 rfl) ff_Reader_54 ly_255 rfl (fg_lt ly_255 (by decide)) (fg_nokI _) (fun _ _ h => by cases h; rfl) ?_
  show fg_wp _ _ _ _ _ _ _ _ _ (fg_u2 μ 255 2 (nI k), fg_rho R, 304)
  refine fg_aloadn (fg_ft (pc := 12) tb_Reader_noteFault 6 rfl) rfl ?_
  refine fg_aloadn (fg_ft (pc := 13) tb_Reader_noteFault 7 rfl) rfl ?_
  refine fg_getV (v := (nI s)) (fg_ft (pc := 14) tb_Reader_noteFault 8 rfl) ff_Reader_80 ly_255 rfl (fg_lt ly_255 (by decide)) ((fg_u2ns (f := μ) (a := 255) (k := 2) (b := 255) (j := 9) (x := (nI k)) (by decide)).trans h9) ?_
  refine fg_putI (fg_ft (pc := 17) tb_Reader_noteFault 9 rfl) ff_Reader_57 ly_255 rfl (fg_lt ly_255 (by decide)) (fg_nokI _) (fun _ _ h => by cases h; rfl) ?_
  show fg_wp _ _ _ _ _ _ _ _ _ (fg_u2 (fg_u2 μ 255 2 (nI k)) 255 3 (nI s), fg_rho R, 304)
  exact fg_vret (fg_ft (pc := 20) tb_Reader_noteFault 10 rfl) rfl rfl (hQ)
theorem ev_Reader_noteFault1 {E : fg_E} {d : Nat} {μ : Nat → Nat → Int32} {R : fg_T4} {Q : Option Value → fg_M → Prop} {k F : Nat} (hF : μ 255 2 = nI F) (hF5 : F < 5) (hF0 : ¬ F = 0) (hQ : Q none (μ, fg_rho R, 304)) : fg_Ev E yy_Reader_noteFault (d + 1) [.ref 255, .int (nI k)] (μ, fg_rho R, 304) 304 Q := by
  refine fg_intro (by decide +kernel) (Nat.le_of_ble_eq_true rfl) (fg_okAs rfl) (Nat.le_refl _) ?_
  refine fg_aloadn (fg_ft (pc := 0) tb_Reader_noteFault 0 rfl) rfl ?_
  refine fg_getV (v := (nI F)) (fg_ft (pc := 1) tb_Reader_noteFault 1 rfl) ff_Reader_54 ly_255 rfl (fg_lt ly_255 (by decide)) hF ?_
  refine fg_if_neN (tgt := 20) (fg_ft (pc := 4) tb_Reader_noteFault 2 rfl) (by decide) (by omega) (fun c4 => ?_) (fun c4 => (absurd c4 hF0))
  exact fg_vret (fg_ft (pc := 20) tb_Reader_noteFault 10 rfl) rfl rfl (hQ)
theorem ev_Fb_isInA {E : fg_E} {d : Nat} {μ : Nat → Nat → Int32} {R : fg_T4} {Q : Option Value → fg_M → Prop} {x : Int32} {k : Nat} (hk : k < 2 ^ 31) (hQ0 : Q (some (.int (nI 0))) (μ, fg_rho R, 304)) (hQ1 : Q (some (.int (nI 1))) (μ, fg_rho R, 304)) : fg_Ev E yy_Fb_isIn (d + 1) [.int x, .int (nI k)] (μ, fg_rho R, 304) 304 Q := by
  refine fg_intro (by decide +kernel) (Nat.le_of_ble_eq_true rfl) (fg_okAs rfl) (Nat.le_refl _) ?_
  refine fg_iloadn (fg_ft (pc := 0) tb_Fb_isIn 0 rfl) rfl ?_
  refine fg_if_ltN (tgt := 22) (fg_ft (pc := 1) tb_Fb_isIn 1 rfl) (by decide) (hk) ?_
  refine fg_iloadn (fg_ft (pc := 4) tb_Fb_isIn 2 rfl) rfl ?_
  refine fg_bipush (fg_ft (pc := 5) tb_Fb_isIn 3 rfl) ib_31 ?_
  refine fg_icmp_geN (tgt := 22) (fg_ft (pc := 7) tb_Fb_isIn 4 rfl) (by decide) (hk) (by decide) (fun c7 => ?_) (fun c7 => ?_)
  · refine fg_iconst (fg_ft (pc := 22) tb_Fb_isIn 13 rfl) ic_0 ?_
    exact fg_zret (fg_ft (pc := 23) tb_Fb_isIn 14 rfl) rfl (by decide) rfl (hQ0)
  · refine fg_iloadn (fg_ft (pc := 10) tb_Fb_isIn 5 rfl) rfl ?_
    refine fg_iloadn (fg_ft (pc := 11) tb_Fb_isIn 6 rfl) rfl ?_
    refine fg_ishr (fg_ft (pc := 12) tb_Fb_isIn 7 rfl) ?_
    refine fg_iconst (fg_ft (pc := 13) tb_Fb_isIn 8 rfl) ic_1 ?_
    refine fg_iand (fg_ft (pc := 14) tb_Fb_isIn 9 rfl) ?_
    refine fg_if_eq (tgt := 22) (fg_ft (pc := 15) tb_Fb_isIn 10 rfl) (by decide) (fun c15 => ?_) (fun c15 => ?_)
    · refine fg_iconst (fg_ft (pc := 22) tb_Fb_isIn 13 rfl) ic_0 ?_
      exact fg_zret (fg_ft (pc := 23) tb_Fb_isIn 14 rfl) rfl (by decide) rfl (hQ0)
    · refine fg_iconst (fg_ft (pc := 18) tb_Fb_isIn 11 rfl) ic_1 ?_
      refine fg_goto (tgt := 23) (fg_ft (pc := 19) tb_Fb_isIn 12 rfl) (by decide) ?_
      exact fg_zret (fg_ft (pc := 23) tb_Fb_isIn 14 rfl) rfl (by decide) rfl (hQ1)
theorem ev_Reader_rowsOf_0 {E : fg_E} {d : Nat} {μ : Nat → Nat → Int32} {R : fg_T4} {Q : Option Value → fg_M → Prop} (hQ : Q (some (.null)) (μ, fg_rho R, 304)) : fg_Ev E yy_Reader_rowsOf (d + 2) [.ref 255, .ref 0] (μ, fg_rho R, 304) 304 Q := by
  refine fg_intro (by decide +kernel) (Nat.le_of_ble_eq_true rfl) (fg_okAs rfl) (Nat.le_refl _) ?_
  refine fg_aloadn (fg_ft (pc := 0) tb_Reader_rowsOf 0 rfl) rfl ?_
  refine fg_callV (fg_ft (pc := 1) tb_Reader_rowsOf 1 rfl) cf_Reader_117 (Or.inr (pz_isW (w := 0) (by decide))) (as := []) (st := []) rfl rfl (Nat.le_of_ble_eq_true rfl) (Nat.le_refl _) (Nat.le_refl _) (ev_Word_sort_0 ?_)
  refine fg_iconst (fg_ft (pc := 4) tb_Reader_rowsOf 2 rfl) ic_1 ?_
  refine fg_icmp_neN (tgt := 13) (fg_ft (pc := 5) tb_Reader_rowsOf 3 rfl) (by decide) (by decide) (by decide) (fun c5 => ?_) (fun c5 => (absurd c5 (by decide)))
  refine fg_aloadn (fg_ft (pc := 13) tb_Reader_rowsOf 7 rfl) rfl ?_
  refine fg_gets (fg_ft (pc := 14) tb_Reader_rowsOf 8 rfl) fs_Reader_133 ?_
  refine fg_acmp_ne (tgt := 28) (fg_ft (pc := 17) tb_Reader_rowsOf 9 rfl) (by decide) (by decide) (by decide) (fun _ => ?_) (fun h => absurd h (by decide))
  refine fg_aloadn (fg_ft (pc := 28) tb_Reader_rowsOf 14 rfl) rfl ?_
  refine fg_gets (fg_ft (pc := 29) tb_Reader_rowsOf 15 rfl) fs_Reader_140 ?_
  refine fg_acmp_eq (tgt := 49) (fg_ft (pc := 32) tb_Reader_rowsOf 16 rfl) (by decide) (by decide) (by decide) (fun h => absurd h (by decide)) (fun _ => ?_)
  refine fg_aloadn (fg_ft (pc := 35) tb_Reader_rowsOf 17 rfl) rfl ?_
  refine fg_gets (fg_ft (pc := 36) tb_Reader_rowsOf 18 rfl) fs_Reader_143 ?_
  refine fg_acmp_eq (tgt := 49) (fg_ft (pc := 39) tb_Reader_rowsOf 19 rfl) (by decide) (by decide) (by decide) (fun h => absurd h (by decide)) (fun _ => ?_)
  refine fg_aloadn (fg_ft (pc := 42) tb_Reader_rowsOf 20 rfl) rfl ?_
  refine fg_gets (fg_ft (pc := 43) tb_Reader_rowsOf 21 rfl) fs_Reader_146 ?_
  refine fg_acmp_ne (tgt := 57) (fg_ft (pc := 46) tb_Reader_rowsOf 22 rfl) (by decide) (by decide) (by decide) (fun _ => ?_) (fun h => absurd h (by decide))
  refine fg_aloadn (fg_ft (pc := 57) tb_Reader_rowsOf 27 rfl) rfl ?_
  refine fg_gets (fg_ft (pc := 58) tb_Reader_rowsOf 28 rfl) fs_Reader_152 ?_
  refine fg_acmp_ne (tgt := 72) (fg_ft (pc := 61) tb_Reader_rowsOf 29 rfl) (by decide) (by decide) (by decide) (fun _ => ?_) (fun h => absurd h (by decide))
  refine fg_aloadn (fg_ft (pc := 72) tb_Reader_rowsOf 34 rfl) rfl ?_
  refine fg_gets (fg_ft (pc := 73) tb_Reader_rowsOf 35 rfl) fs_Reader_158 ?_
  refine fg_acmp_ne (tgt := 87) (fg_ft (pc := 76) tb_Reader_rowsOf 36 rfl) (by decide) (by decide) (by decide) (fun _ => ?_) (fun h => absurd h (by decide))
  refine fg_aloadn (fg_ft (pc := 87) tb_Reader_rowsOf 41 rfl) rfl ?_
  refine fg_gets (fg_ft (pc := 88) tb_Reader_rowsOf 42 rfl) fs_Reader_164 ?_
  refine fg_acmp_ne (tgt := 102) (fg_ft (pc := 91) tb_Reader_rowsOf 43 rfl) (by decide) (by decide) (by decide) (fun _ => ?_) (fun h => absurd h (by decide))
  refine fg_aloadn (fg_ft (pc := 102) tb_Reader_rowsOf 48 rfl) rfl ?_
  refine fg_gets (fg_ft (pc := 103) tb_Reader_rowsOf 49 rfl) fs_Reader_170 ?_
  refine fg_acmp_ne (tgt := 119) (fg_ft (pc := 106) tb_Reader_rowsOf 50 rfl) (by decide) (by decide) (by decide) (fun _ => ?_) (fun h => absurd h (by decide))
  refine fg_null (fg_ft (pc := 119) tb_Reader_rowsOf 55 rfl) ?_
  exact fg_nret (fg_ft (pc := 120) tb_Reader_rowsOf 56 rfl) rfl (by first | exact Or.inl ⟨_, rfl⟩ | exact Or.inr ⟨_, rfl⟩) rfl (hQ)
theorem ev_Reader_rowsOf_1 {E : fg_E} {d : Nat} {μ : Nat → Nat → Int32} {R : fg_T4} {Q : Option Value → fg_M → Prop} (hQ : Q (some (.ref 257)) (μ, fg_rho R, 304)) : fg_Ev E yy_Reader_rowsOf (d + 2) [.ref 255, .ref 1] (μ, fg_rho R, 304) 304 Q := by
  refine fg_intro (by decide +kernel) (Nat.le_of_ble_eq_true rfl) (fg_okAs rfl) (Nat.le_refl _) ?_
  refine fg_aloadn (fg_ft (pc := 0) tb_Reader_rowsOf 0 rfl) rfl ?_
  refine fg_callV (fg_ft (pc := 1) tb_Reader_rowsOf 1 rfl) cf_Reader_117 (Or.inr (pz_isW (w := 1) (by decide))) (as := []) (st := []) rfl rfl (Nat.le_of_ble_eq_true rfl) (Nat.le_refl _) (Nat.le_refl _) (ev_Word_sort_1 ?_)
  refine fg_iconst (fg_ft (pc := 4) tb_Reader_rowsOf 2 rfl) ic_1 ?_
  refine fg_icmp_neN (tgt := 13) (fg_ft (pc := 5) tb_Reader_rowsOf 3 rfl) (by decide) (by decide) (by decide) (fun c5 => ?_) (fun c5 => (absurd c5 (by decide)))
  refine fg_aloadn (fg_ft (pc := 13) tb_Reader_rowsOf 7 rfl) rfl ?_
  refine fg_gets (fg_ft (pc := 14) tb_Reader_rowsOf 8 rfl) fs_Reader_133 ?_
  refine fg_acmp_ne (tgt := 28) (fg_ft (pc := 17) tb_Reader_rowsOf 9 rfl) (by decide) (by decide) (by decide) (fun h => absurd rfl h) (fun _ => ?_)
  refine fg_aloadn (fg_ft (pc := 20) tb_Reader_rowsOf 10 rfl) rfl ?_
  refine fg_getR (fg_ft (pc := 21) tb_Reader_rowsOf 11 rfl) ff_Reader_12 ly_255 rfl (fg_lt ly_255 (by decide)) (rh_255_0 R) ?_
  refine fg_getR (fg_ft (pc := 24) tb_Reader_rowsOf 12 rfl) ff_Reader_137 ly_256 rfl (fg_lt ly_256 (by decide)) (rh_256_2 R) ?_
  exact fg_aret (fg_ft (pc := 27) tb_Reader_rowsOf 13 rfl) rfl (by first | exact Or.inl ⟨_, rfl⟩ | exact Or.inr ⟨_, rfl⟩) rfl (hQ)
theorem ev_Reader_rowsOf_2 {E : fg_E} {d : Nat} {μ : Nat → Nat → Int32} {R : fg_T4} {Q : Option Value → fg_M → Prop} (hQ : Q (some (.ref 259)) (μ, fg_rho R, 304)) : fg_Ev E yy_Reader_rowsOf (d + 2) [.ref 255, .ref 2] (μ, fg_rho R, 304) 304 Q := by
  refine fg_intro (by decide +kernel) (Nat.le_of_ble_eq_true rfl) (fg_okAs rfl) (Nat.le_refl _) ?_
  refine fg_aloadn (fg_ft (pc := 0) tb_Reader_rowsOf 0 rfl) rfl ?_
  refine fg_callV (fg_ft (pc := 1) tb_Reader_rowsOf 1 rfl) cf_Reader_117 (Or.inr (pz_isW (w := 2) (by decide))) (as := []) (st := []) rfl rfl (Nat.le_of_ble_eq_true rfl) (Nat.le_refl _) (Nat.le_refl _) (ev_Word_sort_2 ?_)
  refine fg_iconst (fg_ft (pc := 4) tb_Reader_rowsOf 2 rfl) ic_1 ?_
  refine fg_icmp_neN (tgt := 13) (fg_ft (pc := 5) tb_Reader_rowsOf 3 rfl) (by decide) (by decide) (by decide) (fun c5 => ?_) (fun c5 => (absurd c5 (by decide)))
  refine fg_aloadn (fg_ft (pc := 13) tb_Reader_rowsOf 7 rfl) rfl ?_
  refine fg_gets (fg_ft (pc := 14) tb_Reader_rowsOf 8 rfl) fs_Reader_133 ?_
  refine fg_acmp_ne (tgt := 28) (fg_ft (pc := 17) tb_Reader_rowsOf 9 rfl) (by decide) (by decide) (by decide) (fun _ => ?_) (fun h => absurd h (by decide))
  refine fg_aloadn (fg_ft (pc := 28) tb_Reader_rowsOf 14 rfl) rfl ?_
  refine fg_gets (fg_ft (pc := 29) tb_Reader_rowsOf 15 rfl) fs_Reader_140 ?_
  refine fg_acmp_eq (tgt := 49) (fg_ft (pc := 32) tb_Reader_rowsOf 16 rfl) (by decide) (by decide) (by decide) (fun _ => ?_) (fun h => absurd rfl h)
  refine fg_aloadn (fg_ft (pc := 49) tb_Reader_rowsOf 23 rfl) rfl ?_
  refine fg_getR (fg_ft (pc := 50) tb_Reader_rowsOf 24 rfl) ff_Reader_12 ly_255 rfl (fg_lt ly_255 (by decide)) (rh_255_0 R) ?_
  refine fg_getR (fg_ft (pc := 53) tb_Reader_rowsOf 25 rfl) ff_Reader_149 ly_256 rfl (fg_lt ly_256 (by decide)) (rh_256_3 R) ?_
  exact fg_aret (fg_ft (pc := 56) tb_Reader_rowsOf 26 rfl) rfl (by first | exact Or.inl ⟨_, rfl⟩ | exact Or.inr ⟨_, rfl⟩) rfl (hQ)
theorem ev_Reader_rowsOf_3 {E : fg_E} {d : Nat} {μ : Nat → Nat → Int32} {R : fg_T4} {Q : Option Value → fg_M → Prop} (hQ : Q (some (.ref 259)) (μ, fg_rho R, 304)) : fg_Ev E yy_Reader_rowsOf (d + 2) [.ref 255, .ref 3] (μ, fg_rho R, 304) 304 Q := by
  refine fg_intro (by decide +kernel) (Nat.le_of_ble_eq_true rfl) (fg_okAs rfl) (Nat.le_refl _) ?_
  refine fg_aloadn (fg_ft (pc := 0) tb_Reader_rowsOf 0 rfl) rfl ?_
  refine fg_callV (fg_ft (pc := 1) tb_Reader_rowsOf 1 rfl) cf_Reader_117 (Or.inr (pz_isW (w := 3) (by decide))) (as := []) (st := []) rfl rfl (Nat.le_of_ble_eq_true rfl) (Nat.le_refl _) (Nat.le_refl _) (ev_Word_sort_3 ?_)
  refine fg_iconst (fg_ft (pc := 4) tb_Reader_rowsOf 2 rfl) ic_1 ?_
  refine fg_icmp_neN (tgt := 13) (fg_ft (pc := 5) tb_Reader_rowsOf 3 rfl) (by decide) (by decide) (by decide) (fun c5 => ?_) (fun c5 => (absurd c5 (by decide)))
  refine fg_aloadn (fg_ft (pc := 13) tb_Reader_rowsOf 7 rfl) rfl ?_
  refine fg_gets (fg_ft (pc := 14) tb_Reader_rowsOf 8 rfl) fs_Reader_133 ?_
  refine fg_acmp_ne (tgt := 28) (fg_ft (pc := 17) tb_Reader_rowsOf 9 rfl) (by decide) (by decide) (by decide) (fun _ => ?_) (fun h => absurd h (by decide))
  refine fg_aloadn (fg_ft (pc := 28) tb_Reader_rowsOf 14 rfl) rfl ?_
  refine fg_gets (fg_ft (pc := 29) tb_Reader_rowsOf 15 rfl) fs_Reader_140 ?_
  refine fg_acmp_eq (tgt := 49) (fg_ft (pc := 32) tb_Reader_rowsOf 16 rfl) (by decide) (by decide) (by decide) (fun h => absurd h (by decide)) (fun _ => ?_)
  refine fg_aloadn (fg_ft (pc := 35) tb_Reader_rowsOf 17 rfl) rfl ?_
  refine fg_gets (fg_ft (pc := 36) tb_Reader_rowsOf 18 rfl) fs_Reader_143 ?_
  refine fg_acmp_eq (tgt := 49) (fg_ft (pc := 39) tb_Reader_rowsOf 19 rfl) (by decide) (by decide) (by decide) (fun _ => ?_) (fun h => absurd rfl h)
  refine fg_aloadn (fg_ft (pc := 49) tb_Reader_rowsOf 23 rfl) rfl ?_
  refine fg_getR (fg_ft (pc := 50) tb_Reader_rowsOf 24 rfl) ff_Reader_12 ly_255 rfl (fg_lt ly_255 (by decide)) (rh_255_0 R) ?_
  refine fg_getR (fg_ft (pc := 53) tb_Reader_rowsOf 25 rfl) ff_Reader_149 ly_256 rfl (fg_lt ly_256 (by decide)) (rh_256_3 R) ?_
  exact fg_aret (fg_ft (pc := 56) tb_Reader_rowsOf 26 rfl) rfl (by first | exact Or.inl ⟨_, rfl⟩ | exact Or.inr ⟨_, rfl⟩) rfl (hQ)
theorem ev_Reader_rowsOf_4 {E : fg_E} {d : Nat} {μ : Nat → Nat → Int32} {R : fg_T4} {Q : Option Value → fg_M → Prop} (hQ : Q (some (.ref 259)) (μ, fg_rho R, 304)) : fg_Ev E yy_Reader_rowsOf (d + 2) [.ref 255, .ref 4] (μ, fg_rho R, 304) 304 Q := by
  refine fg_intro (by decide +kernel) (Nat.le_of_ble_eq_true rfl) (fg_okAs rfl) (Nat.le_refl _) ?_
  refine fg_aloadn (fg_ft (pc := 0) tb_Reader_rowsOf 0 rfl) rfl ?_
  refine fg_callV (fg_ft (pc := 1) tb_Reader_rowsOf 1 rfl) cf_Reader_117 (Or.inr (pz_isW (w := 4) (by decide))) (as := []) (st := []) rfl rfl (Nat.le_of_ble_eq_true rfl) (Nat.le_refl _) (Nat.le_refl _) (ev_Word_sort_4 ?_)
  refine fg_iconst (fg_ft (pc := 4) tb_Reader_rowsOf 2 rfl) ic_1 ?_
  refine fg_icmp_neN (tgt := 13) (fg_ft (pc := 5) tb_Reader_rowsOf 3 rfl) (by decide) (by decide) (by decide) (fun c5 => ?_) (fun c5 => (absurd c5 (by decide)))
  refine fg_aloadn (fg_ft (pc := 13) tb_Reader_rowsOf 7 rfl) rfl ?_
  refine fg_gets (fg_ft (pc := 14) tb_Reader_rowsOf 8 rfl) fs_Reader_133 ?_
  refine fg_acmp_ne (tgt := 28) (fg_ft (pc := 17) tb_Reader_rowsOf 9 rfl) (by decide) (by decide) (by decide) (fun _ => ?_) (fun h => absurd h (by decide))
  refine fg_aloadn (fg_ft (pc := 28) tb_Reader_rowsOf 14 rfl) rfl ?_
  refine fg_gets (fg_ft (pc := 29) tb_Reader_rowsOf 15 rfl) fs_Reader_140 ?_
  refine fg_acmp_eq (tgt := 49) (fg_ft (pc := 32) tb_Reader_rowsOf 16 rfl) (by decide) (by decide) (by decide) (fun h => absurd h (by decide)) (fun _ => ?_)
  refine fg_aloadn (fg_ft (pc := 35) tb_Reader_rowsOf 17 rfl) rfl ?_
  refine fg_gets (fg_ft (pc := 36) tb_Reader_rowsOf 18 rfl) fs_Reader_143 ?_
  refine fg_acmp_eq (tgt := 49) (fg_ft (pc := 39) tb_Reader_rowsOf 19 rfl) (by decide) (by decide) (by decide) (fun h => absurd h (by decide)) (fun _ => ?_)
  refine fg_aloadn (fg_ft (pc := 42) tb_Reader_rowsOf 20 rfl) rfl ?_
  refine fg_gets (fg_ft (pc := 43) tb_Reader_rowsOf 21 rfl) fs_Reader_146 ?_
  refine fg_acmp_ne (tgt := 57) (fg_ft (pc := 46) tb_Reader_rowsOf 22 rfl) (by decide) (by decide) (by decide) (fun h => absurd rfl h) (fun _ => ?_)
  refine fg_aloadn (fg_ft (pc := 49) tb_Reader_rowsOf 23 rfl) rfl ?_
  refine fg_getR (fg_ft (pc := 50) tb_Reader_rowsOf 24 rfl) ff_Reader_12 ly_255 rfl (fg_lt ly_255 (by decide)) (rh_255_0 R) ?_
  refine fg_getR (fg_ft (pc := 53) tb_Reader_rowsOf 25 rfl) ff_Reader_149 ly_256 rfl (fg_lt ly_256 (by decide)) (rh_256_3 R) ?_
  exact fg_aret (fg_ft (pc := 56) tb_Reader_rowsOf 26 rfl) rfl (by first | exact Or.inl ⟨_, rfl⟩ | exact Or.inr ⟨_, rfl⟩) rfl (hQ)
theorem ev_Reader_rowsOf_5 {E : fg_E} {d : Nat} {μ : Nat → Nat → Int32} {R : fg_T4} {Q : Option Value → fg_M → Prop} (hQ : Q (some (.ref 261)) (μ, fg_rho R, 304)) : fg_Ev E yy_Reader_rowsOf (d + 2) [.ref 255, .ref 5] (μ, fg_rho R, 304) 304 Q := by
  refine fg_intro (by decide +kernel) (Nat.le_of_ble_eq_true rfl) (fg_okAs rfl) (Nat.le_refl _) ?_
  refine fg_aloadn (fg_ft (pc := 0) tb_Reader_rowsOf 0 rfl) rfl ?_
  refine fg_callV (fg_ft (pc := 1) tb_Reader_rowsOf 1 rfl) cf_Reader_117 (Or.inr (pz_isW (w := 5) (by decide))) (as := []) (st := []) rfl rfl (Nat.le_of_ble_eq_true rfl) (Nat.le_refl _) (Nat.le_refl _) (ev_Word_sort_5 ?_)
  refine fg_iconst (fg_ft (pc := 4) tb_Reader_rowsOf 2 rfl) ic_1 ?_
  refine fg_icmp_neN (tgt := 13) (fg_ft (pc := 5) tb_Reader_rowsOf 3 rfl) (by decide) (by decide) (by decide) (fun c5 => ?_) (fun c5 => (absurd c5 (by decide)))
  refine fg_aloadn (fg_ft (pc := 13) tb_Reader_rowsOf 7 rfl) rfl ?_
  refine fg_gets (fg_ft (pc := 14) tb_Reader_rowsOf 8 rfl) fs_Reader_133 ?_
  refine fg_acmp_ne (tgt := 28) (fg_ft (pc := 17) tb_Reader_rowsOf 9 rfl) (by decide) (by decide) (by decide) (fun _ => ?_) (fun h => absurd h (by decide))
  refine fg_aloadn (fg_ft (pc := 28) tb_Reader_rowsOf 14 rfl) rfl ?_
  refine fg_gets (fg_ft (pc := 29) tb_Reader_rowsOf 15 rfl) fs_Reader_140 ?_
  refine fg_acmp_eq (tgt := 49) (fg_ft (pc := 32) tb_Reader_rowsOf 16 rfl) (by decide) (by decide) (by decide) (fun h => absurd h (by decide)) (fun _ => ?_)
  refine fg_aloadn (fg_ft (pc := 35) tb_Reader_rowsOf 17 rfl) rfl ?_
  refine fg_gets (fg_ft (pc := 36) tb_Reader_rowsOf 18 rfl) fs_Reader_143 ?_
  refine fg_acmp_eq (tgt := 49) (fg_ft (pc := 39) tb_Reader_rowsOf 19 rfl) (by decide) (by decide) (by decide) (fun h => absurd h (by decide)) (fun _ => ?_)
  refine fg_aloadn (fg_ft (pc := 42) tb_Reader_rowsOf 20 rfl) rfl ?_
  refine fg_gets (fg_ft (pc := 43) tb_Reader_rowsOf 21 rfl) fs_Reader_146 ?_
  refine fg_acmp_ne (tgt := 57) (fg_ft (pc := 46) tb_Reader_rowsOf 22 rfl) (by decide) (by decide) (by decide) (fun _ => ?_) (fun h => absurd h (by decide))
  refine fg_aloadn (fg_ft (pc := 57) tb_Reader_rowsOf 27 rfl) rfl ?_
  refine fg_gets (fg_ft (pc := 58) tb_Reader_rowsOf 28 rfl) fs_Reader_152 ?_
  refine fg_acmp_ne (tgt := 72) (fg_ft (pc := 61) tb_Reader_rowsOf 29 rfl) (by decide) (by decide) (by decide) (fun h => absurd rfl h) (fun _ => ?_)
  refine fg_aloadn (fg_ft (pc := 64) tb_Reader_rowsOf 30 rfl) rfl ?_
  refine fg_getR (fg_ft (pc := 65) tb_Reader_rowsOf 31 rfl) ff_Reader_12 ly_255 rfl (fg_lt ly_255 (by decide)) (rh_255_0 R) ?_
  refine fg_getR (fg_ft (pc := 68) tb_Reader_rowsOf 32 rfl) ff_Reader_155 ly_256 rfl (fg_lt ly_256 (by decide)) (rh_256_4 R) ?_
  exact fg_aret (fg_ft (pc := 71) tb_Reader_rowsOf 33 rfl) rfl (by first | exact Or.inl ⟨_, rfl⟩ | exact Or.inr ⟨_, rfl⟩) rfl (hQ)
theorem ev_Reader_rowsOf_6 {E : fg_E} {d : Nat} {μ : Nat → Nat → Int32} {R : fg_T4} {Q : Option Value → fg_M → Prop} (hQ : Q (some (.ref 263)) (μ, fg_rho R, 304)) : fg_Ev E yy_Reader_rowsOf (d + 2) [.ref 255, .ref 6] (μ, fg_rho R, 304) 304 Q := by
  refine fg_intro (by decide +kernel) (Nat.le_of_ble_eq_true rfl) (fg_okAs rfl) (Nat.le_refl _) ?_
  refine fg_aloadn (fg_ft (pc := 0) tb_Reader_rowsOf 0 rfl) rfl ?_
  refine fg_callV (fg_ft (pc := 1) tb_Reader_rowsOf 1 rfl) cf_Reader_117 (Or.inr (pz_isW (w := 6) (by decide))) (as := []) (st := []) rfl rfl (Nat.le_of_ble_eq_true rfl) (Nat.le_refl _) (Nat.le_refl _) (ev_Word_sort_6 ?_)
  refine fg_iconst (fg_ft (pc := 4) tb_Reader_rowsOf 2 rfl) ic_1 ?_
  refine fg_icmp_neN (tgt := 13) (fg_ft (pc := 5) tb_Reader_rowsOf 3 rfl) (by decide) (by decide) (by decide) (fun c5 => ?_) (fun c5 => (absurd c5 (by decide)))
  refine fg_aloadn (fg_ft (pc := 13) tb_Reader_rowsOf 7 rfl) rfl ?_
  refine fg_gets (fg_ft (pc := 14) tb_Reader_rowsOf 8 rfl) fs_Reader_133 ?_
  refine fg_acmp_ne (tgt := 28) (fg_ft (pc := 17) tb_Reader_rowsOf 9 rfl) (by decide) (by decide) (by decide) (fun _ => ?_) (fun h => absurd h (by decide))
  refine fg_aloadn (fg_ft (pc := 28) tb_Reader_rowsOf 14 rfl) rfl ?_
  refine fg_gets (fg_ft (pc := 29) tb_Reader_rowsOf 15 rfl) fs_Reader_140 ?_
  refine fg_acmp_eq (tgt := 49) (fg_ft (pc := 32) tb_Reader_rowsOf 16 rfl) (by decide) (by decide) (by decide) (fun h => absurd h (by decide)) (fun _ => ?_)
  refine fg_aloadn (fg_ft (pc := 35) tb_Reader_rowsOf 17 rfl) rfl ?_
  refine fg_gets (fg_ft (pc := 36) tb_Reader_rowsOf 18 rfl) fs_Reader_143 ?_
  refine fg_acmp_eq (tgt := 49) (fg_ft (pc := 39) tb_Reader_rowsOf 19 rfl) (by decide) (by decide) (by decide) (fun h => absurd h (by decide)) (fun _ => ?_)
  refine fg_aloadn (fg_ft (pc := 42) tb_Reader_rowsOf 20 rfl) rfl ?_
  refine fg_gets (fg_ft (pc := 43) tb_Reader_rowsOf 21 rfl) fs_Reader_146 ?_
  refine fg_acmp_ne (tgt := 57) (fg_ft (pc := 46) tb_Reader_rowsOf 22 rfl) (by decide) (by decide) (by decide) (fun _ => ?_) (fun h => absurd h (by decide))
  refine fg_aloadn (fg_ft (pc := 57) tb_Reader_rowsOf 27 rfl) rfl ?_
  refine fg_gets (fg_ft (pc := 58) tb_Reader_rowsOf 28 rfl) fs_Reader_152 ?_
  refine fg_acmp_ne (tgt := 72) (fg_ft (pc := 61) tb_Reader_rowsOf 29 rfl) (by decide) (by decide) (by decide) (fun _ => ?_) (fun h => absurd h (by decide))
  refine fg_aloadn (fg_ft (pc := 72) tb_Reader_rowsOf 34 rfl) rfl ?_
  refine fg_gets (fg_ft (pc := 73) tb_Reader_rowsOf 35 rfl) fs_Reader_158 ?_
  refine fg_acmp_ne (tgt := 87) (fg_ft (pc := 76) tb_Reader_rowsOf 36 rfl) (by decide) (by decide) (by decide) (fun h => absurd rfl h) (fun _ => ?_)
  refine fg_aloadn (fg_ft (pc := 79) tb_Reader_rowsOf 37 rfl) rfl ?_
  refine fg_getR (fg_ft (pc := 80) tb_Reader_rowsOf 38 rfl) ff_Reader_12 ly_255 rfl (fg_lt ly_255 (by decide)) (rh_255_0 R) ?_
  refine fg_getR (fg_ft (pc := 83) tb_Reader_rowsOf 39 rfl) ff_Reader_161 ly_256 rfl (fg_lt ly_256 (by decide)) (rh_256_5 R) ?_
  exact fg_aret (fg_ft (pc := 86) tb_Reader_rowsOf 40 rfl) rfl (by first | exact Or.inl ⟨_, rfl⟩ | exact Or.inr ⟨_, rfl⟩) rfl (hQ)
theorem ev_Reader_rowsOf_7 {E : fg_E} {d : Nat} {μ : Nat → Nat → Int32} {R : fg_T4} {Q : Option Value → fg_M → Prop} (hQ : Q (some (.ref 265)) (μ, fg_rho R, 304)) : fg_Ev E yy_Reader_rowsOf (d + 2) [.ref 255, .ref 7] (μ, fg_rho R, 304) 304 Q := by
  refine fg_intro (by decide +kernel) (Nat.le_of_ble_eq_true rfl) (fg_okAs rfl) (Nat.le_refl _) ?_
  refine fg_aloadn (fg_ft (pc := 0) tb_Reader_rowsOf 0 rfl) rfl ?_
  refine fg_callV (fg_ft (pc := 1) tb_Reader_rowsOf 1 rfl) cf_Reader_117 (Or.inr (pz_isW (w := 7) (by decide))) (as := []) (st := []) rfl rfl (Nat.le_of_ble_eq_true rfl) (Nat.le_refl _) (Nat.le_refl _) (ev_Word_sort_7 ?_)
  refine fg_iconst (fg_ft (pc := 4) tb_Reader_rowsOf 2 rfl) ic_1 ?_
  refine fg_icmp_neN (tgt := 13) (fg_ft (pc := 5) tb_Reader_rowsOf 3 rfl) (by decide) (by decide) (by decide) (fun c5 => ?_) (fun c5 => (absurd c5 (by decide)))
  refine fg_aloadn (fg_ft (pc := 13) tb_Reader_rowsOf 7 rfl) rfl ?_
  refine fg_gets (fg_ft (pc := 14) tb_Reader_rowsOf 8 rfl) fs_Reader_133 ?_
  refine fg_acmp_ne (tgt := 28) (fg_ft (pc := 17) tb_Reader_rowsOf 9 rfl) (by decide) (by decide) (by decide) (fun _ => ?_) (fun h => absurd h (by decide))
  refine fg_aloadn (fg_ft (pc := 28) tb_Reader_rowsOf 14 rfl) rfl ?_
  refine fg_gets (fg_ft (pc := 29) tb_Reader_rowsOf 15 rfl) fs_Reader_140 ?_
  refine fg_acmp_eq (tgt := 49) (fg_ft (pc := 32) tb_Reader_rowsOf 16 rfl) (by decide) (by decide) (by decide) (fun h => absurd h (by decide)) (fun _ => ?_)
  refine fg_aloadn (fg_ft (pc := 35) tb_Reader_rowsOf 17 rfl) rfl ?_
  refine fg_gets (fg_ft (pc := 36) tb_Reader_rowsOf 18 rfl) fs_Reader_143 ?_
  refine fg_acmp_eq (tgt := 49) (fg_ft (pc := 39) tb_Reader_rowsOf 19 rfl) (by decide) (by decide) (by decide) (fun h => absurd h (by decide)) (fun _ => ?_)
  refine fg_aloadn (fg_ft (pc := 42) tb_Reader_rowsOf 20 rfl) rfl ?_
  refine fg_gets (fg_ft (pc := 43) tb_Reader_rowsOf 21 rfl) fs_Reader_146 ?_
  refine fg_acmp_ne (tgt := 57) (fg_ft (pc := 46) tb_Reader_rowsOf 22 rfl) (by decide) (by decide) (by decide) (fun _ => ?_) (fun h => absurd h (by decide))
  refine fg_aloadn (fg_ft (pc := 57) tb_Reader_rowsOf 27 rfl) rfl ?_
  refine fg_gets (fg_ft (pc := 58) tb_Reader_rowsOf 28 rfl) fs_Reader_152 ?_
  refine fg_acmp_ne (tgt := 72) (fg_ft (pc := 61) tb_Reader_rowsOf 29 rfl) (by decide) (by decide) (by decide) (fun _ => ?_) (fun h => absurd h (by decide))
  refine fg_aloadn (fg_ft (pc := 72) tb_Reader_rowsOf 34 rfl) rfl ?_
  refine fg_gets (fg_ft (pc := 73) tb_Reader_rowsOf 35 rfl) fs_Reader_158 ?_
  refine fg_acmp_ne (tgt := 87) (fg_ft (pc := 76) tb_Reader_rowsOf 36 rfl) (by decide) (by decide) (by decide) (fun _ => ?_) (fun h => absurd h (by decide))
  refine fg_aloadn (fg_ft (pc := 87) tb_Reader_rowsOf 41 rfl) rfl ?_
  refine fg_gets (fg_ft (pc := 88) tb_Reader_rowsOf 42 rfl) fs_Reader_164 ?_
  refine fg_acmp_ne (tgt := 102) (fg_ft (pc := 91) tb_Reader_rowsOf 43 rfl) (by decide) (by decide) (by decide) (fun h => absurd rfl h) (fun _ => ?_)
  refine fg_aloadn (fg_ft (pc := 94) tb_Reader_rowsOf 44 rfl) rfl ?_
  refine fg_getR (fg_ft (pc := 95) tb_Reader_rowsOf 45 rfl) ff_Reader_12 ly_255 rfl (fg_lt ly_255 (by decide)) (rh_255_0 R) ?_
  refine fg_getR (fg_ft (pc := 98) tb_Reader_rowsOf 46 rfl) ff_Reader_167 ly_256 rfl (fg_lt ly_256 (by decide)) (rh_256_6 R) ?_
  exact fg_aret (fg_ft (pc := 101) tb_Reader_rowsOf 47 rfl) rfl (by first | exact Or.inl ⟨_, rfl⟩ | exact Or.inr ⟨_, rfl⟩) rfl (hQ)
theorem ev_Reader_rowsOf_8 {E : fg_E} {d : Nat} {μ : Nat → Nat → Int32} {R : fg_T4} {Q : Option Value → fg_M → Prop} (hQ : Q (some (.ref 267)) (μ, fg_rho R, 304)) : fg_Ev E yy_Reader_rowsOf (d + 2) [.ref 255, .ref 8] (μ, fg_rho R, 304) 304 Q := by
  refine fg_intro (by decide +kernel) (Nat.le_of_ble_eq_true rfl) (fg_okAs rfl) (Nat.le_refl _) ?_
  refine fg_aloadn (fg_ft (pc := 0) tb_Reader_rowsOf 0 rfl) rfl ?_
  refine fg_callV (fg_ft (pc := 1) tb_Reader_rowsOf 1 rfl) cf_Reader_117 (Or.inr (pz_isW (w := 8) (by decide))) (as := []) (st := []) rfl rfl (Nat.le_of_ble_eq_true rfl) (Nat.le_refl _) (Nat.le_refl _) (ev_Word_sort_8 ?_)
  refine fg_iconst (fg_ft (pc := 4) tb_Reader_rowsOf 2 rfl) ic_1 ?_
  refine fg_icmp_neN (tgt := 13) (fg_ft (pc := 5) tb_Reader_rowsOf 3 rfl) (by decide) (by decide) (by decide) (fun c5 => ?_) (fun c5 => (absurd c5 (by decide)))
  refine fg_aloadn (fg_ft (pc := 13) tb_Reader_rowsOf 7 rfl) rfl ?_
  refine fg_gets (fg_ft (pc := 14) tb_Reader_rowsOf 8 rfl) fs_Reader_133 ?_
  refine fg_acmp_ne (tgt := 28) (fg_ft (pc := 17) tb_Reader_rowsOf 9 rfl) (by decide) (by decide) (by decide) (fun _ => ?_) (fun h => absurd h (by decide))
  refine fg_aloadn (fg_ft (pc := 28) tb_Reader_rowsOf 14 rfl) rfl ?_
  refine fg_gets (fg_ft (pc := 29) tb_Reader_rowsOf 15 rfl) fs_Reader_140 ?_
  refine fg_acmp_eq (tgt := 49) (fg_ft (pc := 32) tb_Reader_rowsOf 16 rfl) (by decide) (by decide) (by decide) (fun h => absurd h (by decide)) (fun _ => ?_)
  refine fg_aloadn (fg_ft (pc := 35) tb_Reader_rowsOf 17 rfl) rfl ?_
  refine fg_gets (fg_ft (pc := 36) tb_Reader_rowsOf 18 rfl) fs_Reader_143 ?_
  refine fg_acmp_eq (tgt := 49) (fg_ft (pc := 39) tb_Reader_rowsOf 19 rfl) (by decide) (by decide) (by decide) (fun h => absurd h (by decide)) (fun _ => ?_)
  refine fg_aloadn (fg_ft (pc := 42) tb_Reader_rowsOf 20 rfl) rfl ?_
  refine fg_gets (fg_ft (pc := 43) tb_Reader_rowsOf 21 rfl) fs_Reader_146 ?_
  refine fg_acmp_ne (tgt := 57) (fg_ft (pc := 46) tb_Reader_rowsOf 22 rfl) (by decide) (by decide) (by decide) (fun _ => ?_) (fun h => absurd h (by decide))
  refine fg_aloadn (fg_ft (pc := 57) tb_Reader_rowsOf 27 rfl) rfl ?_
  refine fg_gets (fg_ft (pc := 58) tb_Reader_rowsOf 28 rfl) fs_Reader_152 ?_
  refine fg_acmp_ne (tgt := 72) (fg_ft (pc := 61) tb_Reader_rowsOf 29 rfl) (by decide) (by decide) (by decide) (fun _ => ?_) (fun h => absurd h (by decide))
  refine fg_aloadn (fg_ft (pc := 72) tb_Reader_rowsOf 34 rfl) rfl ?_
  refine fg_gets (fg_ft (pc := 73) tb_Reader_rowsOf 35 rfl) fs_Reader_158 ?_
  refine fg_acmp_ne (tgt := 87) (fg_ft (pc := 76) tb_Reader_rowsOf 36 rfl) (by decide) (by decide) (by decide) (fun _ => ?_) (fun h => absurd h (by decide))
  refine fg_aloadn (fg_ft (pc := 87) tb_Reader_rowsOf 41 rfl) rfl ?_
  refine fg_gets (fg_ft (pc := 88) tb_Reader_rowsOf 42 rfl) fs_Reader_164 ?_
  refine fg_acmp_ne (tgt := 102) (fg_ft (pc := 91) tb_Reader_rowsOf 43 rfl) (by decide) (by decide) (by decide) (fun _ => ?_) (fun h => absurd h (by decide))
  refine fg_aloadn (fg_ft (pc := 102) tb_Reader_rowsOf 48 rfl) rfl ?_
  refine fg_gets (fg_ft (pc := 103) tb_Reader_rowsOf 49 rfl) fs_Reader_170 ?_
  refine fg_acmp_ne (tgt := 119) (fg_ft (pc := 106) tb_Reader_rowsOf 50 rfl) (by decide) (by decide) (by decide) (fun h => absurd rfl h) (fun _ => ?_)
  refine fg_aloadn (fg_ft (pc := 109) tb_Reader_rowsOf 51 rfl) rfl ?_
  refine fg_getR (fg_ft (pc := 110) tb_Reader_rowsOf 52 rfl) ff_Reader_12 ly_255 rfl (fg_lt ly_255 (by decide)) (rh_255_0 R) ?_
  refine fg_getR (fg_ft (pc := 113) tb_Reader_rowsOf 53 rfl) ff_Reader_173 ly_256 rfl (fg_lt ly_256 (by decide)) (rh_256_7 R) ?_
  refine fg_goto (tgt := 120) (fg_ft (pc := 116) tb_Reader_rowsOf 54 rfl) (by decide) ?_
  exact fg_aret (fg_ft (pc := 120) tb_Reader_rowsOf 56 rfl) rfl (by first | exact Or.inl ⟨_, rfl⟩ | exact Or.inr ⟨_, rfl⟩) rfl (hQ)
theorem ev_Reader_rowsOf_9 {E : fg_E} {d : Nat} {μ : Nat → Nat → Int32} {R : fg_T4} {Q : Option Value → fg_M → Prop} (hQ : Q (some (.null)) (μ, fg_rho R, 304)) : fg_Ev E yy_Reader_rowsOf (d + 2) [.ref 255, .ref 9] (μ, fg_rho R, 304) 304 Q := by
  refine fg_intro (by decide +kernel) (Nat.le_of_ble_eq_true rfl) (fg_okAs rfl) (Nat.le_refl _) ?_
  refine fg_aloadn (fg_ft (pc := 0) tb_Reader_rowsOf 0 rfl) rfl ?_
  refine fg_callV (fg_ft (pc := 1) tb_Reader_rowsOf 1 rfl) cf_Reader_117 (Or.inr (pz_isW (w := 9) (by decide))) (as := []) (st := []) rfl rfl (Nat.le_of_ble_eq_true rfl) (Nat.le_refl _) (Nat.le_refl _) (ev_Word_sort_9 ?_)
  refine fg_iconst (fg_ft (pc := 4) tb_Reader_rowsOf 2 rfl) ic_1 ?_
  refine fg_icmp_neN (tgt := 13) (fg_ft (pc := 5) tb_Reader_rowsOf 3 rfl) (by decide) (by decide) (by decide) (fun c5 => ?_) (fun c5 => (absurd c5 (by decide)))
  refine fg_aloadn (fg_ft (pc := 13) tb_Reader_rowsOf 7 rfl) rfl ?_
  refine fg_gets (fg_ft (pc := 14) tb_Reader_rowsOf 8 rfl) fs_Reader_133 ?_
  refine fg_acmp_ne (tgt := 28) (fg_ft (pc := 17) tb_Reader_rowsOf 9 rfl) (by decide) (by decide) (by decide) (fun _ => ?_) (fun h => absurd h (by decide))
  refine fg_aloadn (fg_ft (pc := 28) tb_Reader_rowsOf 14 rfl) rfl ?_
  refine fg_gets (fg_ft (pc := 29) tb_Reader_rowsOf 15 rfl) fs_Reader_140 ?_
  refine fg_acmp_eq (tgt := 49) (fg_ft (pc := 32) tb_Reader_rowsOf 16 rfl) (by decide) (by decide) (by decide) (fun h => absurd h (by decide)) (fun _ => ?_)
  refine fg_aloadn (fg_ft (pc := 35) tb_Reader_rowsOf 17 rfl) rfl ?_
  refine fg_gets (fg_ft (pc := 36) tb_Reader_rowsOf 18 rfl) fs_Reader_143 ?_
  refine fg_acmp_eq (tgt := 49) (fg_ft (pc := 39) tb_Reader_rowsOf 19 rfl) (by decide) (by decide) (by decide) (fun h => absurd h (by decide)) (fun _ => ?_)
  refine fg_aloadn (fg_ft (pc := 42) tb_Reader_rowsOf 20 rfl) rfl ?_
  refine fg_gets (fg_ft (pc := 43) tb_Reader_rowsOf 21 rfl) fs_Reader_146 ?_
  refine fg_acmp_ne (tgt := 57) (fg_ft (pc := 46) tb_Reader_rowsOf 22 rfl) (by decide) (by decide) (by decide) (fun _ => ?_) (fun h => absurd h (by decide))
  refine fg_aloadn (fg_ft (pc := 57) tb_Reader_rowsOf 27 rfl) rfl ?_
  refine fg_gets (fg_ft (pc := 58) tb_Reader_rowsOf 28 rfl) fs_Reader_152 ?_
  refine fg_acmp_ne (tgt := 72) (fg_ft (pc := 61) tb_Reader_rowsOf 29 rfl) (by decide) (by decide) (by decide) (fun _ => ?_) (fun h => absurd h (by decide))
  refine fg_aloadn (fg_ft (pc := 72) tb_Reader_rowsOf 34 rfl) rfl ?_
  refine fg_gets (fg_ft (pc := 73) tb_Reader_rowsOf 35 rfl) fs_Reader_158 ?_
  refine fg_acmp_ne (tgt := 87) (fg_ft (pc := 76) tb_Reader_rowsOf 36 rfl) (by decide) (by decide) (by decide) (fun _ => ?_) (fun h => absurd h (by decide))
  refine fg_aloadn (fg_ft (pc := 87) tb_Reader_rowsOf 41 rfl) rfl ?_
  refine fg_gets (fg_ft (pc := 88) tb_Reader_rowsOf 42 rfl) fs_Reader_164 ?_
  refine fg_acmp_ne (tgt := 102) (fg_ft (pc := 91) tb_Reader_rowsOf 43 rfl) (by decide) (by decide) (by decide) (fun _ => ?_) (fun h => absurd h (by decide))
  refine fg_aloadn (fg_ft (pc := 102) tb_Reader_rowsOf 48 rfl) rfl ?_
  refine fg_gets (fg_ft (pc := 103) tb_Reader_rowsOf 49 rfl) fs_Reader_170 ?_
  refine fg_acmp_ne (tgt := 119) (fg_ft (pc := 106) tb_Reader_rowsOf 50 rfl) (by decide) (by decide) (by decide) (fun _ => ?_) (fun h => absurd h (by decide))
  refine fg_null (fg_ft (pc := 119) tb_Reader_rowsOf 55 rfl) ?_
  exact fg_nret (fg_ft (pc := 120) tb_Reader_rowsOf 56 rfl) rfl (by first | exact Or.inl ⟨_, rfl⟩ | exact Or.inr ⟨_, rfl⟩) rfl (hQ)
theorem ev_Reader_rowsOf_10 {E : fg_E} {d : Nat} {μ : Nat → Nat → Int32} {R : fg_T4} {Q : Option Value → fg_M → Prop} (hQ : Q (some (.ref 270)) (μ, fg_rho R, 304)) : fg_Ev E yy_Reader_rowsOf (d + 2) [.ref 255, .ref 10] (μ, fg_rho R, 304) 304 Q := by
  refine fg_intro (by decide +kernel) (Nat.le_of_ble_eq_true rfl) (fg_okAs rfl) (Nat.le_refl _) ?_
  refine fg_aloadn (fg_ft (pc := 0) tb_Reader_rowsOf 0 rfl) rfl ?_
  refine fg_callV (fg_ft (pc := 1) tb_Reader_rowsOf 1 rfl) cf_Reader_117 (Or.inr (pz_isW (w := 10) (by decide))) (as := []) (st := []) rfl rfl (Nat.le_of_ble_eq_true rfl) (Nat.le_refl _) (Nat.le_refl _) (ev_Word_sort_10 ?_)
  refine fg_iconst (fg_ft (pc := 4) tb_Reader_rowsOf 2 rfl) ic_1 ?_
  refine fg_icmp_neN (tgt := 13) (fg_ft (pc := 5) tb_Reader_rowsOf 3 rfl) (by decide) (by decide) (by decide) (fun c5 => (absurd rfl c5)) (fun c5 => ?_)
  refine fg_aloadn (fg_ft (pc := 8) tb_Reader_rowsOf 4 rfl) rfl ?_
  refine fg_getR (fg_ft (pc := 9) tb_Reader_rowsOf 5 rfl) ff_Reader_23 ly_255 rfl (fg_lt ly_255 (by decide)) (rh_255_1 R) ?_
  exact fg_aret (fg_ft (pc := 12) tb_Reader_rowsOf 6 rfl) rfl (by first | exact Or.inl ⟨_, rfl⟩ | exact Or.inr ⟨_, rfl⟩) rfl (hQ)
theorem ev_Reader_rowsOf_11 {E : fg_E} {d : Nat} {μ : Nat → Nat → Int32} {R : fg_T4} {Q : Option Value → fg_M → Prop} (hQ : Q (some (.ref 270)) (μ, fg_rho R, 304)) : fg_Ev E yy_Reader_rowsOf (d + 2) [.ref 255, .ref 11] (μ, fg_rho R, 304) 304 Q := by
  refine fg_intro (by decide +kernel) (Nat.le_of_ble_eq_true rfl) (fg_okAs rfl) (Nat.le_refl _) ?_
  refine fg_aloadn (fg_ft (pc := 0) tb_Reader_rowsOf 0 rfl) rfl ?_
  refine fg_callV (fg_ft (pc := 1) tb_Reader_rowsOf 1 rfl) cf_Reader_117 (Or.inr (pz_isW (w := 11) (by decide))) (as := []) (st := []) rfl rfl (Nat.le_of_ble_eq_true rfl) (Nat.le_refl _) (Nat.le_refl _) (ev_Word_sort_11 ?_)
  refine fg_iconst (fg_ft (pc := 4) tb_Reader_rowsOf 2 rfl) ic_1 ?_
  refine fg_icmp_neN (tgt := 13) (fg_ft (pc := 5) tb_Reader_rowsOf 3 rfl) (by decide) (by decide) (by decide) (fun c5 => (absurd rfl c5)) (fun c5 => ?_)
  refine fg_aloadn (fg_ft (pc := 8) tb_Reader_rowsOf 4 rfl) rfl ?_
  refine fg_getR (fg_ft (pc := 9) tb_Reader_rowsOf 5 rfl) ff_Reader_23 ly_255 rfl (fg_lt ly_255 (by decide)) (rh_255_1 R) ?_
  exact fg_aret (fg_ft (pc := 12) tb_Reader_rowsOf 6 rfl) rfl (by first | exact Or.inl ⟨_, rfl⟩ | exact Or.inr ⟨_, rfl⟩) rfl (hQ)
theorem ev_Reader_rowsOf_12 {E : fg_E} {d : Nat} {μ : Nat → Nat → Int32} {R : fg_T4} {Q : Option Value → fg_M → Prop} (hQ : Q (some (.ref 270)) (μ, fg_rho R, 304)) : fg_Ev E yy_Reader_rowsOf (d + 2) [.ref 255, .ref 12] (μ, fg_rho R, 304) 304 Q := by
  refine fg_intro (by decide +kernel) (Nat.le_of_ble_eq_true rfl) (fg_okAs rfl) (Nat.le_refl _) ?_
  refine fg_aloadn (fg_ft (pc := 0) tb_Reader_rowsOf 0 rfl) rfl ?_
  refine fg_callV (fg_ft (pc := 1) tb_Reader_rowsOf 1 rfl) cf_Reader_117 (Or.inr (pz_isW (w := 12) (by decide))) (as := []) (st := []) rfl rfl (Nat.le_of_ble_eq_true rfl) (Nat.le_refl _) (Nat.le_refl _) (ev_Word_sort_12 ?_)
  refine fg_iconst (fg_ft (pc := 4) tb_Reader_rowsOf 2 rfl) ic_1 ?_
  refine fg_icmp_neN (tgt := 13) (fg_ft (pc := 5) tb_Reader_rowsOf 3 rfl) (by decide) (by decide) (by decide) (fun c5 => (absurd rfl c5)) (fun c5 => ?_)
  refine fg_aloadn (fg_ft (pc := 8) tb_Reader_rowsOf 4 rfl) rfl ?_
  refine fg_getR (fg_ft (pc := 9) tb_Reader_rowsOf 5 rfl) ff_Reader_23 ly_255 rfl (fg_lt ly_255 (by decide)) (rh_255_1 R) ?_
  exact fg_aret (fg_ft (pc := 12) tb_Reader_rowsOf 6 rfl) rfl (by first | exact Or.inl ⟨_, rfl⟩ | exact Or.inr ⟨_, rfl⟩) rfl (hQ)
theorem ev_Reader_rowsOf_13 {E : fg_E} {d : Nat} {μ : Nat → Nat → Int32} {R : fg_T4} {Q : Option Value → fg_M → Prop} (hQ : Q (some (.ref 270)) (μ, fg_rho R, 304)) : fg_Ev E yy_Reader_rowsOf (d + 2) [.ref 255, .ref 13] (μ, fg_rho R, 304) 304 Q := by
  refine fg_intro (by decide +kernel) (Nat.le_of_ble_eq_true rfl) (fg_okAs rfl) (Nat.le_refl _) ?_
  refine fg_aloadn (fg_ft (pc := 0) tb_Reader_rowsOf 0 rfl) rfl ?_
  refine fg_callV (fg_ft (pc := 1) tb_Reader_rowsOf 1 rfl) cf_Reader_117 (Or.inr (pz_isW (w := 13) (by decide))) (as := []) (st := []) rfl rfl (Nat.le_of_ble_eq_true rfl) (Nat.le_refl _) (Nat.le_refl _) (ev_Word_sort_13 ?_)
  refine fg_iconst (fg_ft (pc := 4) tb_Reader_rowsOf 2 rfl) ic_1 ?_
  refine fg_icmp_neN (tgt := 13) (fg_ft (pc := 5) tb_Reader_rowsOf 3 rfl) (by decide) (by decide) (by decide) (fun c5 => (absurd rfl c5)) (fun c5 => ?_)
  refine fg_aloadn (fg_ft (pc := 8) tb_Reader_rowsOf 4 rfl) rfl ?_
  refine fg_getR (fg_ft (pc := 9) tb_Reader_rowsOf 5 rfl) ff_Reader_23 ly_255 rfl (fg_lt ly_255 (by decide)) (rh_255_1 R) ?_
  exact fg_aret (fg_ft (pc := 12) tb_Reader_rowsOf 6 rfl) rfl (by first | exact Or.inl ⟨_, rfl⟩ | exact Or.inr ⟨_, rfl⟩) rfl (hQ)
theorem ev_Reader_rowsOf_14 {E : fg_E} {d : Nat} {μ : Nat → Nat → Int32} {R : fg_T4} {Q : Option Value → fg_M → Prop} (hQ : Q (some (.ref 270)) (μ, fg_rho R, 304)) : fg_Ev E yy_Reader_rowsOf (d + 2) [.ref 255, .ref 14] (μ, fg_rho R, 304) 304 Q := by
  refine fg_intro (by decide +kernel) (Nat.le_of_ble_eq_true rfl) (fg_okAs rfl) (Nat.le_refl _) ?_
  refine fg_aloadn (fg_ft (pc := 0) tb_Reader_rowsOf 0 rfl) rfl ?_
  refine fg_callV (fg_ft (pc := 1) tb_Reader_rowsOf 1 rfl) cf_Reader_117 (Or.inr (pz_isW (w := 14) (by decide))) (as := []) (st := []) rfl rfl (Nat.le_of_ble_eq_true rfl) (Nat.le_refl _) (Nat.le_refl _) (ev_Word_sort_14 ?_)
  refine fg_iconst (fg_ft (pc := 4) tb_Reader_rowsOf 2 rfl) ic_1 ?_
  refine fg_icmp_neN (tgt := 13) (fg_ft (pc := 5) tb_Reader_rowsOf 3 rfl) (by decide) (by decide) (by decide) (fun c5 => (absurd rfl c5)) (fun c5 => ?_)
  refine fg_aloadn (fg_ft (pc := 8) tb_Reader_rowsOf 4 rfl) rfl ?_
  refine fg_getR (fg_ft (pc := 9) tb_Reader_rowsOf 5 rfl) ff_Reader_23 ly_255 rfl (fg_lt ly_255 (by decide)) (rh_255_1 R) ?_
  exact fg_aret (fg_ft (pc := 12) tb_Reader_rowsOf 6 rfl) rfl (by first | exact Or.inl ⟨_, rfl⟩ | exact Or.inr ⟨_, rfl⟩) rfl (hQ)
theorem ev_Reader_rowsOf_15 {E : fg_E} {d : Nat} {μ : Nat → Nat → Int32} {R : fg_T4} {Q : Option Value → fg_M → Prop} (hQ : Q (some (.ref 270)) (μ, fg_rho R, 304)) : fg_Ev E yy_Reader_rowsOf (d + 2) [.ref 255, .ref 15] (μ, fg_rho R, 304) 304 Q := by
  refine fg_intro (by decide +kernel) (Nat.le_of_ble_eq_true rfl) (fg_okAs rfl) (Nat.le_refl _) ?_
  refine fg_aloadn (fg_ft (pc := 0) tb_Reader_rowsOf 0 rfl) rfl ?_
  refine fg_callV (fg_ft (pc := 1) tb_Reader_rowsOf 1 rfl) cf_Reader_117 (Or.inr (pz_isW (w := 15) (by decide))) (as := []) (st := []) rfl rfl (Nat.le_of_ble_eq_true rfl) (Nat.le_refl _) (Nat.le_refl _) (ev_Word_sort_15 ?_)
  refine fg_iconst (fg_ft (pc := 4) tb_Reader_rowsOf 2 rfl) ic_1 ?_
  refine fg_icmp_neN (tgt := 13) (fg_ft (pc := 5) tb_Reader_rowsOf 3 rfl) (by decide) (by decide) (by decide) (fun c5 => (absurd rfl c5)) (fun c5 => ?_)
  refine fg_aloadn (fg_ft (pc := 8) tb_Reader_rowsOf 4 rfl) rfl ?_
  refine fg_getR (fg_ft (pc := 9) tb_Reader_rowsOf 5 rfl) ff_Reader_23 ly_255 rfl (fg_lt ly_255 (by decide)) (rh_255_1 R) ?_
  exact fg_aret (fg_ft (pc := 12) tb_Reader_rowsOf 6 rfl) rfl (by first | exact Or.inl ⟨_, rfl⟩ | exact Or.inr ⟨_, rfl⟩) rfl (hQ)
theorem ev_Reader_rowsOf_16 {E : fg_E} {d : Nat} {μ : Nat → Nat → Int32} {R : fg_T4} {Q : Option Value → fg_M → Prop} (hQ : Q (some (.ref 270)) (μ, fg_rho R, 304)) : fg_Ev E yy_Reader_rowsOf (d + 2) [.ref 255, .ref 16] (μ, fg_rho R, 304) 304 Q := by
  refine fg_intro (by decide +kernel) (Nat.le_of_ble_eq_true rfl) (fg_okAs rfl) (Nat.le_refl _) ?_
  refine fg_aloadn (fg_ft (pc := 0) tb_Reader_rowsOf 0 rfl) rfl ?_
  refine fg_callV (fg_ft (pc := 1) tb_Reader_rowsOf 1 rfl) cf_Reader_117 (Or.inr (pz_isW (w := 16) (by decide))) (as := []) (st := []) rfl rfl (Nat.le_of_ble_eq_true rfl) (Nat.le_refl _) (Nat.le_refl _) (ev_Word_sort_16 ?_)
  refine fg_iconst (fg_ft (pc := 4) tb_Reader_rowsOf 2 rfl) ic_1 ?_
  refine fg_icmp_neN (tgt := 13) (fg_ft (pc := 5) tb_Reader_rowsOf 3 rfl) (by decide) (by decide) (by decide) (fun c5 => (absurd rfl c5)) (fun c5 => ?_)
  refine fg_aloadn (fg_ft (pc := 8) tb_Reader_rowsOf 4 rfl) rfl ?_
  refine fg_getR (fg_ft (pc := 9) tb_Reader_rowsOf 5 rfl) ff_Reader_23 ly_255 rfl (fg_lt ly_255 (by decide)) (rh_255_1 R) ?_
  exact fg_aret (fg_ft (pc := 12) tb_Reader_rowsOf 6 rfl) rfl (by first | exact Or.inl ⟨_, rfl⟩ | exact Or.inr ⟨_, rfl⟩) rfl (hQ)
theorem ev_Reader_canBe {E : fg_E} {d : Nat} {μ : Nat → Nat → Int32} {R : fg_T4} {Q : Option Value → fg_M → Prop} {sg v n lf fi : Nat} (hsg : sg < 128) (h10 : μ 255 10 = nI v) (hv : v < 2 ^ 31) (hn : μ 259 2 = nI n) (hn31 : n < 2 ^ 31) (h12 : μ 255 12 = nI lf) (hlf : lf < 2 ^ 31) (h13 : μ 255 13 = nI fi) (hfi : fi < 2 ^ 32) (hQ : Q (some (.int (fg_bI (pz_can sg v n lf fi)))) (μ, fg_rho R, 304)) : fg_Ev E yy_Reader_canBe (d + 2) [.ref 255, .int (nI sg)] (μ, fg_rho R, 304) 304 Q := by
  refine fg_intro (by decide +kernel) (Nat.le_of_ble_eq_true rfl) (fg_okAs rfl) (Nat.le_refl _) ?_
  refine fg_iloadn (fg_ft (pc := 0) tb_Reader_canBe 0 rfl) rfl ?_
  by_cases e1_99 : sg = 99
  · refine fg_swN (tgt := 104) (fg_ft (pc := 1) tb_Reader_canBe 1 rfl) e1_99 (by decide) (by decide) (by decide) rfl (by decide) ?_
    refine fg_aloadn (fg_ft (pc := 104) tb_Reader_canBe 2 rfl) rfl ?_
    refine fg_getV (v := (nI v)) (fg_ft (pc := 105) tb_Reader_canBe 3 rfl) ff_Reader_207 ly_255 rfl (fg_lt ly_255 (by decide)) h10 ?_
    refine fg_iconst (fg_ft (pc := 108) tb_Reader_canBe 4 rfl) ic_1 ?_
    refine fg_icmp_ltN (tgt := 125) (fg_ft (pc := 109) tb_Reader_canBe 5 rfl) (by decide) (by omega) (by decide) (fun c109 => ?_) (fun c109 => ?_)
    · refine fg_iconst (fg_ft (pc := 125) tb_Reader_canBe 12 rfl) ic_0 ?_
      exact fg_zret (fg_ft (pc := 126) tb_Reader_canBe 13 rfl) rfl (by decide) rfl (fg_q hQ (by rw [e1_99]; exact fg_bF (fun (hh : (1 ≤ v ∧ v ≤ 10)) => by omega)))
    · refine fg_aloadn (fg_ft (pc := 112) tb_Reader_canBe 6 rfl) rfl ?_
      refine fg_getV (v := (nI v)) (fg_ft (pc := 113) tb_Reader_canBe 7 rfl) ff_Reader_207 ly_255 rfl (fg_lt ly_255 (by decide)) h10 ?_
      refine fg_bipush (fg_ft (pc := 116) tb_Reader_canBe 8 rfl) ib_10 ?_
      refine fg_icmp_gtN (tgt := 125) (fg_ft (pc := 118) tb_Reader_canBe 9 rfl) (by decide) (by omega) (by decide) (fun c118 => ?_) (fun c118 => ?_)
      · refine fg_iconst (fg_ft (pc := 125) tb_Reader_canBe 12 rfl) ic_0 ?_
        exact fg_zret (fg_ft (pc := 126) tb_Reader_canBe 13 rfl) rfl (by decide) rfl (fg_q hQ (by rw [e1_99]; exact fg_bF (fun (hh : (1 ≤ v ∧ v ≤ 10)) => by omega)))
      · refine fg_iconst (fg_ft (pc := 121) tb_Reader_canBe 10 rfl) ic_1 ?_
        refine fg_goto (tgt := 126) (fg_ft (pc := 122) tb_Reader_canBe 11 rfl) (by decide) ?_
        exact fg_zret (fg_ft (pc := 126) tb_Reader_canBe 13 rfl) rfl (by decide) rfl (fg_q hQ (by rw [e1_99]; exact fg_bT (show (1 ≤ v ∧ v ≤ 10) from ⟨by omega, by omega⟩)))
  by_cases e1_100 : sg = 100
  · refine fg_swN (tgt := 290) (fg_ft (pc := 1) tb_Reader_canBe 1 rfl) e1_100 (by decide) (by decide) (by decide) rfl (by decide) ?_
    refine fg_iconst (fg_ft (pc := 290) tb_Reader_canBe 96 rfl) ic_1 ?_
    exact fg_zret (fg_ft (pc := 291) tb_Reader_canBe 97 rfl) rfl (by decide) rfl (fg_q hQ (by first | (unfold pz_can; rw [if_neg e1_99, if_neg e1_102, if_neg e1_117, if_neg e1_112, if_neg e1_111, if_neg e1_104, if_neg e1_119, if_neg e1_120]; exact fg_bT trivial) | (rw [e1_100]; exact fg_bT trivial) | (rw [e1_101]; exact fg_bT trivial) | (rw [e1_103]; exact fg_bT trivial) | (rw [e1_105]; exact fg_bT trivial) | (rw [e1_106]; exact fg_bT trivial) | (rw [e1_107]; exact fg_bT trivial) | (rw [e1_108]; exact fg_bT trivial) | (rw [e1_109]; exact fg_bT trivial) | (rw [e1_110]; exact fg_bT trivial) | (rw [e1_113]; exact fg_bT trivial) | (rw [e1_114]; exact fg_bT trivial) | (rw [e1_115]; exact fg_bT trivial) | (rw [e1_116]; exact fg_bT trivial) | (rw [e1_118]; exact fg_bT trivial)))
  by_cases e1_101 : sg = 101
  · refine fg_swN (tgt := 290) (fg_ft (pc := 1) tb_Reader_canBe 1 rfl) e1_101 (by decide) (by decide) (by decide) rfl (by decide) ?_
    refine fg_iconst (fg_ft (pc := 290) tb_Reader_canBe 96 rfl) ic_1 ?_
    exact fg_zret (fg_ft (pc := 291) tb_Reader_canBe 97 rfl) rfl (by decide) rfl (fg_q hQ (by first | (unfold pz_can; rw [if_neg e1_99, if_neg e1_102, if_neg e1_117, if_neg e1_112, if_neg e1_111, if_neg e1_104, if_neg e1_119, if_neg e1_120]; exact fg_bT trivial) | (rw [e1_100]; exact fg_bT trivial) | (rw [e1_101]; exact fg_bT trivial) | (rw [e1_103]; exact fg_bT trivial) | (rw [e1_105]; exact fg_bT trivial) | (rw [e1_106]; exact fg_bT trivial) | (rw [e1_107]; exact fg_bT trivial) | (rw [e1_108]; exact fg_bT trivial) | (rw [e1_109]; exact fg_bT trivial) | (rw [e1_110]; exact fg_bT trivial) | (rw [e1_113]; exact fg_bT trivial) | (rw [e1_114]; exact fg_bT trivial) | (rw [e1_115]; exact fg_bT trivial) | (rw [e1_116]; exact fg_bT trivial) | (rw [e1_118]; exact fg_bT trivial)))
  by_cases e1_102 : sg = 102
  · refine fg_swN (tgt := 127) (fg_ft (pc := 1) tb_Reader_canBe 1 rfl) e1_102 (by decide) (by decide) (by decide) rfl (by decide) ?_
    refine fg_aloadn (fg_ft (pc := 127) tb_Reader_canBe 14 rfl) rfl ?_
    refine fg_getV (v := (nI v)) (fg_ft (pc := 128) tb_Reader_canBe 15 rfl) ff_Reader_207 ly_255 rfl (fg_lt ly_255 (by decide)) h10 ?_
    refine fg_bipush (fg_ft (pc := 131) tb_Reader_canBe 16 rfl) ib_10 ?_
    refine fg_icmp_geN (tgt := 140) (fg_ft (pc := 133) tb_Reader_canBe 17 rfl) (by decide) (by omega) (by decide) (fun c133 => ?_) (fun c133 => ?_)
    · refine fg_iconst (fg_ft (pc := 140) tb_Reader_canBe 20 rfl) ic_0 ?_
      exact fg_zret (fg_ft (pc := 141) tb_Reader_canBe 21 rfl) rfl (by decide) rfl (fg_q hQ (by rw [e1_102]; exact fg_bF (fun (hh : v < 10) => by omega)))
    · refine fg_iconst (fg_ft (pc := 136) tb_Reader_canBe 18 rfl) ic_1 ?_
      refine fg_goto (tgt := 141) (fg_ft (pc := 137) tb_Reader_canBe 19 rfl) (by decide) ?_
      exact fg_zret (fg_ft (pc := 141) tb_Reader_canBe 21 rfl) rfl (by decide) rfl (fg_q hQ (by rw [e1_102]; exact fg_bT (show v < 10 from (by omega))))
  by_cases e1_103 : sg = 103
  · refine fg_swN (tgt := 290) (fg_ft (pc := 1) tb_Reader_canBe 1 rfl) e1_103 (by decide) (by decide) (by decide) rfl (by decide) ?_
    refine fg_iconst (fg_ft (pc := 290) tb_Reader_canBe 96 rfl) ic_1 ?_
    exact fg_zret (fg_ft (pc := 291) tb_Reader_canBe 97 rfl) rfl (by decide) rfl (fg_q hQ (by first | (unfold pz_can; rw [if_neg e1_99, if_neg e1_102, if_neg e1_117, if_neg e1_112, if_neg e1_111, if_neg e1_104, if_neg e1_119, if_neg e1_120]; exact fg_bT trivial) | (rw [e1_100]; exact fg_bT trivial) | (rw [e1_101]; exact fg_bT trivial) | (rw [e1_103]; exact fg_bT trivial) | (rw [e1_105]; exact fg_bT trivial) | (rw [e1_106]; exact fg_bT trivial) | (rw [e1_107]; exact fg_bT trivial) | (rw [e1_108]; exact fg_bT trivial) | (rw [e1_109]; exact fg_bT trivial) | (rw [e1_110]; exact fg_bT trivial) | (rw [e1_113]; exact fg_bT trivial) | (rw [e1_114]; exact fg_bT trivial) | (rw [e1_115]; exact fg_bT trivial) | (rw [e1_116]; exact fg_bT trivial) | (rw [e1_118]; exact fg_bT trivial)))
  by_cases e1_104 : sg = 104
  · refine fg_swN (tgt := 228) (fg_ft (pc := 1) tb_Reader_canBe 1 rfl) e1_104 (by decide) (by decide) (by decide) rfl (by decide) ?_
    refine fg_aloadn (fg_ft (pc := 228) tb_Reader_canBe 63 rfl) rfl ?_
    refine fg_getV (v := (nI v)) (fg_ft (pc := 229) tb_Reader_canBe 64 rfl) ff_Reader_207 ly_255 rfl (fg_lt ly_255 (by decide)) h10 ?_
    refine fg_iconst (fg_ft (pc := 232) tb_Reader_canBe 65 rfl) ic_1 ?_
    refine fg_icmp_ltN (tgt := 249) (fg_ft (pc := 233) tb_Reader_canBe 66 rfl) (by decide) (by omega) (by decide) (fun c233 => ?_) (fun c233 => ?_)
    · refine fg_iconst (fg_ft (pc := 249) tb_Reader_canBe 73 rfl) ic_0 ?_
      exact fg_zret (fg_ft (pc := 250) tb_Reader_canBe 74 rfl) rfl (by decide) rfl (fg_q hQ (by rw [e1_104]; exact fg_bF (fun (hh : (1 ≤ v ∧ v ≤ 9)) => by omega)))
    · refine fg_aloadn (fg_ft (pc := 236) tb_Reader_canBe 67 rfl) rfl ?_
      refine fg_getV (v := (nI v)) (fg_ft (pc := 237) tb_Reader_canBe 68 rfl) ff_Reader_207 ly_255 rfl (fg_lt ly_255 (by decide)) h10 ?_
      refine fg_bipush (fg_ft (pc := 240) tb_Reader_canBe 69 rfl) ib_9 ?_
      refine fg_icmp_gtN (tgt := 249) (fg_ft (pc := 242) tb_Reader_canBe 70 rfl) (by decide) (by omega) (by decide) (fun c242 => ?_) (fun c242 => ?_)
      · refine fg_iconst (fg_ft (pc := 249) tb_Reader_canBe 73 rfl) ic_0 ?_
        exact fg_zret (fg_ft (pc := 250) tb_Reader_canBe 74 rfl) rfl (by decide) rfl (fg_q hQ (by rw [e1_104]; exact fg_bF (fun (hh : (1 ≤ v ∧ v ≤ 9)) => by omega)))
      · refine fg_iconst (fg_ft (pc := 245) tb_Reader_canBe 71 rfl) ic_1 ?_
        refine fg_goto (tgt := 250) (fg_ft (pc := 246) tb_Reader_canBe 72 rfl) (by decide) ?_
        exact fg_zret (fg_ft (pc := 250) tb_Reader_canBe 74 rfl) rfl (by decide) rfl (fg_q hQ (by rw [e1_104]; exact fg_bT (show (1 ≤ v ∧ v ≤ 9) from ⟨by omega, by omega⟩)))
  by_cases e1_105 : sg = 105
  · refine fg_swN (tgt := 290) (fg_ft (pc := 1) tb_Reader_canBe 1 rfl) e1_105 (by decide) (by decide) (by decide) rfl (by decide) ?_
    refine fg_iconst (fg_ft (pc := 290) tb_Reader_canBe 96 rfl) ic_1 ?_
    exact fg_zret (fg_ft (pc := 291) tb_Reader_canBe 97 rfl) rfl (by decide) rfl (fg_q hQ (by first | (unfold pz_can; rw [if_neg e1_99, if_neg e1_102, if_neg e1_117, if_neg e1_112, if_neg e1_111, if_neg e1_104, if_neg e1_119, if_neg e1_120]; exact fg_bT trivial) | (rw [e1_100]; exact fg_bT trivial) | (rw [e1_101]; exact fg_bT trivial) | (rw [e1_103]; exact fg_bT trivial) | (rw [e1_105]; exact fg_bT trivial) | (rw [e1_106]; exact fg_bT trivial) | (rw [e1_107]; exact fg_bT trivial) | (rw [e1_108]; exact fg_bT trivial) | (rw [e1_109]; exact fg_bT trivial) | (rw [e1_110]; exact fg_bT trivial) | (rw [e1_113]; exact fg_bT trivial) | (rw [e1_114]; exact fg_bT trivial) | (rw [e1_115]; exact fg_bT trivial) | (rw [e1_116]; exact fg_bT trivial) | (rw [e1_118]; exact fg_bT trivial)))
  by_cases e1_106 : sg = 106
  · refine fg_swN (tgt := 290) (fg_ft (pc := 1) tb_Reader_canBe 1 rfl) e1_106 (by decide) (by decide) (by decide) rfl (by decide) ?_
    refine fg_iconst (fg_ft (pc := 290) tb_Reader_canBe 96 rfl) ic_1 ?_
    exact fg_zret (fg_ft (pc := 291) tb_Reader_canBe 97 rfl) rfl (by decide) rfl (fg_q hQ (by first | (unfold pz_can; rw [if_neg e1_99, if_neg e1_102, if_neg e1_117, if_neg e1_112, if_neg e1_111, if_neg e1_104, if_neg e1_119, if_neg e1_120]; exact fg_bT trivial) | (rw [e1_100]; exact fg_bT trivial) | (rw [e1_101]; exact fg_bT trivial) | (rw [e1_103]; exact fg_bT trivial) | (rw [e1_105]; exact fg_bT trivial) | (rw [e1_106]; exact fg_bT trivial) | (rw [e1_107]; exact fg_bT trivial) | (rw [e1_108]; exact fg_bT trivial) | (rw [e1_109]; exact fg_bT trivial) | (rw [e1_110]; exact fg_bT trivial) | (rw [e1_113]; exact fg_bT trivial) | (rw [e1_114]; exact fg_bT trivial) | (rw [e1_115]; exact fg_bT trivial) | (rw [e1_116]; exact fg_bT trivial) | (rw [e1_118]; exact fg_bT trivial)))
  by_cases e1_107 : sg = 107
  · refine fg_swN (tgt := 290) (fg_ft (pc := 1) tb_Reader_canBe 1 rfl) e1_107 (by decide) (by decide) (by decide) rfl (by decide) ?_
    refine fg_iconst (fg_ft (pc := 290) tb_Reader_canBe 96 rfl) ic_1 ?_
    exact fg_zret (fg_ft (pc := 291) tb_Reader_canBe 97 rfl) rfl (by decide) rfl (fg_q hQ (by first | (unfold pz_can; rw [if_neg e1_99, if_neg e1_102, if_neg e1_117, if_neg e1_112, if_neg e1_111, if_neg e1_104, if_neg e1_119, if_neg e1_120]; exact fg_bT trivial) | (rw [e1_100]; exact fg_bT trivial) | (rw [e1_101]; exact fg_bT trivial) | (rw [e1_103]; exact fg_bT trivial) | (rw [e1_105]; exact fg_bT trivial) | (rw [e1_106]; exact fg_bT trivial) | (rw [e1_107]; exact fg_bT trivial) | (rw [e1_108]; exact fg_bT trivial) | (rw [e1_109]; exact fg_bT trivial) | (rw [e1_110]; exact fg_bT trivial) | (rw [e1_113]; exact fg_bT trivial) | (rw [e1_114]; exact fg_bT trivial) | (rw [e1_115]; exact fg_bT trivial) | (rw [e1_116]; exact fg_bT trivial) | (rw [e1_118]; exact fg_bT trivial)))
  by_cases e1_108 : sg = 108
  · refine fg_swN (tgt := 290) (fg_ft (pc := 1) tb_Reader_canBe 1 rfl) e1_108 (by decide) (by decide) (by decide) rfl (by decide) ?_
    refine fg_iconst (fg_ft (pc := 290) tb_Reader_canBe 96 rfl) ic_1 ?_
    exact fg_zret (fg_ft (pc := 291) tb_Reader_canBe 97 rfl) rfl (by decide) rfl (fg_q hQ (by first | (unfold pz_can; rw [if_neg e1_99, if_neg e1_102, if_neg e1_117, if_neg e1_112, if_neg e1_111, if_neg e1_104, if_neg e1_119, if_neg e1_120]; exact fg_bT trivial) | (rw [e1_100]; exact fg_bT trivial) | (rw [e1_101]; exact fg_bT trivial) | (rw [e1_103]; exact fg_bT trivial) | (rw [e1_105]; exact fg_bT trivial) | (rw [e1_106]; exact fg_bT trivial) | (rw [e1_107]; exact fg_bT trivial) | (rw [e1_108]; exact fg_bT trivial) | (rw [e1_109]; exact fg_bT trivial) | (rw [e1_110]; exact fg_bT trivial) | (rw [e1_113]; exact fg_bT trivial) | (rw [e1_114]; exact fg_bT trivial) | (rw [e1_115]; exact fg_bT trivial) | (rw [e1_116]; exact fg_bT trivial) | (rw [e1_118]; exact fg_bT trivial)))
  by_cases e1_109 : sg = 109
  · refine fg_swN (tgt := 290) (fg_ft (pc := 1) tb_Reader_canBe 1 rfl) e1_109 (by decide) (by decide) (by decide) rfl (by decide) ?_
    refine fg_iconst (fg_ft (pc := 290) tb_Reader_canBe 96 rfl) ic_1 ?_
    exact fg_zret (fg_ft (pc := 291) tb_Reader_canBe 97 rfl) rfl (by decide) rfl (fg_q hQ (by first | (unfold pz_can; rw [if_neg e1_99, if_neg e1_102, if_neg e1_117, if_neg e1_112, if_neg e1_111, if_neg e1_104, if_neg e1_119, if_neg e1_120]; exact fg_bT trivial) | (rw [e1_100]; exact fg_bT trivial) | (rw [e1_101]; exact fg_bT trivial) | (rw [e1_103]; exact fg_bT trivial) | (rw [e1_105]; exact fg_bT trivial) | (rw [e1_106]; exact fg_bT trivial) | (rw [e1_107]; exact fg_bT trivial) | (rw [e1_108]; exact fg_bT trivial) | (rw [e1_109]; exact fg_bT trivial) | (rw [e1_110]; exact fg_bT trivial) | (rw [e1_113]; exact fg_bT trivial) | (rw [e1_114]; exact fg_bT trivial) | (rw [e1_115]; exact fg_bT trivial) | (rw [e1_116]; exact fg_bT trivial) | (rw [e1_118]; exact fg_bT trivial)))
  by_cases e1_110 : sg = 110
  · refine fg_swN (tgt := 290) (fg_ft (pc := 1) tb_Reader_canBe 1 rfl) e1_110 (by decide) (by decide) (by decide) rfl (by decide) ?_
    refine fg_iconst (fg_ft (pc := 290) tb_Reader_canBe 96 rfl) ic_1 ?_
    exact fg_zret (fg_ft (pc := 291) tb_Reader_canBe 97 rfl) rfl (by decide) rfl (fg_q hQ (by first | (unfold pz_can; rw [if_neg e1_99, if_neg e1_102, if_neg e1_117, if_neg e1_112, if_neg e1_111, if_neg e1_104, if_neg e1_119, if_neg e1_120]; exact fg_bT trivial) | (rw [e1_100]; exact fg_bT trivial) | (rw [e1_101]; exact fg_bT trivial) | (rw [e1_103]; exact fg_bT trivial) | (rw [e1_105]; exact fg_bT trivial) | (rw [e1_106]; exact fg_bT trivial) | (rw [e1_107]; exact fg_bT trivial) | (rw [e1_108]; exact fg_bT trivial) | (rw [e1_109]; exact fg_bT trivial) | (rw [e1_110]; exact fg_bT trivial) | (rw [e1_113]; exact fg_bT trivial) | (rw [e1_114]; exact fg_bT trivial) | (rw [e1_115]; exact fg_bT trivial) | (rw [e1_116]; exact fg_bT trivial) | (rw [e1_118]; exact fg_bT trivial)))
  by_cases e1_111 : sg = 111
  · refine fg_swN (tgt := 194) (fg_ft (pc := 1) tb_Reader_canBe 1 rfl) e1_111 (by decide) (by decide) (by decide) rfl (by decide) ?_
    refine fg_aloadn (fg_ft (pc := 194) tb_Reader_canBe 47 rfl) rfl ?_
    refine fg_getV (v := (nI v)) (fg_ft (pc := 195) tb_Reader_canBe 48 rfl) ff_Reader_207 ly_255 rfl (fg_lt ly_255 (by decide)) h10 ?_
    refine fg_aloadn (fg_ft (pc := 198) tb_Reader_canBe 49 rfl) rfl ?_
    refine fg_getR (fg_ft (pc := 199) tb_Reader_canBe 50 rfl) ff_Reader_12 ly_255 rfl (fg_lt ly_255 (by decide)) (rh_255_0 R) ?_
    refine fg_getR (fg_ft (pc := 202) tb_Reader_canBe 51 rfl) ff_Reader_149 ly_256 rfl (fg_lt ly_256 (by decide)) (rh_256_3 R) ?_
    refine fg_getV (v := (nI n)) (fg_ft (pc := 205) tb_Reader_canBe 52 rfl) ff_Reader_66 ly_259 rfl (fg_lt ly_259 (by decide)) hn ?_
    refine fg_icmp_geN (tgt := 226) (fg_ft (pc := 208) tb_Reader_canBe 53 rfl) (by decide) (by omega) (by omega) (fun c208 => ?_) (fun c208 => ?_)
    · refine fg_iconst (fg_ft (pc := 226) tb_Reader_canBe 61 rfl) ic_0 ?_
      exact fg_zret (fg_ft (pc := 227) tb_Reader_canBe 62 rfl) rfl (by decide) rfl (fg_q hQ (by rw [e1_111]; exact fg_bF (fun (hh : (v < n ∧ v ≠ fi)) => by first | omega | exact hh.2 c219)))
    · refine fg_aloadn (fg_ft (pc := 211) tb_Reader_canBe 54 rfl) rfl ?_
      refine fg_getV (v := (nI v)) (fg_ft (pc := 212) tb_Reader_canBe 55 rfl) ff_Reader_207 ly_255 rfl (fg_lt ly_255 (by decide)) h10 ?_
      refine fg_aloadn (fg_ft (pc := 215) tb_Reader_canBe 56 rfl) rfl ?_
      refine fg_getV (v := (nI fi)) (fg_ft (pc := 216) tb_Reader_canBe 57 rfl) ff_Reader_186 ly_255 rfl (fg_lt ly_255 (by decide)) h13 ?_
      refine fg_icmp_eqW (tgt := 226) (fg_ft (pc := 219) tb_Reader_canBe 58 rfl) (by decide) (Nat.lt_trans (show _ < 2 ^ 31 from by omega) (by decide)) (by omega) (fun c219 => ?_) (fun c219 => ?_)
      · refine fg_iconst (fg_ft (pc := 226) tb_Reader_canBe 61 rfl) ic_0 ?_
        exact fg_zret (fg_ft (pc := 227) tb_Reader_canBe 62 rfl) rfl (by decide) rfl (fg_q hQ (by rw [e1_111]; exact fg_bF (fun (hh : (v < n ∧ v ≠ fi)) => by first | omega | exact hh.2 c219)))
      · refine fg_iconst (fg_ft (pc := 222) tb_Reader_canBe 59 rfl) ic_1 ?_
        refine fg_goto (tgt := 227) (fg_ft (pc := 223) tb_Reader_canBe 60 rfl) (by decide) ?_
        exact fg_zret (fg_ft (pc := 227) tb_Reader_canBe 62 rfl) rfl (by decide) rfl (fg_q hQ (by rw [e1_111]; exact fg_bT (show (v < n ∧ v ≠ fi) from ⟨by omega, c219⟩)))
  by_cases e1_112 : sg = 112
  · refine fg_swN (tgt := 171) (fg_ft (pc := 1) tb_Reader_canBe 1 rfl) e1_112 (by decide) (by decide) (by decide) rfl (by decide) ?_
    refine fg_aloadn (fg_ft (pc := 171) tb_Reader_canBe 36 rfl) rfl ?_
    refine fg_getV (v := (nI v)) (fg_ft (pc := 172) tb_Reader_canBe 37 rfl) ff_Reader_207 ly_255 rfl (fg_lt ly_255 (by decide)) h10 ?_
    refine fg_aloadn (fg_ft (pc := 175) tb_Reader_canBe 38 rfl) rfl ?_
    refine fg_getR (fg_ft (pc := 176) tb_Reader_canBe 39 rfl) ff_Reader_12 ly_255 rfl (fg_lt ly_255 (by decide)) (rh_255_0 R) ?_
    refine fg_getR (fg_ft (pc := 179) tb_Reader_canBe 40 rfl) ff_Reader_149 ly_256 rfl (fg_lt ly_256 (by decide)) (rh_256_3 R) ?_
    refine fg_getV (v := (nI n)) (fg_ft (pc := 182) tb_Reader_canBe 41 rfl) ff_Reader_66 ly_259 rfl (fg_lt ly_259 (by decide)) hn ?_
    refine fg_icmp_geN (tgt := 192) (fg_ft (pc := 185) tb_Reader_canBe 42 rfl) (by decide) (by omega) (by omega) (fun c185 => ?_) (fun c185 => ?_)
    · refine fg_iconst (fg_ft (pc := 192) tb_Reader_canBe 45 rfl) ic_0 ?_
      exact fg_zret (fg_ft (pc := 193) tb_Reader_canBe 46 rfl) rfl (by decide) rfl (fg_q hQ (by rw [e1_112]; exact fg_bF (fun (hh : v < n) => by omega)))
    · refine fg_iconst (fg_ft (pc := 188) tb_Reader_canBe 43 rfl) ic_1 ?_
      refine fg_goto (tgt := 193) (fg_ft (pc := 189) tb_Reader_canBe 44 rfl) (by decide) ?_
      exact fg_zret (fg_ft (pc := 193) tb_Reader_canBe 46 rfl) rfl (by decide) rfl (fg_q hQ (by rw [e1_112]; exact fg_bT (show v < n from (by omega))))
  by_cases e1_113 : sg = 113
  · refine fg_swN (tgt := 290) (fg_ft (pc := 1) tb_Reader_canBe 1 rfl) e1_113 (by decide) (by decide) (by decide) rfl (by decide) ?_
    refine fg_iconst (fg_ft (pc := 290) tb_Reader_canBe 96 rfl) ic_1 ?_
    exact fg_zret (fg_ft (pc := 291) tb_Reader_canBe 97 rfl) rfl (by decide) rfl (fg_q hQ (by first | (unfold pz_can; rw [if_neg e1_99, if_neg e1_102, if_neg e1_117, if_neg e1_112, if_neg e1_111, if_neg e1_104, if_neg e1_119, if_neg e1_120]; exact fg_bT trivial) | (rw [e1_100]; exact fg_bT trivial) | (rw [e1_101]; exact fg_bT trivial) | (rw [e1_103]; exact fg_bT trivial) | (rw [e1_105]; exact fg_bT trivial) | (rw [e1_106]; exact fg_bT trivial) | (rw [e1_107]; exact fg_bT trivial) | (rw [e1_108]; exact fg_bT trivial) | (rw [e1_109]; exact fg_bT trivial) | (rw [e1_110]; exact fg_bT trivial) | (rw [e1_113]; exact fg_bT trivial) | (rw [e1_114]; exact fg_bT trivial) | (rw [e1_115]; exact fg_bT trivial) | (rw [e1_116]; exact fg_bT trivial) | (rw [e1_118]; exact fg_bT trivial)))
  by_cases e1_114 : sg = 114
  · refine fg_swN (tgt := 290) (fg_ft (pc := 1) tb_Reader_canBe 1 rfl) e1_114 (by decide) (by decide) (by decide) rfl (by decide) ?_
    refine fg_iconst (fg_ft (pc := 290) tb_Reader_canBe 96 rfl) ic_1 ?_
    exact fg_zret (fg_ft (pc := 291) tb_Reader_canBe 97 rfl) rfl (by decide) rfl (fg_q hQ (by first | (unfold pz_can; rw [if_neg e1_99, if_neg e1_102, if_neg e1_117, if_neg e1_112, if_neg e1_111, if_neg e1_104, if_neg e1_119, if_neg e1_120]; exact fg_bT trivial) | (rw [e1_100]; exact fg_bT trivial) | (rw [e1_101]; exact fg_bT trivial) | (rw [e1_103]; exact fg_bT trivial) | (rw [e1_105]; exact fg_bT trivial) | (rw [e1_106]; exact fg_bT trivial) | (rw [e1_107]; exact fg_bT trivial) | (rw [e1_108]; exact fg_bT trivial) | (rw [e1_109]; exact fg_bT trivial) | (rw [e1_110]; exact fg_bT trivial) | (rw [e1_113]; exact fg_bT trivial) | (rw [e1_114]; exact fg_bT trivial) | (rw [e1_115]; exact fg_bT trivial) | (rw [e1_116]; exact fg_bT trivial) | (rw [e1_118]; exact fg_bT trivial)))
  by_cases e1_115 : sg = 115
  · refine fg_swN (tgt := 290) (fg_ft (pc := 1) tb_Reader_canBe 1 rfl) e1_115 (by decide) (by decide) (by decide) rfl (by decide) ?_
    refine fg_iconst (fg_ft (pc := 290) tb_Reader_canBe 96 rfl) ic_1 ?_
    exact fg_zret (fg_ft (pc := 291) tb_Reader_canBe 97 rfl) rfl (by decide) rfl (fg_q hQ (by first | (unfold pz_can; rw [if_neg e1_99, if_neg e1_102, if_neg e1_117, if_neg e1_112, if_neg e1_111, if_neg e1_104, if_neg e1_119, if_neg e1_120]; exact fg_bT trivial) | (rw [e1_100]; exact fg_bT trivial) | (rw [e1_101]; exact fg_bT trivial) | (rw [e1_103]; exact fg_bT trivial) | (rw [e1_105]; exact fg_bT trivial) | (rw [e1_106]; exact fg_bT trivial) | (rw [e1_107]; exact fg_bT trivial) | (rw [e1_108]; exact fg_bT trivial) | (rw [e1_109]; exact fg_bT trivial) | (rw [e1_110]; exact fg_bT trivial) | (rw [e1_113]; exact fg_bT trivial) | (rw [e1_114]; exact fg_bT trivial) | (rw [e1_115]; exact fg_bT trivial) | (rw [e1_116]; exact fg_bT trivial) | (rw [e1_118]; exact fg_bT trivial)))
  by_cases e1_116 : sg = 116
  · refine fg_swN (tgt := 290) (fg_ft (pc := 1) tb_Reader_canBe 1 rfl) e1_116 (by decide) (by decide) (by decide) rfl (by decide) ?_
    refine fg_iconst (fg_ft (pc := 290) tb_Reader_canBe 96 rfl) ic_1 ?_
    exact fg_zret (fg_ft (pc := 291) tb_Reader_canBe 97 rfl) rfl (by decide) rfl (fg_q hQ (by first | (unfold pz_can; rw [if_neg e1_99, if_neg e1_102, if_neg e1_117, if_neg e1_112, if_neg e1_111, if_neg e1_104, if_neg e1_119, if_neg e1_120]; exact fg_bT trivial) | (rw [e1_100]; exact fg_bT trivial) | (rw [e1_101]; exact fg_bT trivial) | (rw [e1_103]; exact fg_bT trivial) | (rw [e1_105]; exact fg_bT trivial) | (rw [e1_106]; exact fg_bT trivial) | (rw [e1_107]; exact fg_bT trivial) | (rw [e1_108]; exact fg_bT trivial) | (rw [e1_109]; exact fg_bT trivial) | (rw [e1_110]; exact fg_bT trivial) | (rw [e1_113]; exact fg_bT trivial) | (rw [e1_114]; exact fg_bT trivial) | (rw [e1_115]; exact fg_bT trivial) | (rw [e1_116]; exact fg_bT trivial) | (rw [e1_118]; exact fg_bT trivial)))
  by_cases e1_117 : sg = 117
  · refine fg_swN (tgt := 142) (fg_ft (pc := 1) tb_Reader_canBe 1 rfl) e1_117 (by decide) (by decide) (by decide) rfl (by decide) ?_
    refine fg_aloadn (fg_ft (pc := 142) tb_Reader_canBe 22 rfl) rfl ?_
    refine fg_getV (v := (nI v)) (fg_ft (pc := 143) tb_Reader_canBe 23 rfl) ff_Reader_207 ly_255 rfl (fg_lt ly_255 (by decide)) h10 ?_
    refine fg_bipush (fg_ft (pc := 146) tb_Reader_canBe 24 rfl) ib_10 ?_
    refine fg_icmp_geN (tgt := 169) (fg_ft (pc := 148) tb_Reader_canBe 25 rfl) (by decide) (by omega) (by decide) (fun c148 => ?_) (fun c148 => ?_)
    · refine fg_iconst (fg_ft (pc := 169) tb_Reader_canBe 34 rfl) ic_0 ?_
      exact fg_zret (fg_ft (pc := 170) tb_Reader_canBe 35 rfl) rfl (by decide) rfl (fg_q hQ (by rw [e1_117]; exact fg_bF (fun (hh : (v < 10 ∧ ¬ lf.testBit v = true)) => by first | omega | exact hh.2 c162)))
    · refine fg_aloadn (fg_ft (pc := 151) tb_Reader_canBe 26 rfl) rfl ?_
      refine fg_getV (v := (nI lf)) (fg_ft (pc := 152) tb_Reader_canBe 27 rfl) ff_Reader_183 ly_255 rfl (fg_lt ly_255 (by decide)) h12 ?_
      refine fg_aloadn (fg_ft (pc := 155) tb_Reader_canBe 28 rfl) rfl ?_
      refine fg_getV (v := (nI v)) (fg_ft (pc := 156) tb_Reader_canBe 29 rfl) ff_Reader_207 ly_255 rfl (fg_lt ly_255 (by decide)) h10 ?_
      refine fg_callSN (fg_ft (pc := 159) tb_Reader_canBe 30 rfl) cf_Reader_210 (as := [.int (nI lf), .int (nI v)]) (st := []) rfl rfl (Nat.le_of_ble_eq_true rfl) (Nat.le_refl _) (Nat.le_refl _) (ev_Fb_isIn (s := lf) (k := v) (by omega) (by omega) ?_)
      refine fg_ifB_ne (tgt := 169) (fg_ft (pc := 162) tb_Reader_canBe 31 rfl) (by decide) (fun c162 => ?_) (fun c162 => ?_)
      · refine fg_iconst (fg_ft (pc := 169) tb_Reader_canBe 34 rfl) ic_0 ?_
        exact fg_zret (fg_ft (pc := 170) tb_Reader_canBe 35 rfl) rfl (by decide) rfl (fg_q hQ (by rw [e1_117]; exact fg_bF (fun (hh : (v < 10 ∧ ¬ lf.testBit v = true)) => by first | omega | exact hh.2 c162)))
      · refine fg_iconst (fg_ft (pc := 165) tb_Reader_canBe 32 rfl) ic_1 ?_
        refine fg_goto (tgt := 170) (fg_ft (pc := 166) tb_Reader_canBe 33 rfl) (by decide) ?_
        exact fg_zret (fg_ft (pc := 170) tb_Reader_canBe 35 rfl) rfl (by decide) rfl (fg_q hQ (by rw [e1_117]; exact fg_bT (show (v < 10 ∧ ¬ lf.testBit v = true) from ⟨by omega, c162⟩)))
  by_cases e1_118 : sg = 118
  · refine fg_swN (tgt := 290) (fg_ft (pc := 1) tb_Reader_canBe 1 rfl) e1_118 (by decide) (by decide) (by decide) rfl (by decide) ?_
    refine fg_iconst (fg_ft (pc := 290) tb_Reader_canBe 96 rfl) ic_1 ?_
    exact fg_zret (fg_ft (pc := 291) tb_Reader_canBe 97 rfl) rfl (by decide) rfl (fg_q hQ (by first | (unfold pz_can; rw [if_neg e1_99, if_neg e1_102, if_neg e1_117, if_neg e1_112, if_neg e1_111, if_neg e1_104, if_neg e1_119, if_neg e1_120]; exact fg_bT trivial) | (rw [e1_100]; exact fg_bT trivial) | (rw [e1_101]; exact fg_bT trivial) | (rw [e1_103]; exact fg_bT trivial) | (rw [e1_105]; exact fg_bT trivial) | (rw [e1_106]; exact fg_bT trivial) | (rw [e1_107]; exact fg_bT trivial) | (rw [e1_108]; exact fg_bT trivial) | (rw [e1_109]; exact fg_bT trivial) | (rw [e1_110]; exact fg_bT trivial) | (rw [e1_113]; exact fg_bT trivial) | (rw [e1_114]; exact fg_bT trivial) | (rw [e1_115]; exact fg_bT trivial) | (rw [e1_116]; exact fg_bT trivial) | (rw [e1_118]; exact fg_bT trivial)))
  by_cases e1_119 : sg = 119
  · refine fg_swN (tgt := 251) (fg_ft (pc := 1) tb_Reader_canBe 1 rfl) e1_119 (by decide) (by decide) (by decide) rfl (by decide) ?_
    refine fg_aloadn (fg_ft (pc := 251) tb_Reader_canBe 75 rfl) rfl ?_
    refine fg_getV (v := (nI v)) (fg_ft (pc := 252) tb_Reader_canBe 76 rfl) ff_Reader_207 ly_255 rfl (fg_lt ly_255 (by decide)) h10 ?_
    refine fg_iconst (fg_ft (pc := 255) tb_Reader_canBe 77 rfl) ic_5 ?_
    refine fg_icmp_geN (tgt := 263) (fg_ft (pc := 256) tb_Reader_canBe 78 rfl) (by decide) (by omega) (by decide) (fun c256 => ?_) (fun c256 => ?_)
    · refine fg_iconst (fg_ft (pc := 263) tb_Reader_canBe 81 rfl) ic_0 ?_
      exact fg_zret (fg_ft (pc := 264) tb_Reader_canBe 82 rfl) rfl (by decide) rfl (fg_q hQ (by rw [e1_119]; exact fg_bF (fun (hh : v < 5) => by omega)))
    · refine fg_iconst (fg_ft (pc := 259) tb_Reader_canBe 79 rfl) ic_1 ?_
      refine fg_goto (tgt := 264) (fg_ft (pc := 260) tb_Reader_canBe 80 rfl) (by decide) ?_
      exact fg_zret (fg_ft (pc := 264) tb_Reader_canBe 82 rfl) rfl (by decide) rfl (fg_q hQ (by rw [e1_119]; exact fg_bT (show v < 5 from (by omega))))
  by_cases e1_120 : sg = 120
  · refine fg_swN (tgt := 265) (fg_ft (pc := 1) tb_Reader_canBe 1 rfl) e1_120 (by decide) (by decide) (by decide) rfl (by decide) ?_
    refine fg_aloadn (fg_ft (pc := 265) tb_Reader_canBe 83 rfl) rfl ?_
    refine fg_getV (v := (nI v)) (fg_ft (pc := 266) tb_Reader_canBe 84 rfl) ff_Reader_207 ly_255 rfl (fg_lt ly_255 (by decide)) h10 ?_
    refine fg_iconst (fg_ft (pc := 269) tb_Reader_canBe 85 rfl) ic_5 ?_
    refine fg_icmp_geN (tgt := 288) (fg_ft (pc := 270) tb_Reader_canBe 86 rfl) (by decide) (by omega) (by decide) (fun c270 => ?_) (fun c270 => ?_)
    · refine fg_iconst (fg_ft (pc := 288) tb_Reader_canBe 94 rfl) ic_0 ?_
      exact fg_zret (fg_ft (pc := 289) tb_Reader_canBe 95 rfl) rfl (by decide) rfl (fg_q hQ (by rw [e1_120]; exact fg_bF (fun (hh : (v < 5 ∧ v ≠ fi)) => by first | omega | exact hh.2 c281)))
    · refine fg_aloadn (fg_ft (pc := 273) tb_Reader_canBe 87 rfl) rfl ?_
      refine fg_getV (v := (nI v)) (fg_ft (pc := 274) tb_Reader_canBe 88 rfl) ff_Reader_207 ly_255 rfl (fg_lt ly_255 (by decide)) h10 ?_
      refine fg_aloadn (fg_ft (pc := 277) tb_Reader_canBe 89 rfl) rfl ?_
      refine fg_getV (v := (nI fi)) (fg_ft (pc := 278) tb_Reader_canBe 90 rfl) ff_Reader_186 ly_255 rfl (fg_lt ly_255 (by decide)) h13 ?_
      refine fg_icmp_eqW (tgt := 288) (fg_ft (pc := 281) tb_Reader_canBe 91 rfl) (by decide) (Nat.lt_trans (show _ < 2 ^ 31 from by omega) (by decide)) (by omega) (fun c281 => ?_) (fun c281 => ?_)
      · refine fg_iconst (fg_ft (pc := 288) tb_Reader_canBe 94 rfl) ic_0 ?_
        exact fg_zret (fg_ft (pc := 289) tb_Reader_canBe 95 rfl) rfl (by decide) rfl (fg_q hQ (by rw [e1_120]; exact fg_bF (fun (hh : (v < 5 ∧ v ≠ fi)) => by first | omega | exact hh.2 c281)))
      · refine fg_iconst (fg_ft (pc := 284) tb_Reader_canBe 92 rfl) ic_1 ?_
        refine fg_goto (tgt := 289) (fg_ft (pc := 285) tb_Reader_canBe 93 rfl) (by decide) ?_
        exact fg_zret (fg_ft (pc := 289) tb_Reader_canBe 95 rfl) rfl (by decide) rfl (fg_q hQ (by rw [e1_120]; exact fg_bT (show (v < 5 ∧ v ≠ fi) from ⟨by omega, c281⟩)))
  refine fg_swO (tgt := 290) (fg_ft (pc := 1) tb_Reader_canBe 1 rfl) (Nat.lt_trans (show _ < 2 ^ 31 from by omega) (by decide)) (by decide) (by decide) (fun i h1 h2 he => by omega) (by decide) ?_
  refine fg_iconst (fg_ft (pc := 290) tb_Reader_canBe 96 rfl) ic_1 ?_
  exact fg_zret (fg_ft (pc := 291) tb_Reader_canBe 97 rfl) rfl (by decide) rfl (fg_q hQ (by first | (unfold pz_can; rw [if_neg e1_99, if_neg e1_102, if_neg e1_117, if_neg e1_112, if_neg e1_111, if_neg e1_104, if_neg e1_119, if_neg e1_120]; exact fg_bT trivial) | (rw [e1_100]; exact fg_bT trivial) | (rw [e1_101]; exact fg_bT trivial) | (rw [e1_103]; exact fg_bT trivial) | (rw [e1_105]; exact fg_bT trivial) | (rw [e1_106]; exact fg_bT trivial) | (rw [e1_107]; exact fg_bT trivial) | (rw [e1_108]; exact fg_bT trivial) | (rw [e1_109]; exact fg_bT trivial) | (rw [e1_110]; exact fg_bT trivial) | (rw [e1_113]; exact fg_bT trivial) | (rw [e1_114]; exact fg_bT trivial) | (rw [e1_115]; exact fg_bT trivial) | (rw [e1_116]; exact fg_bT trivial) | (rw [e1_118]; exact fg_bT trivial)))
def pz_anyP (x : Int32) (k : Nat) : Prop := k < 31 ∧ ¬ (x >>> (nI k &&& 31)) &&& nI 1 = 0
theorem ev_Fb_isInB {E : fg_E} {d : Nat} {μ : Nat → Nat → Int32} {R : fg_T4} {Q : Option Value → fg_M → Prop} {x : Int32} {k : Nat} (hk : k < 2 ^ 31) (hQ : Q (some (.int (fg_bI (pz_anyP x k)))) (μ, fg_rho R, 304)) : fg_Ev E yy_Fb_isIn (d + 1) [.int x, .int (nI k)] (μ, fg_rho R, 304) 304 Q := by
  refine fg_intro (by decide +kernel) (Nat.le_of_ble_eq_true rfl) (fg_okAs rfl) (Nat.le_refl _) ?_
  refine fg_iloadn (fg_ft (pc := 0) tb_Fb_isIn 0 rfl) rfl ?_
  refine fg_if_ltN (tgt := 22) (fg_ft (pc := 1) tb_Fb_isIn 1 rfl) (by decide) (hk) ?_
  refine fg_iloadn (fg_ft (pc := 4) tb_Fb_isIn 2 rfl) rfl ?_
  refine fg_bipush (fg_ft (pc := 5) tb_Fb_isIn 3 rfl) ib_31 ?_
  refine fg_icmp_geN (tgt := 22) (fg_ft (pc := 7) tb_Fb_isIn 4 rfl) (by decide) (hk) (by decide) (fun c7 => ?_) (fun c7 => ?_)
  · refine fg_iconst (fg_ft (pc := 22) tb_Fb_isIn 13 rfl) ic_0 ?_
    exact fg_zret (fg_ft (pc := 23) tb_Fb_isIn 14 rfl) rfl (by decide) rfl (fg_q hQ (fg_bF (fun hh => by first | (have := hh.1; omega) | exact hh.2 c15)))
  · refine fg_iloadn (fg_ft (pc := 10) tb_Fb_isIn 5 rfl) rfl ?_
    refine fg_iloadn (fg_ft (pc := 11) tb_Fb_isIn 6 rfl) rfl ?_
    refine fg_ishr (fg_ft (pc := 12) tb_Fb_isIn 7 rfl) ?_
    refine fg_iconst (fg_ft (pc := 13) tb_Fb_isIn 8 rfl) ic_1 ?_
    refine fg_iand (fg_ft (pc := 14) tb_Fb_isIn 9 rfl) ?_
    refine fg_if_eq (tgt := 22) (fg_ft (pc := 15) tb_Fb_isIn 10 rfl) (by decide) (fun c15 => ?_) (fun c15 => ?_)
    · refine fg_iconst (fg_ft (pc := 22) tb_Fb_isIn 13 rfl) ic_0 ?_
      exact fg_zret (fg_ft (pc := 23) tb_Fb_isIn 14 rfl) rfl (by decide) rfl (fg_q hQ (fg_bF (fun hh => by first | (have := hh.1; omega) | exact hh.2 c15)))
    · refine fg_iconst (fg_ft (pc := 18) tb_Fb_isIn 11 rfl) ic_1 ?_
      refine fg_goto (tgt := 23) (fg_ft (pc := 19) tb_Fb_isIn 12 rfl) (by decide) ?_
      exact fg_zret (fg_ft (pc := 23) tb_Fb_isIn 14 rfl) rfl (by decide) rfl (fg_q hQ (fg_bT ⟨by omega, fun hh => by first | exact c15 hh | exact absurd hh c15⟩))
theorem ev_Reader_canBeA {E : fg_E} {d : Nat} {μ : Nat → Nat → Int32} {R : fg_T4} {Q : Option Value → fg_M → Prop} {sg v n : Nat} (hsg : sg < 128) (h10 : μ 255 10 = nI v) (hv : v < 2 ^ 31) (hn : μ 259 2 = nI n) (hn31 : n < 2 ^ 31) (hQ0 : Q (some (.int (nI 0))) (μ, fg_rho R, 304)) (hQ1 : Q (some (.int (nI 1))) (μ, fg_rho R, 304)) : fg_Ev E yy_Reader_canBe (d + 2) [.ref 255, .int (nI sg)] (μ, fg_rho R, 304) 304 Q := by
  refine fg_intro (by decide +kernel) (Nat.le_of_ble_eq_true rfl) (fg_okAs rfl) (Nat.le_refl _) ?_
  refine fg_iloadn (fg_ft (pc := 0) tb_Reader_canBe 0 rfl) rfl ?_
  by_cases e1_99 : sg = 99
  · refine fg_swN (tgt := 104) (fg_ft (pc := 1) tb_Reader_canBe 1 rfl) e1_99 (by decide) (by decide) (by decide) rfl (by decide) ?_
    refine fg_aloadn (fg_ft (pc := 104) tb_Reader_canBe 2 rfl) rfl ?_
    refine fg_getV (v := (nI v)) (fg_ft (pc := 105) tb_Reader_canBe 3 rfl) ff_Reader_207 ly_255 rfl (fg_lt ly_255 (by decide)) h10 ?_
    refine fg_iconst (fg_ft (pc := 108) tb_Reader_canBe 4 rfl) ic_1 ?_
    refine fg_icmp_ltN (tgt := 125) (fg_ft (pc := 109) tb_Reader_canBe 5 rfl) (by decide) (by omega) (by decide) (fun c109 => ?_) (fun c109 => ?_)
    · refine fg_iconst (fg_ft (pc := 125) tb_Reader_canBe 12 rfl) ic_0 ?_
      exact fg_zret (fg_ft (pc := 126) tb_Reader_canBe 13 rfl) rfl (by decide) rfl (hQ0)
    · refine fg_aloadn (fg_ft (pc := 112) tb_Reader_canBe 6 rfl) rfl ?_
      refine fg_getV (v := (nI v)) (fg_ft (pc := 113) tb_Reader_canBe 7 rfl) ff_Reader_207 ly_255 rfl (fg_lt ly_255 (by decide)) h10 ?_
      refine fg_bipush (fg_ft (pc := 116) tb_Reader_canBe 8 rfl) ib_10 ?_
      refine fg_icmp_gtN (tgt := 125) (fg_ft (pc := 118) tb_Reader_canBe 9 rfl) (by decide) (by omega) (by decide) (fun c118 => ?_) (fun c118 => ?_)
      · refine fg_iconst (fg_ft (pc := 125) tb_Reader_canBe 12 rfl) ic_0 ?_
        exact fg_zret (fg_ft (pc := 126) tb_Reader_canBe 13 rfl) rfl (by decide) rfl (hQ0)
      · refine fg_iconst (fg_ft (pc := 121) tb_Reader_canBe 10 rfl) ic_1 ?_
        refine fg_goto (tgt := 126) (fg_ft (pc := 122) tb_Reader_canBe 11 rfl) (by decide) ?_
        exact fg_zret (fg_ft (pc := 126) tb_Reader_canBe 13 rfl) rfl (by decide) rfl (hQ1)
  by_cases e1_100 : sg = 100
  · refine fg_swN (tgt := 290) (fg_ft (pc := 1) tb_Reader_canBe 1 rfl) e1_100 (by decide) (by decide) (by decide) rfl (by decide) ?_
    refine fg_iconst (fg_ft (pc := 290) tb_Reader_canBe 96 rfl) ic_1 ?_
    exact fg_zret (fg_ft (pc := 291) tb_Reader_canBe 97 rfl) rfl (by decide) rfl (hQ1)
  by_cases e1_101 : sg = 101
  · refine fg_swN (tgt := 290) (fg_ft (pc := 1) tb_Reader_canBe 1 rfl) e1_101 (by decide) (by decide) (by decide) rfl (by decide) ?_
    refine fg_iconst (fg_ft (pc := 290) tb_Reader_canBe 96 rfl) ic_1 ?_
    exact fg_zret (fg_ft (pc := 291) tb_Reader_canBe 97 rfl) rfl (by decide) rfl (hQ1)
  by_cases e1_102 : sg = 102
  · refine fg_swN (tgt := 127) (fg_ft (pc := 1) tb_Reader_canBe 1 rfl) e1_102 (by decide) (by decide) (by decide) rfl (by decide) ?_
    refine fg_aloadn (fg_ft (pc := 127) tb_Reader_canBe 14 rfl) rfl ?_
    refine fg_getV (v := (nI v)) (fg_ft (pc := 128) tb_Reader_canBe 15 rfl) ff_Reader_207 ly_255 rfl (fg_lt ly_255 (by decide)) h10 ?_
    refine fg_bipush (fg_ft (pc := 131) tb_Reader_canBe 16 rfl) ib_10 ?_
    refine fg_icmp_geN (tgt := 140) (fg_ft (pc := 133) tb_Reader_canBe 17 rfl) (by decide) (by omega) (by decide) (fun c133 => ?_) (fun c133 => ?_)
    · refine fg_iconst (fg_ft (pc := 140) tb_Reader_canBe 20 rfl) ic_0 ?_
      exact fg_zret (fg_ft (pc := 141) tb_Reader_canBe 21 rfl) rfl (by decide) rfl (hQ0)
    · refine fg_iconst (fg_ft (pc := 136) tb_Reader_canBe 18 rfl) ic_1 ?_
      refine fg_goto (tgt := 141) (fg_ft (pc := 137) tb_Reader_canBe 19 rfl) (by decide) ?_
      exact fg_zret (fg_ft (pc := 141) tb_Reader_canBe 21 rfl) rfl (by decide) rfl (hQ1)
  by_cases e1_103 : sg = 103
  · refine fg_swN (tgt := 290) (fg_ft (pc := 1) tb_Reader_canBe 1 rfl) e1_103 (by decide) (by decide) (by decide) rfl (by decide) ?_
    refine fg_iconst (fg_ft (pc := 290) tb_Reader_canBe 96 rfl) ic_1 ?_
    exact fg_zret (fg_ft (pc := 291) tb_Reader_canBe 97 rfl) rfl (by decide) rfl (hQ1)
  by_cases e1_104 : sg = 104
  · refine fg_swN (tgt := 228) (fg_ft (pc := 1) tb_Reader_canBe 1 rfl) e1_104 (by decide) (by decide) (by decide) rfl (by decide) ?_
    refine fg_aloadn (fg_ft (pc := 228) tb_Reader_canBe 63 rfl) rfl ?_
    refine fg_getV (v := (nI v)) (fg_ft (pc := 229) tb_Reader_canBe 64 rfl) ff_Reader_207 ly_255 rfl (fg_lt ly_255 (by decide)) h10 ?_
    refine fg_iconst (fg_ft (pc := 232) tb_Reader_canBe 65 rfl) ic_1 ?_
    refine fg_icmp_ltN (tgt := 249) (fg_ft (pc := 233) tb_Reader_canBe 66 rfl) (by decide) (by omega) (by decide) (fun c233 => ?_) (fun c233 => ?_)
    · refine fg_iconst (fg_ft (pc := 249) tb_Reader_canBe 73 rfl) ic_0 ?_
      exact fg_zret (fg_ft (pc := 250) tb_Reader_canBe 74 rfl) rfl (by decide) rfl (hQ0)
    · refine fg_aloadn (fg_ft (pc := 236) tb_Reader_canBe 67 rfl) rfl ?_
      refine fg_getV (v := (nI v)) (fg_ft (pc := 237) tb_Reader_canBe 68 rfl) ff_Reader_207 ly_255 rfl (fg_lt ly_255 (by decide)) h10 ?_
      refine fg_bipush (fg_ft (pc := 240) tb_Reader_canBe 69 rfl) ib_9 ?_
      refine fg_icmp_gtN (tgt := 249) (fg_ft (pc := 242) tb_Reader_canBe 70 rfl) (by decide) (by omega) (by decide) (fun c242 => ?_) (fun c242 => ?_)
      · refine fg_iconst (fg_ft (pc := 249) tb_Reader_canBe 73 rfl) ic_0 ?_
        exact fg_zret (fg_ft (pc := 250) tb_Reader_canBe 74 rfl) rfl (by decide) rfl (hQ0)
      · refine fg_iconst (fg_ft (pc := 245) tb_Reader_canBe 71 rfl) ic_1 ?_
        refine fg_goto (tgt := 250) (fg_ft (pc := 246) tb_Reader_canBe 72 rfl) (by decide) ?_
        exact fg_zret (fg_ft (pc := 250) tb_Reader_canBe 74 rfl) rfl (by decide) rfl (hQ1)
  by_cases e1_105 : sg = 105
  · refine fg_swN (tgt := 290) (fg_ft (pc := 1) tb_Reader_canBe 1 rfl) e1_105 (by decide) (by decide) (by decide) rfl (by decide) ?_
    refine fg_iconst (fg_ft (pc := 290) tb_Reader_canBe 96 rfl) ic_1 ?_
    exact fg_zret (fg_ft (pc := 291) tb_Reader_canBe 97 rfl) rfl (by decide) rfl (hQ1)
  by_cases e1_106 : sg = 106
  · refine fg_swN (tgt := 290) (fg_ft (pc := 1) tb_Reader_canBe 1 rfl) e1_106 (by decide) (by decide) (by decide) rfl (by decide) ?_
    refine fg_iconst (fg_ft (pc := 290) tb_Reader_canBe 96 rfl) ic_1 ?_
    exact fg_zret (fg_ft (pc := 291) tb_Reader_canBe 97 rfl) rfl (by decide) rfl (hQ1)
  by_cases e1_107 : sg = 107
  · refine fg_swN (tgt := 290) (fg_ft (pc := 1) tb_Reader_canBe 1 rfl) e1_107 (by decide) (by decide) (by decide) rfl (by decide) ?_
    refine fg_iconst (fg_ft (pc := 290) tb_Reader_canBe 96 rfl) ic_1 ?_
    exact fg_zret (fg_ft (pc := 291) tb_Reader_canBe 97 rfl) rfl (by decide) rfl (hQ1)
  by_cases e1_108 : sg = 108
  · refine fg_swN (tgt := 290) (fg_ft (pc := 1) tb_Reader_canBe 1 rfl) e1_108 (by decide) (by decide) (by decide) rfl (by decide) ?_
    refine fg_iconst (fg_ft (pc := 290) tb_Reader_canBe 96 rfl) ic_1 ?_
    exact fg_zret (fg_ft (pc := 291) tb_Reader_canBe 97 rfl) rfl (by decide) rfl (hQ1)
  by_cases e1_109 : sg = 109
  · refine fg_swN (tgt := 290) (fg_ft (pc := 1) tb_Reader_canBe 1 rfl) e1_109 (by decide) (by decide) (by decide) rfl (by decide) ?_
    refine fg_iconst (fg_ft (pc := 290) tb_Reader_canBe 96 rfl) ic_1 ?_
    exact fg_zret (fg_ft (pc := 291) tb_Reader_canBe 97 rfl) rfl (by decide) rfl (hQ1)
  by_cases e1_110 : sg = 110
  · refine fg_swN (tgt := 290) (fg_ft (pc := 1) tb_Reader_canBe 1 rfl) e1_110 (by decide) (by decide) (by decide) rfl (by decide) ?_
    refine fg_iconst (fg_ft (pc := 290) tb_Reader_canBe 96 rfl) ic_1 ?_
    exact fg_zret (fg_ft (pc := 291) tb_Reader_canBe 97 rfl) rfl (by decide) rfl (hQ1)
  by_cases e1_111 : sg = 111
  · refine fg_swN (tgt := 194) (fg_ft (pc := 1) tb_Reader_canBe 1 rfl) e1_111 (by decide) (by decide) (by decide) rfl (by decide) ?_
    refine fg_aloadn (fg_ft (pc := 194) tb_Reader_canBe 47 rfl) rfl ?_
    refine fg_getV (v := (nI v)) (fg_ft (pc := 195) tb_Reader_canBe 48 rfl) ff_Reader_207 ly_255 rfl (fg_lt ly_255 (by decide)) h10 ?_
    refine fg_aloadn (fg_ft (pc := 198) tb_Reader_canBe 49 rfl) rfl ?_
    refine fg_getR (fg_ft (pc := 199) tb_Reader_canBe 50 rfl) ff_Reader_12 ly_255 rfl (fg_lt ly_255 (by decide)) (rh_255_0 R) ?_
    refine fg_getR (fg_ft (pc := 202) tb_Reader_canBe 51 rfl) ff_Reader_149 ly_256 rfl (fg_lt ly_256 (by decide)) (rh_256_3 R) ?_
    refine fg_getV (v := (nI n)) (fg_ft (pc := 205) tb_Reader_canBe 52 rfl) ff_Reader_66 ly_259 rfl (fg_lt ly_259 (by decide)) hn ?_
    refine fg_icmp_geN (tgt := 226) (fg_ft (pc := 208) tb_Reader_canBe 53 rfl) (by decide) (by omega) (by omega) (fun c208 => ?_) (fun c208 => ?_)
    · refine fg_iconst (fg_ft (pc := 226) tb_Reader_canBe 61 rfl) ic_0 ?_
      exact fg_zret (fg_ft (pc := 227) tb_Reader_canBe 62 rfl) rfl (by decide) rfl (hQ0)
    · refine fg_aloadn (fg_ft (pc := 211) tb_Reader_canBe 54 rfl) rfl ?_
      refine fg_getV (v := (nI v)) (fg_ft (pc := 212) tb_Reader_canBe 55 rfl) ff_Reader_207 ly_255 rfl (fg_lt ly_255 (by decide)) h10 ?_
      refine fg_aloadn (fg_ft (pc := 215) tb_Reader_canBe 56 rfl) rfl ?_
      refine fg_getV (v := (μ 255 13)) (fg_ft (pc := 216) tb_Reader_canBe 57 rfl) ff_Reader_186 ly_255 rfl (fg_lt ly_255 (by decide)) rfl ?_
      refine fg_icmp_eq (tgt := 226) (fg_ft (pc := 219) tb_Reader_canBe 58 rfl) (by decide) (fun c219 => ?_) (fun c219 => ?_)
      · refine fg_iconst (fg_ft (pc := 226) tb_Reader_canBe 61 rfl) ic_0 ?_
        exact fg_zret (fg_ft (pc := 227) tb_Reader_canBe 62 rfl) rfl (by decide) rfl (hQ0)
      · refine fg_iconst (fg_ft (pc := 222) tb_Reader_canBe 59 rfl) ic_1 ?_
        refine fg_goto (tgt := 227) (fg_ft (pc := 223) tb_Reader_canBe 60 rfl) (by decide) ?_
        exact fg_zret (fg_ft (pc := 227) tb_Reader_canBe 62 rfl) rfl (by decide) rfl (hQ1)
  by_cases e1_112 : sg = 112
  · refine fg_swN (tgt := 171) (fg_ft (pc := 1) tb_Reader_canBe 1 rfl) e1_112 (by decide) (by decide) (by decide) rfl (by decide) ?_
    refine fg_aloadn (fg_ft (pc := 171) tb_Reader_canBe 36 rfl) rfl ?_
    refine fg_getV (v := (nI v)) (fg_ft (pc := 172) tb_Reader_canBe 37 rfl) ff_Reader_207 ly_255 rfl (fg_lt ly_255 (by decide)) h10 ?_
    refine fg_aloadn (fg_ft (pc := 175) tb_Reader_canBe 38 rfl) rfl ?_
    refine fg_getR (fg_ft (pc := 176) tb_Reader_canBe 39 rfl) ff_Reader_12 ly_255 rfl (fg_lt ly_255 (by decide)) (rh_255_0 R) ?_
    refine fg_getR (fg_ft (pc := 179) tb_Reader_canBe 40 rfl) ff_Reader_149 ly_256 rfl (fg_lt ly_256 (by decide)) (rh_256_3 R) ?_
    refine fg_getV (v := (nI n)) (fg_ft (pc := 182) tb_Reader_canBe 41 rfl) ff_Reader_66 ly_259 rfl (fg_lt ly_259 (by decide)) hn ?_
    refine fg_icmp_geN (tgt := 192) (fg_ft (pc := 185) tb_Reader_canBe 42 rfl) (by decide) (by omega) (by omega) (fun c185 => ?_) (fun c185 => ?_)
    · refine fg_iconst (fg_ft (pc := 192) tb_Reader_canBe 45 rfl) ic_0 ?_
      exact fg_zret (fg_ft (pc := 193) tb_Reader_canBe 46 rfl) rfl (by decide) rfl (hQ0)
    · refine fg_iconst (fg_ft (pc := 188) tb_Reader_canBe 43 rfl) ic_1 ?_
      refine fg_goto (tgt := 193) (fg_ft (pc := 189) tb_Reader_canBe 44 rfl) (by decide) ?_
      exact fg_zret (fg_ft (pc := 193) tb_Reader_canBe 46 rfl) rfl (by decide) rfl (hQ1)
  by_cases e1_113 : sg = 113
  · refine fg_swN (tgt := 290) (fg_ft (pc := 1) tb_Reader_canBe 1 rfl) e1_113 (by decide) (by decide) (by decide) rfl (by decide) ?_
    refine fg_iconst (fg_ft (pc := 290) tb_Reader_canBe 96 rfl) ic_1 ?_
    exact fg_zret (fg_ft (pc := 291) tb_Reader_canBe 97 rfl) rfl (by decide) rfl (hQ1)
  by_cases e1_114 : sg = 114
  · refine fg_swN (tgt := 290) (fg_ft (pc := 1) tb_Reader_canBe 1 rfl) e1_114 (by decide) (by decide) (by decide) rfl (by decide) ?_
    refine fg_iconst (fg_ft (pc := 290) tb_Reader_canBe 96 rfl) ic_1 ?_
    exact fg_zret (fg_ft (pc := 291) tb_Reader_canBe 97 rfl) rfl (by decide) rfl (hQ1)
  by_cases e1_115 : sg = 115
  · refine fg_swN (tgt := 290) (fg_ft (pc := 1) tb_Reader_canBe 1 rfl) e1_115 (by decide) (by decide) (by decide) rfl (by decide) ?_
    refine fg_iconst (fg_ft (pc := 290) tb_Reader_canBe 96 rfl) ic_1 ?_
    exact fg_zret (fg_ft (pc := 291) tb_Reader_canBe 97 rfl) rfl (by decide) rfl (hQ1)
  by_cases e1_116 : sg = 116
  · refine fg_swN (tgt := 290) (fg_ft (pc := 1) tb_Reader_canBe 1 rfl) e1_116 (by decide) (by decide) (by decide) rfl (by decide) ?_
    refine fg_iconst (fg_ft (pc := 290) tb_Reader_canBe 96 rfl) ic_1 ?_
    exact fg_zret (fg_ft (pc := 291) tb_Reader_canBe 97 rfl) rfl (by decide) rfl (hQ1)
  by_cases e1_117 : sg = 117
  · refine fg_swN (tgt := 142) (fg_ft (pc := 1) tb_Reader_canBe 1 rfl) e1_117 (by decide) (by decide) (by decide) rfl (by decide) ?_
    refine fg_aloadn (fg_ft (pc := 142) tb_Reader_canBe 22 rfl) rfl ?_
    refine fg_getV (v := (nI v)) (fg_ft (pc := 143) tb_Reader_canBe 23 rfl) ff_Reader_207 ly_255 rfl (fg_lt ly_255 (by decide)) h10 ?_
    refine fg_bipush (fg_ft (pc := 146) tb_Reader_canBe 24 rfl) ib_10 ?_
    refine fg_icmp_geN (tgt := 169) (fg_ft (pc := 148) tb_Reader_canBe 25 rfl) (by decide) (by omega) (by decide) (fun c148 => ?_) (fun c148 => ?_)
    · refine fg_iconst (fg_ft (pc := 169) tb_Reader_canBe 34 rfl) ic_0 ?_
      exact fg_zret (fg_ft (pc := 170) tb_Reader_canBe 35 rfl) rfl (by decide) rfl (hQ0)
    · refine fg_aloadn (fg_ft (pc := 151) tb_Reader_canBe 26 rfl) rfl ?_
      refine fg_getV (v := (μ 255 12)) (fg_ft (pc := 152) tb_Reader_canBe 27 rfl) ff_Reader_183 ly_255 rfl (fg_lt ly_255 (by decide)) rfl ?_
      refine fg_aloadn (fg_ft (pc := 155) tb_Reader_canBe 28 rfl) rfl ?_
      refine fg_getV (v := (nI v)) (fg_ft (pc := 156) tb_Reader_canBe 29 rfl) ff_Reader_207 ly_255 rfl (fg_lt ly_255 (by decide)) h10 ?_
      refine fg_callSN (fg_ft (pc := 159) tb_Reader_canBe 30 rfl) cf_Reader_210 (as := [.int (μ 255 12), .int (nI v)]) (st := []) rfl rfl (Nat.le_of_ble_eq_true rfl) (Nat.le_refl _) (Nat.le_refl _) (ev_Fb_isInB (x := μ 255 12) (k := v) (by omega) ?_)
      refine fg_ifB_ne (tgt := 169) (fg_ft (pc := 162) tb_Reader_canBe 31 rfl) (by decide) (fun c162 => ?_) (fun c162 => ?_)
      · refine fg_iconst (fg_ft (pc := 169) tb_Reader_canBe 34 rfl) ic_0 ?_
        exact fg_zret (fg_ft (pc := 170) tb_Reader_canBe 35 rfl) rfl (by decide) rfl (hQ0)
      · refine fg_iconst (fg_ft (pc := 165) tb_Reader_canBe 32 rfl) ic_1 ?_
        refine fg_goto (tgt := 170) (fg_ft (pc := 166) tb_Reader_canBe 33 rfl) (by decide) ?_
        exact fg_zret (fg_ft (pc := 170) tb_Reader_canBe 35 rfl) rfl (by decide) rfl (hQ1)
  by_cases e1_118 : sg = 118
  · refine fg_swN (tgt := 290) (fg_ft (pc := 1) tb_Reader_canBe 1 rfl) e1_118 (by decide) (by decide) (by decide) rfl (by decide) ?_
    refine fg_iconst (fg_ft (pc := 290) tb_Reader_canBe 96 rfl) ic_1 ?_
    exact fg_zret (fg_ft (pc := 291) tb_Reader_canBe 97 rfl) rfl (by decide) rfl (hQ1)
  by_cases e1_119 : sg = 119
  · refine fg_swN (tgt := 251) (fg_ft (pc := 1) tb_Reader_canBe 1 rfl) e1_119 (by decide) (by decide) (by decide) rfl (by decide) ?_
    refine fg_aloadn (fg_ft (pc := 251) tb_Reader_canBe 75 rfl) rfl ?_
    refine fg_getV (v := (nI v)) (fg_ft (pc := 252) tb_Reader_canBe 76 rfl) ff_Reader_207 ly_255 rfl (fg_lt ly_255 (by decide)) h10 ?_
    refine fg_iconst (fg_ft (pc := 255) tb_Reader_canBe 77 rfl) ic_5 ?_
    refine fg_icmp_geN (tgt := 263) (fg_ft (pc := 256) tb_Reader_canBe 78 rfl) (by decide) (by omega) (by decide) (fun c256 => ?_) (fun c256 => ?_)
    · refine fg_iconst (fg_ft (pc := 263) tb_Reader_canBe 81 rfl) ic_0 ?_
      exact fg_zret (fg_ft (pc := 264) tb_Reader_canBe 82 rfl) rfl (by decide) rfl (hQ0)
    · refine fg_iconst (fg_ft (pc := 259) tb_Reader_canBe 79 rfl) ic_1 ?_
      refine fg_goto (tgt := 264) (fg_ft (pc := 260) tb_Reader_canBe 80 rfl) (by decide) ?_
      exact fg_zret (fg_ft (pc := 264) tb_Reader_canBe 82 rfl) rfl (by decide) rfl (hQ1)
  by_cases e1_120 : sg = 120
  · refine fg_swN (tgt := 265) (fg_ft (pc := 1) tb_Reader_canBe 1 rfl) e1_120 (by decide) (by decide) (by decide) rfl (by decide) ?_
    refine fg_aloadn (fg_ft (pc := 265) tb_Reader_canBe 83 rfl) rfl ?_
    refine fg_getV (v := (nI v)) (fg_ft (pc := 266) tb_Reader_canBe 84 rfl) ff_Reader_207 ly_255 rfl (fg_lt ly_255 (by decide)) h10 ?_
    refine fg_iconst (fg_ft (pc := 269) tb_Reader_canBe 85 rfl) ic_5 ?_
    refine fg_icmp_geN (tgt := 288) (fg_ft (pc := 270) tb_Reader_canBe 86 rfl) (by decide) (by omega) (by decide) (fun c270 => ?_) (fun c270 => ?_)
    · refine fg_iconst (fg_ft (pc := 288) tb_Reader_canBe 94 rfl) ic_0 ?_
      exact fg_zret (fg_ft (pc := 289) tb_Reader_canBe 95 rfl) rfl (by decide) rfl (hQ0)
    · refine fg_aloadn (fg_ft (pc := 273) tb_Reader_canBe 87 rfl) rfl ?_
      refine fg_getV (v := (nI v)) (fg_ft (pc := 274) tb_Reader_canBe 88 rfl) ff_Reader_207 ly_255 rfl (fg_lt ly_255 (by decide)) h10 ?_
      refine fg_aloadn (fg_ft (pc := 277) tb_Reader_canBe 89 rfl) rfl ?_
      refine fg_getV (v := (μ 255 13)) (fg_ft (pc := 278) tb_Reader_canBe 90 rfl) ff_Reader_186 ly_255 rfl (fg_lt ly_255 (by decide)) rfl ?_
      refine fg_icmp_eq (tgt := 288) (fg_ft (pc := 281) tb_Reader_canBe 91 rfl) (by decide) (fun c281 => ?_) (fun c281 => ?_)
      · refine fg_iconst (fg_ft (pc := 288) tb_Reader_canBe 94 rfl) ic_0 ?_
        exact fg_zret (fg_ft (pc := 289) tb_Reader_canBe 95 rfl) rfl (by decide) rfl (hQ0)
      · refine fg_iconst (fg_ft (pc := 284) tb_Reader_canBe 92 rfl) ic_1 ?_
        refine fg_goto (tgt := 289) (fg_ft (pc := 285) tb_Reader_canBe 93 rfl) (by decide) ?_
        exact fg_zret (fg_ft (pc := 289) tb_Reader_canBe 95 rfl) rfl (by decide) rfl (hQ1)
  refine fg_swO (tgt := 290) (fg_ft (pc := 1) tb_Reader_canBe 1 rfl) (Nat.lt_trans (show _ < 2 ^ 31 from by omega) (by decide)) (by decide) (by decide) (fun i h1 h2 he => by omega) (by decide) ?_
  refine fg_iconst (fg_ft (pc := 290) tb_Reader_canBe 96 rfl) ic_1 ?_
  exact fg_zret (fg_ft (pc := 291) tb_Reader_canBe 97 rfl) rfl (by decide) rfl (hQ1)
