theorem pz_SH.put256 {μ : Nat → Nat → Int32} {j : Nat} {x : Int32} (h : pz_SH μ) : pz_SH (fg_u2 μ 256 j x) := fun t ht => by
  obtain ⟨h1, sz, h2, h3⟩ := h t ht
  obtain ⟨r1, r2, -⟩ := pz_r7 t ht
  exact ⟨(fg_u2ne (by omega)).trans h1, sz, h2, (fg_u2ne (by omega)).trans h3⟩
theorem ev_Reader_keepNumberA_0 {E : fg_E} {d : Nat} {μ : Nat → Nat → Int32} {R : fg_T4} {Q : Option Value → fg_M → Prop} {i v : Nat} (hi : i < 2 ^ 30) (h10 : μ 255 10 = nI v) (hv : v ≤ 99) (hSH : pz_SH μ) (hQ : ∀ μ' : Nat → Nat → Int32, (∀ a j, (a < 256 ∨ 271 < a) → μ' a j = μ a j) → pz_SH μ' → Q none (μ', fg_rho R, 304)) : fg_Ev E yy_Reader_keepNumber (d + 4) [.ref 255, .ref 0, .int (nI i)] (μ, fg_rho R, 304) 304 Q := by
  refine fg_intro (by decide +kernel) (Nat.le_of_ble_eq_true rfl) (fg_okAs rfl) (Nat.le_refl _) ?_
  refine fg_aloadn (fg_ft (pc := 0) tb_Reader_keepNumber 0 rfl) rfl ?_
  refine fg_aloadn (fg_ft (pc := 1) tb_Reader_keepNumber 1 rfl) rfl ?_
  refine fg_callV (fg_ft (pc := 2) tb_Reader_keepNumber 2 rfl) cf_Reader_176 (fg_isOf ly_255 rfl (fg_lt ly_255 (by decide))) (as := [.ref 0]) (st := []) rfl rfl (Nat.le_of_ble_eq_true rfl) (Nat.le_refl _) (Nat.le_refl _) (ev_Reader_rowsOf_0 ?_)
  refine fg_astorenN (fg_ft (pc := 5) tb_Reader_keepNumber 3 rfl) (Nat.le_of_ble_eq_true rfl) ?_
  refine fg_aloadn (fg_ft (pc := 6) tb_Reader_keepNumber 4 rfl) rfl ?_
  refine fg_gets (fg_ft (pc := 7) tb_Reader_keepNumber 5 rfl) fs_Reader_214 ?_
  refine fg_acmp_ne (tgt := 36) (fg_ft (pc := 10) tb_Reader_keepNumber 6 rfl) (by decide) (by decide) (by decide) (fun h => absurd rfl h) (fun _ => ?_)
  refine fg_aloadn (fg_ft (pc := 13) tb_Reader_keepNumber 7 rfl) rfl ?_
  refine fg_getR (fg_ft (pc := 14) tb_Reader_keepNumber 8 rfl) ff_Reader_12 ly_255 rfl (fg_lt ly_255 (by decide)) (rh_255_0 R) ?_
  refine fg_iconst (fg_ft (pc := 17) tb_Reader_keepNumber 9 rfl) ic_1 ?_
  refine fg_aloadn (fg_ft (pc := 18) tb_Reader_keepNumber 10 rfl) rfl ?_
  refine fg_getV (v := (nI v)) (fg_ft (pc := 19) tb_Reader_keepNumber 11 rfl) ff_Reader_207 ly_255 rfl (fg_lt ly_255 (by decide)) h10 ?_
  refine fg_bipush (fg_ft (pc := 22) tb_Reader_keepNumber 12 rfl) ib_10 ?_
  refine fg_mminN (fg_ft (pc := 24) tb_Reader_keepNumber 13 rfl) cf_Reader_41 (Nat.le_of_ble_eq_true rfl) (by omega) (by decide) ?_
  refine fg_mmaxN (fg_ft (pc := 27) tb_Reader_keepNumber 14 rfl) cf_Reader_217 (Nat.le_of_ble_eq_true rfl) (by decide) (by omega) ?_
  refine fg_putI (fg_ft (pc := 30) tb_Reader_keepNumber 15 rfl) ff_Reader_220 ly_256 rfl (fg_lt ly_256 (by decide)) (fg_nokI _) (fun _ _ h => by cases h; rfl) ?_
  show fg_wp _ _ _ _ _ _ _ _ _ (fg_u2 μ 256 0 (nI (max 1 (min v 10))), fg_rho R, 304)
  refine fg_goto (tgt := 173) (fg_ft (pc := 33) tb_Reader_keepNumber 16 rfl) (by decide) ?_
  exact fg_vret (fg_ft (pc := 173) tb_Reader_keepNumber 84 rfl) rfl rfl (hQ _ (fun a j h => fg_u2nx (by omega)) (hSH.put256))
theorem fk_Reader_232_1 : fg_KF "ForgetBread$Reader" 232 1 (.int (nI 1)) := ⟨_, List.mem_of_getElem? (l := fg_ofld) (i := 7) rfl, rfl, rfl, fg_tblIn 1731 (by decide +kernel) (by decide +kernel)⟩
theorem ev_Reader_keepNumberA_1 {E : fg_E} {d : Nat} {μ : Nat → Nat → Int32} {R : fg_T4} {Q : Option Value → fg_M → Prop} {i v : Nat} (hi : i < 2 ^ 30) (h10 : μ 255 10 = nI v) (hv : v ≤ 99) (hSH : pz_SH μ) (hQ : ∀ μ' : Nat → Nat → Int32, (∀ a j, (a < 256 ∨ 271 < a) → μ' a j = μ a j) → pz_SH μ' → Q none (μ', fg_rho R, 304)) : fg_Ev E yy_Reader_keepNumber (d + 4) [.ref 255, .ref 1, .int (nI i)] (μ, fg_rho R, 304) 304 Q := by
  refine fg_intro (by decide +kernel) (Nat.le_of_ble_eq_true rfl) (fg_okAs rfl) (Nat.le_refl _) ?_
  refine fg_aloadn (fg_ft (pc := 0) tb_Reader_keepNumber 0 rfl) rfl ?_
  refine fg_aloadn (fg_ft (pc := 1) tb_Reader_keepNumber 1 rfl) rfl ?_
  refine fg_callV (fg_ft (pc := 2) tb_Reader_keepNumber 2 rfl) cf_Reader_176 (fg_isOf ly_255 rfl (fg_lt ly_255 (by decide))) (as := [.ref 1]) (st := []) rfl rfl (Nat.le_of_ble_eq_true rfl) (Nat.le_refl _) (Nat.le_refl _) (ev_Reader_rowsOf_1 ?_)
  refine fg_astoren (fg_ft (pc := 5) tb_Reader_keepNumber 3 rfl) (Nat.le_of_ble_eq_true rfl) ?_
  refine fg_aloadn (fg_ft (pc := 6) tb_Reader_keepNumber 4 rfl) rfl ?_
  refine fg_gets (fg_ft (pc := 7) tb_Reader_keepNumber 5 rfl) fs_Reader_214 ?_
  refine fg_acmp_ne (tgt := 36) (fg_ft (pc := 10) tb_Reader_keepNumber 6 rfl) (by decide) (by decide) (by decide) (fun _ => ?_) (fun h => absurd h (by decide))
  refine fg_aloadn (fg_ft (pc := 36) tb_Reader_keepNumber 17 rfl) rfl ?_
  refine fg_gets (fg_ft (pc := 37) tb_Reader_keepNumber 18 rfl) fs_Reader_223 ?_
  refine fg_acmp_ne (tgt := 57) (fg_ft (pc := 40) tb_Reader_keepNumber 19 rfl) (by decide) (by decide) (by decide) (fun _ => ?_) (fun h => absurd h (by decide))
  refine fg_aloadn (fg_ft (pc := 57) tb_Reader_keepNumber 26 rfl) rfl ?_
  refine fg_ifnonnull (tgt := 62) (fg_ft (pc := 58) tb_Reader_keepNumber 27 rfl) (by decide) ?_
  refine fg_aloadn (fg_ft (pc := 62) tb_Reader_keepNumber 29 rfl) rfl ?_
  refine fg_gets (fg_ft (pc := 63) tb_Reader_keepNumber 30 rfl) fs_Reader_143 ?_
  refine fg_acmp_eq (tgt := 76) (fg_ft (pc := 66) tb_Reader_keepNumber 31 rfl) (by decide) (by decide) (by decide) (fun h => absurd h (by decide)) (fun _ => ?_)
  refine fg_aloadn (fg_ft (pc := 69) tb_Reader_keepNumber 32 rfl) rfl ?_
  refine fg_gets (fg_ft (pc := 70) tb_Reader_keepNumber 33 rfl) fs_Reader_146 ?_
  refine fg_acmp_ne (tgt := 107) (fg_ft (pc := 73) tb_Reader_keepNumber 34 rfl) (by decide) (by decide) (by decide) (fun _ => ?_) (fun h => absurd h (by decide))
  refine fg_aloadn (fg_ft (pc := 107) tb_Reader_keepNumber 50 rfl) rfl ?_
  refine fg_callV (fg_ft (pc := 108) tb_Reader_keepNumber 51 rfl) cf_Reader_117 (Or.inr (pz_isW (w := 1) (by decide))) (as := []) (st := []) rfl rfl (Nat.le_of_ble_eq_true rfl) (Nat.le_refl _) (Nat.le_refl _) (ev_Word_sort_1 ?_)
  refine fg_iconst (fg_ft (pc := 111) tb_Reader_keepNumber 52 rfl) ic_1 ?_
  refine fg_icmp_neN (tgt := 133) (fg_ft (pc := 112) tb_Reader_keepNumber 53 rfl) (by decide) (by decide) (by decide) (fun c112 => ?_) (fun c112 => (absurd c112 (by decide)))
  refine fg_aloadn (fg_ft (pc := 133) tb_Reader_keepNumber 64 rfl) rfl ?_
  refine fg_getK (fg_ft (pc := 134) tb_Reader_keepNumber 65 rfl) fk_Reader_232_1 ?_
  refine fg_if_eq (tgt := 160) (fg_ft (pc := 137) tb_Reader_keepNumber 66 rfl) (by decide) (fun h => absurd h (by decide)) (fun _ => ?_)
  refine fg_iloadn (fg_ft (pc := 140) tb_Reader_keepNumber 67 rfl) rfl ?_
  refine fg_if_leN (tgt := 160) (fg_ft (pc := 141) tb_Reader_keepNumber 68 rfl) (by decide) (by omega) (fun c141 => ?_) (fun c141 => ?_)
  · refine fg_aloadn (fg_ft (pc := 160) tb_Reader_keepNumber 77 rfl) rfl ?_
    refine fg_aloadn (fg_ft (pc := 161) tb_Reader_keepNumber 78 rfl) rfl ?_
    refine fg_getI (fg_ft (pc := 162) tb_Reader_keepNumber 79 rfl) ff_Reader_180 ly_255 rfl (fg_lt ly_255 (by decide)) ?_
    refine fg_iloadn (fg_ft (pc := 165) tb_Reader_keepNumber 80 rfl) rfl ?_
    refine fg_aloadn (fg_ft (pc := 166) tb_Reader_keepNumber 81 rfl) rfl ?_
    refine fg_getV (v := (nI v)) (fg_ft (pc := 167) tb_Reader_keepNumber 82 rfl) ff_Reader_207 ly_255 rfl (fg_lt ly_255 (by decide)) h10 ?_
    refine fg_callV (fg_ft (pc := 170) tb_Reader_keepNumber 83 rfl) cf_Reader_199 (fg_isOf ly_257 rfl (fg_lt ly_257 (by decide))) (as := [.int (μ 255 14), .int (nI i), .int (nI v)]) (st := []) rfl rfl (Nat.le_of_ble_eq_true rfl) (Nat.le_refl _) (Nat.le_refl _) (pz_putAny (t := 0) (by decide) hSH (x := (μ 255 14)) (y := (nI i)) (z := (nI v)) ?_)
    intro ν hfr
    show fg_wp _ _ _ _ _ _ _ _ _ (ν, fg_rho R, 304)
    exact fg_vret (fg_ft (pc := 173) tb_Reader_keepNumber 84 rfl) rfl rfl (hQ _ (fun a j h => hfr a (by have := pz_r7 0 (by decide); omega) j) (hSH.cells (by decide) hfr))
  · refine fg_aloadn (fg_ft (pc := 144) tb_Reader_keepNumber 69 rfl) rfl ?_
    refine fg_aloadn (fg_ft (pc := 145) tb_Reader_keepNumber 70 rfl) rfl ?_
    refine fg_getI (fg_ft (pc := 146) tb_Reader_keepNumber 71 rfl) ff_Reader_180 ly_255 rfl (fg_lt ly_255 (by decide)) ?_
    refine fg_iconst (fg_ft (pc := 149) tb_Reader_keepNumber 72 rfl) ic_1 ?_
    refine fg_aloadn (fg_ft (pc := 150) tb_Reader_keepNumber 73 rfl) rfl ?_
    refine fg_getV (v := (nI v)) (fg_ft (pc := 151) tb_Reader_keepNumber 74 rfl) ff_Reader_207 ly_255 rfl (fg_lt ly_255 (by decide)) h10 ?_
    refine fg_callV (fg_ft (pc := 154) tb_Reader_keepNumber 75 rfl) cf_Reader_229 (fg_isOf ly_257 rfl (fg_lt ly_257 (by decide))) (as := [.int (μ 255 14), .int (nI 1), .int (nI v)]) (st := []) rfl rfl (Nat.le_of_ble_eq_true rfl) (Nat.le_refl _) (Nat.le_refl _) (pz_putBitAny (t := 0) (by decide) hSH (x := (μ 255 14)) (y := (nI 1)) (z := (nI v)) ?_)
    intro ν hfr
    show fg_wp _ _ _ _ _ _ _ _ _ (ν, fg_rho R, 304)
    refine fg_goto (tgt := 173) (fg_ft (pc := 157) tb_Reader_keepNumber 76 rfl) (by decide) ?_
    exact fg_vret (fg_ft (pc := 173) tb_Reader_keepNumber 84 rfl) rfl rfl (hQ _ (fun a j h => hfr a (by have := pz_r7 0 (by decide); omega) j) (hSH.cells (by decide) hfr))
theorem fk_Reader_232_2 : fg_KF "ForgetBread$Reader" 232 2 (.int (nI 0)) := ⟨_, List.mem_of_getElem? (l := fg_ofld) (i := 13) rfl, rfl, rfl, fg_tblIn 1731 (by decide +kernel) (by decide +kernel)⟩
theorem ev_Reader_keepNumberA_2 {E : fg_E} {d : Nat} {μ : Nat → Nat → Int32} {R : fg_T4} {Q : Option Value → fg_M → Prop} {i v : Nat} (hi : i < 2 ^ 30) (h10 : μ 255 10 = nI v) (hv : v ≤ 99) (hSH : pz_SH μ) (hQ : ∀ μ' : Nat → Nat → Int32, (∀ a j, (a < 256 ∨ 271 < a) → μ' a j = μ a j) → pz_SH μ' → Q none (μ', fg_rho R, 304)) : fg_Ev E yy_Reader_keepNumber (d + 4) [.ref 255, .ref 2, .int (nI i)] (μ, fg_rho R, 304) 304 Q := by
  refine fg_intro (by decide +kernel) (Nat.le_of_ble_eq_true rfl) (fg_okAs rfl) (Nat.le_refl _) ?_
  refine fg_aloadn (fg_ft (pc := 0) tb_Reader_keepNumber 0 rfl) rfl ?_
  refine fg_aloadn (fg_ft (pc := 1) tb_Reader_keepNumber 1 rfl) rfl ?_
  refine fg_callV (fg_ft (pc := 2) tb_Reader_keepNumber 2 rfl) cf_Reader_176 (fg_isOf ly_255 rfl (fg_lt ly_255 (by decide))) (as := [.ref 2]) (st := []) rfl rfl (Nat.le_of_ble_eq_true rfl) (Nat.le_refl _) (Nat.le_refl _) (ev_Reader_rowsOf_2 ?_)
  refine fg_astoren (fg_ft (pc := 5) tb_Reader_keepNumber 3 rfl) (Nat.le_of_ble_eq_true rfl) ?_
  refine fg_aloadn (fg_ft (pc := 6) tb_Reader_keepNumber 4 rfl) rfl ?_
  refine fg_gets (fg_ft (pc := 7) tb_Reader_keepNumber 5 rfl) fs_Reader_214 ?_
  refine fg_acmp_ne (tgt := 36) (fg_ft (pc := 10) tb_Reader_keepNumber 6 rfl) (by decide) (by decide) (by decide) (fun _ => ?_) (fun h => absurd h (by decide))
  refine fg_aloadn (fg_ft (pc := 36) tb_Reader_keepNumber 17 rfl) rfl ?_
  refine fg_gets (fg_ft (pc := 37) tb_Reader_keepNumber 18 rfl) fs_Reader_223 ?_
  refine fg_acmp_ne (tgt := 57) (fg_ft (pc := 40) tb_Reader_keepNumber 19 rfl) (by decide) (by decide) (by decide) (fun _ => ?_) (fun h => absurd h (by decide))
  refine fg_aloadn (fg_ft (pc := 57) tb_Reader_keepNumber 26 rfl) rfl ?_
  refine fg_ifnonnull (tgt := 62) (fg_ft (pc := 58) tb_Reader_keepNumber 27 rfl) (by decide) ?_
  refine fg_aloadn (fg_ft (pc := 62) tb_Reader_keepNumber 29 rfl) rfl ?_
  refine fg_gets (fg_ft (pc := 63) tb_Reader_keepNumber 30 rfl) fs_Reader_143 ?_
  refine fg_acmp_eq (tgt := 76) (fg_ft (pc := 66) tb_Reader_keepNumber 31 rfl) (by decide) (by decide) (by decide) (fun h => absurd h (by decide)) (fun _ => ?_)
  refine fg_aloadn (fg_ft (pc := 69) tb_Reader_keepNumber 32 rfl) rfl ?_
  refine fg_gets (fg_ft (pc := 70) tb_Reader_keepNumber 33 rfl) fs_Reader_146 ?_
  refine fg_acmp_ne (tgt := 107) (fg_ft (pc := 73) tb_Reader_keepNumber 34 rfl) (by decide) (by decide) (by decide) (fun _ => ?_) (fun h => absurd h (by decide))
  refine fg_aloadn (fg_ft (pc := 107) tb_Reader_keepNumber 50 rfl) rfl ?_
  refine fg_callV (fg_ft (pc := 108) tb_Reader_keepNumber 51 rfl) cf_Reader_117 (Or.inr (pz_isW (w := 2) (by decide))) (as := []) (st := []) rfl rfl (Nat.le_of_ble_eq_true rfl) (Nat.le_refl _) (Nat.le_refl _) (ev_Word_sort_2 ?_)
  refine fg_iconst (fg_ft (pc := 111) tb_Reader_keepNumber 52 rfl) ic_1 ?_
  refine fg_icmp_neN (tgt := 133) (fg_ft (pc := 112) tb_Reader_keepNumber 53 rfl) (by decide) (by decide) (by decide) (fun c112 => ?_) (fun c112 => (absurd c112 (by decide)))
  refine fg_aloadn (fg_ft (pc := 133) tb_Reader_keepNumber 64 rfl) rfl ?_
  refine fg_getK (fg_ft (pc := 134) tb_Reader_keepNumber 65 rfl) fk_Reader_232_2 ?_
  refine fg_if_eq (tgt := 160) (fg_ft (pc := 137) tb_Reader_keepNumber 66 rfl) (by decide) (fun _ => ?_) (fun h => absurd h (by decide))
  refine fg_aloadn (fg_ft (pc := 160) tb_Reader_keepNumber 77 rfl) rfl ?_
  refine fg_aloadn (fg_ft (pc := 161) tb_Reader_keepNumber 78 rfl) rfl ?_
  refine fg_getI (fg_ft (pc := 162) tb_Reader_keepNumber 79 rfl) ff_Reader_180 ly_255 rfl (fg_lt ly_255 (by decide)) ?_
  refine fg_iloadn (fg_ft (pc := 165) tb_Reader_keepNumber 80 rfl) rfl ?_
  refine fg_aloadn (fg_ft (pc := 166) tb_Reader_keepNumber 81 rfl) rfl ?_
  refine fg_getV (v := (nI v)) (fg_ft (pc := 167) tb_Reader_keepNumber 82 rfl) ff_Reader_207 ly_255 rfl (fg_lt ly_255 (by decide)) h10 ?_
  refine fg_callV (fg_ft (pc := 170) tb_Reader_keepNumber 83 rfl) cf_Reader_199 (fg_isOf ly_259 rfl (fg_lt ly_259 (by decide))) (as := [.int (μ 255 14), .int (nI i), .int (nI v)]) (st := []) rfl rfl (Nat.le_of_ble_eq_true rfl) (Nat.le_refl _) (Nat.le_refl _) (pz_putAny (t := 1) (by decide) hSH (x := (μ 255 14)) (y := (nI i)) (z := (nI v)) ?_)
  intro ν hfr
  show fg_wp _ _ _ _ _ _ _ _ _ (ν, fg_rho R, 304)
  exact fg_vret (fg_ft (pc := 173) tb_Reader_keepNumber 84 rfl) rfl rfl (hQ _ (fun a j h => hfr a (by have := pz_r7 1 (by decide); omega) j) (hSH.cells (by decide) hfr))
theorem ev_Reader_keepNumberA_3 {E : fg_E} {d : Nat} {μ : Nat → Nat → Int32} {R : fg_T4} {Q : Option Value → fg_M → Prop} {i v : Nat} (hi : i < 2 ^ 30) (h10 : μ 255 10 = nI v) (hv : v ≤ 99) (hSH : pz_SH μ) (hQ : ∀ μ' : Nat → Nat → Int32, (∀ a j, (a < 256 ∨ 271 < a) → μ' a j = μ a j) → pz_SH μ' → Q none (μ', fg_rho R, 304)) : fg_Ev E yy_Reader_keepNumber (d + 4) [.ref 255, .ref 3, .int (nI i)] (μ, fg_rho R, 304) 304 Q := by
  refine fg_intro (by decide +kernel) (Nat.le_of_ble_eq_true rfl) (fg_okAs rfl) (Nat.le_refl _) ?_
  refine fg_aloadn (fg_ft (pc := 0) tb_Reader_keepNumber 0 rfl) rfl ?_
  refine fg_aloadn (fg_ft (pc := 1) tb_Reader_keepNumber 1 rfl) rfl ?_
  refine fg_callV (fg_ft (pc := 2) tb_Reader_keepNumber 2 rfl) cf_Reader_176 (fg_isOf ly_255 rfl (fg_lt ly_255 (by decide))) (as := [.ref 3]) (st := []) rfl rfl (Nat.le_of_ble_eq_true rfl) (Nat.le_refl _) (Nat.le_refl _) (ev_Reader_rowsOf_3 ?_)
  refine fg_astoren (fg_ft (pc := 5) tb_Reader_keepNumber 3 rfl) (Nat.le_of_ble_eq_true rfl) ?_
  refine fg_aloadn (fg_ft (pc := 6) tb_Reader_keepNumber 4 rfl) rfl ?_
  refine fg_gets (fg_ft (pc := 7) tb_Reader_keepNumber 5 rfl) fs_Reader_214 ?_
  refine fg_acmp_ne (tgt := 36) (fg_ft (pc := 10) tb_Reader_keepNumber 6 rfl) (by decide) (by decide) (by decide) (fun _ => ?_) (fun h => absurd h (by decide))
  refine fg_aloadn (fg_ft (pc := 36) tb_Reader_keepNumber 17 rfl) rfl ?_
  refine fg_gets (fg_ft (pc := 37) tb_Reader_keepNumber 18 rfl) fs_Reader_223 ?_
  refine fg_acmp_ne (tgt := 57) (fg_ft (pc := 40) tb_Reader_keepNumber 19 rfl) (by decide) (by decide) (by decide) (fun _ => ?_) (fun h => absurd h (by decide))
  refine fg_aloadn (fg_ft (pc := 57) tb_Reader_keepNumber 26 rfl) rfl ?_
  refine fg_ifnonnull (tgt := 62) (fg_ft (pc := 58) tb_Reader_keepNumber 27 rfl) (by decide) ?_
  refine fg_aloadn (fg_ft (pc := 62) tb_Reader_keepNumber 29 rfl) rfl ?_
  refine fg_gets (fg_ft (pc := 63) tb_Reader_keepNumber 30 rfl) fs_Reader_143 ?_
  refine fg_acmp_eq (tgt := 76) (fg_ft (pc := 66) tb_Reader_keepNumber 31 rfl) (by decide) (by decide) (by decide) (fun _ => ?_) (fun h => absurd rfl h)
  refine fg_iloadn (fg_ft (pc := 76) tb_Reader_keepNumber 35 rfl) rfl ?_
  refine fg_if_leN (tgt := 173) (fg_ft (pc := 77) tb_Reader_keepNumber 36 rfl) (by decide) (by omega) (fun c77 => ?_) (fun c77 => ?_)
  · exact fg_vret (fg_ft (pc := 173) tb_Reader_keepNumber 84 rfl) rfl rfl (hQ _ (fun _ _ _ => rfl) hSH)
  · refine fg_aloadn (fg_ft (pc := 80) tb_Reader_keepNumber 37 rfl) rfl ?_
    refine fg_aloadn (fg_ft (pc := 81) tb_Reader_keepNumber 38 rfl) rfl ?_
    refine fg_getI (fg_ft (pc := 82) tb_Reader_keepNumber 39 rfl) ff_Reader_186 ly_255 rfl (fg_lt ly_255 (by decide)) ?_
    refine fg_aloadn (fg_ft (pc := 85) tb_Reader_keepNumber 40 rfl) rfl ?_
    refine fg_gets (fg_ft (pc := 86) tb_Reader_keepNumber 41 rfl) fs_Reader_143 ?_
    refine fg_acmp_ne (tgt := 96) (fg_ft (pc := 89) tb_Reader_keepNumber 42 rfl) (by decide) (by decide) (by decide) (fun h => absurd rfl h) (fun _ => ?_)
    refine fg_iconst (fg_ft (pc := 92) tb_Reader_keepNumber 43 rfl) ic_1 ?_
    refine fg_goto (tgt := 97) (fg_ft (pc := 93) tb_Reader_keepNumber 44 rfl) (by decide) ?_
    refine fg_aloadn (fg_ft (pc := 97) tb_Reader_keepNumber 46 rfl) rfl ?_
    refine fg_getV (v := (nI v)) (fg_ft (pc := 98) tb_Reader_keepNumber 47 rfl) ff_Reader_207 ly_255 rfl (fg_lt ly_255 (by decide)) h10 ?_
    refine fg_callV (fg_ft (pc := 101) tb_Reader_keepNumber 48 rfl) cf_Reader_229 (fg_isOf ly_259 rfl (fg_lt ly_259 (by decide))) (as := [.int (μ 255 13), .int (nI 1), .int (nI v)]) (st := []) rfl rfl (Nat.le_of_ble_eq_true rfl) (Nat.le_refl _) (Nat.le_refl _) (pz_putBitAny (t := 1) (by decide) hSH (x := (μ 255 13)) (y := (nI 1)) (z := (nI v)) ?_)
    intro ν hfr
    show fg_wp _ _ _ _ _ _ _ _ _ (ν, fg_rho R, 304)
    refine fg_goto (tgt := 173) (fg_ft (pc := 104) tb_Reader_keepNumber 49 rfl) (by decide) ?_
    exact fg_vret (fg_ft (pc := 173) tb_Reader_keepNumber 84 rfl) rfl rfl (hQ _ (fun a j h => hfr a (by have := pz_r7 1 (by decide); omega) j) (hSH.cells (by decide) hfr))
theorem ev_Reader_keepNumberA_4 {E : fg_E} {d : Nat} {μ : Nat → Nat → Int32} {R : fg_T4} {Q : Option Value → fg_M → Prop} {i v : Nat} (hi : i < 2 ^ 30) (h10 : μ 255 10 = nI v) (hv : v ≤ 99) (hSH : pz_SH μ) (hQ : ∀ μ' : Nat → Nat → Int32, (∀ a j, (a < 256 ∨ 271 < a) → μ' a j = μ a j) → pz_SH μ' → Q none (μ', fg_rho R, 304)) : fg_Ev E yy_Reader_keepNumber (d + 4) [.ref 255, .ref 4, .int (nI i)] (μ, fg_rho R, 304) 304 Q := by
  refine fg_intro (by decide +kernel) (Nat.le_of_ble_eq_true rfl) (fg_okAs rfl) (Nat.le_refl _) ?_
  refine fg_aloadn (fg_ft (pc := 0) tb_Reader_keepNumber 0 rfl) rfl ?_
  refine fg_aloadn (fg_ft (pc := 1) tb_Reader_keepNumber 1 rfl) rfl ?_
  refine fg_callV (fg_ft (pc := 2) tb_Reader_keepNumber 2 rfl) cf_Reader_176 (fg_isOf ly_255 rfl (fg_lt ly_255 (by decide))) (as := [.ref 4]) (st := []) rfl rfl (Nat.le_of_ble_eq_true rfl) (Nat.le_refl _) (Nat.le_refl _) (ev_Reader_rowsOf_4 ?_)
  refine fg_astoren (fg_ft (pc := 5) tb_Reader_keepNumber 3 rfl) (Nat.le_of_ble_eq_true rfl) ?_
  refine fg_aloadn (fg_ft (pc := 6) tb_Reader_keepNumber 4 rfl) rfl ?_
  refine fg_gets (fg_ft (pc := 7) tb_Reader_keepNumber 5 rfl) fs_Reader_214 ?_
  refine fg_acmp_ne (tgt := 36) (fg_ft (pc := 10) tb_Reader_keepNumber 6 rfl) (by decide) (by decide) (by decide) (fun _ => ?_) (fun h => absurd h (by decide))
  refine fg_aloadn (fg_ft (pc := 36) tb_Reader_keepNumber 17 rfl) rfl ?_
  refine fg_gets (fg_ft (pc := 37) tb_Reader_keepNumber 18 rfl) fs_Reader_223 ?_
  refine fg_acmp_ne (tgt := 57) (fg_ft (pc := 40) tb_Reader_keepNumber 19 rfl) (by decide) (by decide) (by decide) (fun _ => ?_) (fun h => absurd h (by decide))
  refine fg_aloadn (fg_ft (pc := 57) tb_Reader_keepNumber 26 rfl) rfl ?_
  refine fg_ifnonnull (tgt := 62) (fg_ft (pc := 58) tb_Reader_keepNumber 27 rfl) (by decide) ?_
  refine fg_aloadn (fg_ft (pc := 62) tb_Reader_keepNumber 29 rfl) rfl ?_
  refine fg_gets (fg_ft (pc := 63) tb_Reader_keepNumber 30 rfl) fs_Reader_143 ?_
  refine fg_acmp_eq (tgt := 76) (fg_ft (pc := 66) tb_Reader_keepNumber 31 rfl) (by decide) (by decide) (by decide) (fun h => absurd h (by decide)) (fun _ => ?_)
  refine fg_aloadn (fg_ft (pc := 69) tb_Reader_keepNumber 32 rfl) rfl ?_
  refine fg_gets (fg_ft (pc := 70) tb_Reader_keepNumber 33 rfl) fs_Reader_146 ?_
  refine fg_acmp_ne (tgt := 107) (fg_ft (pc := 73) tb_Reader_keepNumber 34 rfl) (by decide) (by decide) (by decide) (fun h => absurd rfl h) (fun _ => ?_)
  refine fg_iloadn (fg_ft (pc := 76) tb_Reader_keepNumber 35 rfl) rfl ?_
  refine fg_if_leN (tgt := 173) (fg_ft (pc := 77) tb_Reader_keepNumber 36 rfl) (by decide) (by omega) (fun c77 => ?_) (fun c77 => ?_)
  · exact fg_vret (fg_ft (pc := 173) tb_Reader_keepNumber 84 rfl) rfl rfl (hQ _ (fun _ _ _ => rfl) hSH)
  · refine fg_aloadn (fg_ft (pc := 80) tb_Reader_keepNumber 37 rfl) rfl ?_
    refine fg_aloadn (fg_ft (pc := 81) tb_Reader_keepNumber 38 rfl) rfl ?_
    refine fg_getI (fg_ft (pc := 82) tb_Reader_keepNumber 39 rfl) ff_Reader_186 ly_255 rfl (fg_lt ly_255 (by decide)) ?_
    refine fg_aloadn (fg_ft (pc := 85) tb_Reader_keepNumber 40 rfl) rfl ?_
    refine fg_gets (fg_ft (pc := 86) tb_Reader_keepNumber 41 rfl) fs_Reader_143 ?_
    refine fg_acmp_ne (tgt := 96) (fg_ft (pc := 89) tb_Reader_keepNumber 42 rfl) (by decide) (by decide) (by decide) (fun _ => ?_) (fun h => absurd h (by decide))
    refine fg_iconst (fg_ft (pc := 96) tb_Reader_keepNumber 45 rfl) ic_2 ?_
    refine fg_aloadn (fg_ft (pc := 97) tb_Reader_keepNumber 46 rfl) rfl ?_
    refine fg_getV (v := (nI v)) (fg_ft (pc := 98) tb_Reader_keepNumber 47 rfl) ff_Reader_207 ly_255 rfl (fg_lt ly_255 (by decide)) h10 ?_
    refine fg_callV (fg_ft (pc := 101) tb_Reader_keepNumber 48 rfl) cf_Reader_229 (fg_isOf ly_259 rfl (fg_lt ly_259 (by decide))) (as := [.int (μ 255 13), .int (nI 2), .int (nI v)]) (st := []) rfl rfl (Nat.le_of_ble_eq_true rfl) (Nat.le_refl _) (Nat.le_refl _) (pz_putBitAny (t := 1) (by decide) hSH (x := (μ 255 13)) (y := (nI 2)) (z := (nI v)) ?_)
    intro ν hfr
    show fg_wp _ _ _ _ _ _ _ _ _ (ν, fg_rho R, 304)
    refine fg_goto (tgt := 173) (fg_ft (pc := 104) tb_Reader_keepNumber 49 rfl) (by decide) ?_
    exact fg_vret (fg_ft (pc := 173) tb_Reader_keepNumber 84 rfl) rfl rfl (hQ _ (fun a j h => hfr a (by have := pz_r7 1 (by decide); omega) j) (hSH.cells (by decide) hfr))
theorem fk_Reader_232_5 : fg_KF "ForgetBread$Reader" 232 5 (.int (nI 0)) := ⟨_, List.mem_of_getElem? (l := fg_ofld) (i := 31) rfl, rfl, rfl, fg_tblIn 1731 (by decide +kernel) (by decide +kernel)⟩
theorem ev_Reader_keepNumberA_5 {E : fg_E} {d : Nat} {μ : Nat → Nat → Int32} {R : fg_T4} {Q : Option Value → fg_M → Prop} {i v : Nat} (hi : i < 2 ^ 30) (h10 : μ 255 10 = nI v) (hv : v ≤ 99) (hSH : pz_SH μ) (hQ : ∀ μ' : Nat → Nat → Int32, (∀ a j, (a < 256 ∨ 271 < a) → μ' a j = μ a j) → pz_SH μ' → Q none (μ', fg_rho R, 304)) : fg_Ev E yy_Reader_keepNumber (d + 4) [.ref 255, .ref 5, .int (nI i)] (μ, fg_rho R, 304) 304 Q := by
  refine fg_intro (by decide +kernel) (Nat.le_of_ble_eq_true rfl) (fg_okAs rfl) (Nat.le_refl _) ?_
  refine fg_aloadn (fg_ft (pc := 0) tb_Reader_keepNumber 0 rfl) rfl ?_
  refine fg_aloadn (fg_ft (pc := 1) tb_Reader_keepNumber 1 rfl) rfl ?_
  refine fg_callV (fg_ft (pc := 2) tb_Reader_keepNumber 2 rfl) cf_Reader_176 (fg_isOf ly_255 rfl (fg_lt ly_255 (by decide))) (as := [.ref 5]) (st := []) rfl rfl (Nat.le_of_ble_eq_true rfl) (Nat.le_refl _) (Nat.le_refl _) (ev_Reader_rowsOf_5 ?_)
  refine fg_astoren (fg_ft (pc := 5) tb_Reader_keepNumber 3 rfl) (Nat.le_of_ble_eq_true rfl) ?_
  refine fg_aloadn (fg_ft (pc := 6) tb_Reader_keepNumber 4 rfl) rfl ?_
  refine fg_gets (fg_ft (pc := 7) tb_Reader_keepNumber 5 rfl) fs_Reader_214 ?_
  refine fg_acmp_ne (tgt := 36) (fg_ft (pc := 10) tb_Reader_keepNumber 6 rfl) (by decide) (by decide) (by decide) (fun _ => ?_) (fun h => absurd h (by decide))
  refine fg_aloadn (fg_ft (pc := 36) tb_Reader_keepNumber 17 rfl) rfl ?_
  refine fg_gets (fg_ft (pc := 37) tb_Reader_keepNumber 18 rfl) fs_Reader_223 ?_
  refine fg_acmp_ne (tgt := 57) (fg_ft (pc := 40) tb_Reader_keepNumber 19 rfl) (by decide) (by decide) (by decide) (fun _ => ?_) (fun h => absurd h (by decide))
  refine fg_aloadn (fg_ft (pc := 57) tb_Reader_keepNumber 26 rfl) rfl ?_
  refine fg_ifnonnull (tgt := 62) (fg_ft (pc := 58) tb_Reader_keepNumber 27 rfl) (by decide) ?_
  refine fg_aloadn (fg_ft (pc := 62) tb_Reader_keepNumber 29 rfl) rfl ?_
  refine fg_gets (fg_ft (pc := 63) tb_Reader_keepNumber 30 rfl) fs_Reader_143 ?_
  refine fg_acmp_eq (tgt := 76) (fg_ft (pc := 66) tb_Reader_keepNumber 31 rfl) (by decide) (by decide) (by decide) (fun h => absurd h (by decide)) (fun _ => ?_)
  refine fg_aloadn (fg_ft (pc := 69) tb_Reader_keepNumber 32 rfl) rfl ?_
  refine fg_gets (fg_ft (pc := 70) tb_Reader_keepNumber 33 rfl) fs_Reader_146 ?_
  refine fg_acmp_ne (tgt := 107) (fg_ft (pc := 73) tb_Reader_keepNumber 34 rfl) (by decide) (by decide) (by decide) (fun _ => ?_) (fun h => absurd h (by decide))
  refine fg_aloadn (fg_ft (pc := 107) tb_Reader_keepNumber 50 rfl) rfl ?_
  refine fg_callV (fg_ft (pc := 108) tb_Reader_keepNumber 51 rfl) cf_Reader_117 (Or.inr (pz_isW (w := 5) (by decide))) (as := []) (st := []) rfl rfl (Nat.le_of_ble_eq_true rfl) (Nat.le_refl _) (Nat.le_refl _) (ev_Word_sort_5 ?_)
  refine fg_iconst (fg_ft (pc := 111) tb_Reader_keepNumber 52 rfl) ic_1 ?_
  refine fg_icmp_neN (tgt := 133) (fg_ft (pc := 112) tb_Reader_keepNumber 53 rfl) (by decide) (by decide) (by decide) (fun c112 => ?_) (fun c112 => (absurd c112 (by decide)))
  refine fg_aloadn (fg_ft (pc := 133) tb_Reader_keepNumber 64 rfl) rfl ?_
  refine fg_getK (fg_ft (pc := 134) tb_Reader_keepNumber 65 rfl) fk_Reader_232_5 ?_
  refine fg_if_eq (tgt := 160) (fg_ft (pc := 137) tb_Reader_keepNumber 66 rfl) (by decide) (fun _ => ?_) (fun h => absurd h (by decide))
  refine fg_aloadn (fg_ft (pc := 160) tb_Reader_keepNumber 77 rfl) rfl ?_
  refine fg_aloadn (fg_ft (pc := 161) tb_Reader_keepNumber 78 rfl) rfl ?_
  refine fg_getI (fg_ft (pc := 162) tb_Reader_keepNumber 79 rfl) ff_Reader_180 ly_255 rfl (fg_lt ly_255 (by decide)) ?_
  refine fg_iloadn (fg_ft (pc := 165) tb_Reader_keepNumber 80 rfl) rfl ?_
  refine fg_aloadn (fg_ft (pc := 166) tb_Reader_keepNumber 81 rfl) rfl ?_
  refine fg_getV (v := (nI v)) (fg_ft (pc := 167) tb_Reader_keepNumber 82 rfl) ff_Reader_207 ly_255 rfl (fg_lt ly_255 (by decide)) h10 ?_
  refine fg_callV (fg_ft (pc := 170) tb_Reader_keepNumber 83 rfl) cf_Reader_199 (fg_isOf ly_261 rfl (fg_lt ly_261 (by decide))) (as := [.int (μ 255 14), .int (nI i), .int (nI v)]) (st := []) rfl rfl (Nat.le_of_ble_eq_true rfl) (Nat.le_refl _) (Nat.le_refl _) (pz_putAny (t := 2) (by decide) hSH (x := (μ 255 14)) (y := (nI i)) (z := (nI v)) ?_)
  intro ν hfr
  show fg_wp _ _ _ _ _ _ _ _ _ (ν, fg_rho R, 304)
  exact fg_vret (fg_ft (pc := 173) tb_Reader_keepNumber 84 rfl) rfl rfl (hQ _ (fun a j h => hfr a (by have := pz_r7 2 (by decide); omega) j) (hSH.cells (by decide) hfr))
theorem fk_Reader_232_6 : fg_KF "ForgetBread$Reader" 232 6 (.int (nI 0)) := ⟨_, List.mem_of_getElem? (l := fg_ofld) (i := 37) rfl, rfl, rfl, fg_tblIn 1731 (by decide +kernel) (by decide +kernel)⟩
theorem ev_Reader_keepNumberA_6 {E : fg_E} {d : Nat} {μ : Nat → Nat → Int32} {R : fg_T4} {Q : Option Value → fg_M → Prop} {i v : Nat} (hi : i < 2 ^ 30) (h10 : μ 255 10 = nI v) (hv : v ≤ 99) (hSH : pz_SH μ) (hQ : ∀ μ' : Nat → Nat → Int32, (∀ a j, (a < 256 ∨ 271 < a) → μ' a j = μ a j) → pz_SH μ' → Q none (μ', fg_rho R, 304)) : fg_Ev E yy_Reader_keepNumber (d + 4) [.ref 255, .ref 6, .int (nI i)] (μ, fg_rho R, 304) 304 Q := by
  refine fg_intro (by decide +kernel) (Nat.le_of_ble_eq_true rfl) (fg_okAs rfl) (Nat.le_refl _) ?_
  refine fg_aloadn (fg_ft (pc := 0) tb_Reader_keepNumber 0 rfl) rfl ?_
  refine fg_aloadn (fg_ft (pc := 1) tb_Reader_keepNumber 1 rfl) rfl ?_
  refine fg_callV (fg_ft (pc := 2) tb_Reader_keepNumber 2 rfl) cf_Reader_176 (fg_isOf ly_255 rfl (fg_lt ly_255 (by decide))) (as := [.ref 6]) (st := []) rfl rfl (Nat.le_of_ble_eq_true rfl) (Nat.le_refl _) (Nat.le_refl _) (ev_Reader_rowsOf_6 ?_)
  refine fg_astoren (fg_ft (pc := 5) tb_Reader_keepNumber 3 rfl) (Nat.le_of_ble_eq_true rfl) ?_
  refine fg_aloadn (fg_ft (pc := 6) tb_Reader_keepNumber 4 rfl) rfl ?_
  refine fg_gets (fg_ft (pc := 7) tb_Reader_keepNumber 5 rfl) fs_Reader_214 ?_
  refine fg_acmp_ne (tgt := 36) (fg_ft (pc := 10) tb_Reader_keepNumber 6 rfl) (by decide) (by decide) (by decide) (fun _ => ?_) (fun h => absurd h (by decide))
  refine fg_aloadn (fg_ft (pc := 36) tb_Reader_keepNumber 17 rfl) rfl ?_
  refine fg_gets (fg_ft (pc := 37) tb_Reader_keepNumber 18 rfl) fs_Reader_223 ?_
  refine fg_acmp_ne (tgt := 57) (fg_ft (pc := 40) tb_Reader_keepNumber 19 rfl) (by decide) (by decide) (by decide) (fun _ => ?_) (fun h => absurd h (by decide))
  refine fg_aloadn (fg_ft (pc := 57) tb_Reader_keepNumber 26 rfl) rfl ?_
  refine fg_ifnonnull (tgt := 62) (fg_ft (pc := 58) tb_Reader_keepNumber 27 rfl) (by decide) ?_
  refine fg_aloadn (fg_ft (pc := 62) tb_Reader_keepNumber 29 rfl) rfl ?_
  refine fg_gets (fg_ft (pc := 63) tb_Reader_keepNumber 30 rfl) fs_Reader_143 ?_
  refine fg_acmp_eq (tgt := 76) (fg_ft (pc := 66) tb_Reader_keepNumber 31 rfl) (by decide) (by decide) (by decide) (fun h => absurd h (by decide)) (fun _ => ?_)
  refine fg_aloadn (fg_ft (pc := 69) tb_Reader_keepNumber 32 rfl) rfl ?_
  refine fg_gets (fg_ft (pc := 70) tb_Reader_keepNumber 33 rfl) fs_Reader_146 ?_
  refine fg_acmp_ne (tgt := 107) (fg_ft (pc := 73) tb_Reader_keepNumber 34 rfl) (by decide) (by decide) (by decide) (fun _ => ?_) (fun h => absurd h (by decide))
  refine fg_aloadn (fg_ft (pc := 107) tb_Reader_keepNumber 50 rfl) rfl ?_
  refine fg_callV (fg_ft (pc := 108) tb_Reader_keepNumber 51 rfl) cf_Reader_117 (Or.inr (pz_isW (w := 6) (by decide))) (as := []) (st := []) rfl rfl (Nat.le_of_ble_eq_true rfl) (Nat.le_refl _) (Nat.le_refl _) (ev_Word_sort_6 ?_)
  refine fg_iconst (fg_ft (pc := 111) tb_Reader_keepNumber 52 rfl) ic_1 ?_
  refine fg_icmp_neN (tgt := 133) (fg_ft (pc := 112) tb_Reader_keepNumber 53 rfl) (by decide) (by decide) (by decide) (fun c112 => ?_) (fun c112 => (absurd c112 (by decide)))
  refine fg_aloadn (fg_ft (pc := 133) tb_Reader_keepNumber 64 rfl) rfl ?_
  refine fg_getK (fg_ft (pc := 134) tb_Reader_keepNumber 65 rfl) fk_Reader_232_6 ?_
  refine fg_if_eq (tgt := 160) (fg_ft (pc := 137) tb_Reader_keepNumber 66 rfl) (by decide) (fun _ => ?_) (fun h => absurd h (by decide))
  refine fg_aloadn (fg_ft (pc := 160) tb_Reader_keepNumber 77 rfl) rfl ?_
  refine fg_aloadn (fg_ft (pc := 161) tb_Reader_keepNumber 78 rfl) rfl ?_
  refine fg_getI (fg_ft (pc := 162) tb_Reader_keepNumber 79 rfl) ff_Reader_180 ly_255 rfl (fg_lt ly_255 (by decide)) ?_
  refine fg_iloadn (fg_ft (pc := 165) tb_Reader_keepNumber 80 rfl) rfl ?_
  refine fg_aloadn (fg_ft (pc := 166) tb_Reader_keepNumber 81 rfl) rfl ?_
  refine fg_getV (v := (nI v)) (fg_ft (pc := 167) tb_Reader_keepNumber 82 rfl) ff_Reader_207 ly_255 rfl (fg_lt ly_255 (by decide)) h10 ?_
  refine fg_callV (fg_ft (pc := 170) tb_Reader_keepNumber 83 rfl) cf_Reader_199 (fg_isOf ly_263 rfl (fg_lt ly_263 (by decide))) (as := [.int (μ 255 14), .int (nI i), .int (nI v)]) (st := []) rfl rfl (Nat.le_of_ble_eq_true rfl) (Nat.le_refl _) (Nat.le_refl _) (pz_putAny (t := 3) (by decide) hSH (x := (μ 255 14)) (y := (nI i)) (z := (nI v)) ?_)
  intro ν hfr
  show fg_wp _ _ _ _ _ _ _ _ _ (ν, fg_rho R, 304)
  exact fg_vret (fg_ft (pc := 173) tb_Reader_keepNumber 84 rfl) rfl rfl (hQ _ (fun a j h => hfr a (by have := pz_r7 3 (by decide); omega) j) (hSH.cells (by decide) hfr))
theorem fk_Reader_232_7 : fg_KF "ForgetBread$Reader" 232 7 (.int (nI 1)) := ⟨_, List.mem_of_getElem? (l := fg_ofld) (i := 43) rfl, rfl, rfl, fg_tblIn 1731 (by decide +kernel) (by decide +kernel)⟩
theorem ev_Reader_keepNumberA_7 {E : fg_E} {d : Nat} {μ : Nat → Nat → Int32} {R : fg_T4} {Q : Option Value → fg_M → Prop} {i v : Nat} (hi : i < 2 ^ 30) (h10 : μ 255 10 = nI v) (hv : v ≤ 99) (hSH : pz_SH μ) (hQ : ∀ μ' : Nat → Nat → Int32, (∀ a j, (a < 256 ∨ 271 < a) → μ' a j = μ a j) → pz_SH μ' → Q none (μ', fg_rho R, 304)) : fg_Ev E yy_Reader_keepNumber (d + 4) [.ref 255, .ref 7, .int (nI i)] (μ, fg_rho R, 304) 304 Q := by
  refine fg_intro (by decide +kernel) (Nat.le_of_ble_eq_true rfl) (fg_okAs rfl) (Nat.le_refl _) ?_
  refine fg_aloadn (fg_ft (pc := 0) tb_Reader_keepNumber 0 rfl) rfl ?_
  refine fg_aloadn (fg_ft (pc := 1) tb_Reader_keepNumber 1 rfl) rfl ?_
  refine fg_callV (fg_ft (pc := 2) tb_Reader_keepNumber 2 rfl) cf_Reader_176 (fg_isOf ly_255 rfl (fg_lt ly_255 (by decide))) (as := [.ref 7]) (st := []) rfl rfl (Nat.le_of_ble_eq_true rfl) (Nat.le_refl _) (Nat.le_refl _) (ev_Reader_rowsOf_7 ?_)
  refine fg_astoren (fg_ft (pc := 5) tb_Reader_keepNumber 3 rfl) (Nat.le_of_ble_eq_true rfl) ?_
  refine fg_aloadn (fg_ft (pc := 6) tb_Reader_keepNumber 4 rfl) rfl ?_
  refine fg_gets (fg_ft (pc := 7) tb_Reader_keepNumber 5 rfl) fs_Reader_214 ?_
  refine fg_acmp_ne (tgt := 36) (fg_ft (pc := 10) tb_Reader_keepNumber 6 rfl) (by decide) (by decide) (by decide) (fun _ => ?_) (fun h => absurd h (by decide))
  refine fg_aloadn (fg_ft (pc := 36) tb_Reader_keepNumber 17 rfl) rfl ?_
  refine fg_gets (fg_ft (pc := 37) tb_Reader_keepNumber 18 rfl) fs_Reader_223 ?_
  refine fg_acmp_ne (tgt := 57) (fg_ft (pc := 40) tb_Reader_keepNumber 19 rfl) (by decide) (by decide) (by decide) (fun _ => ?_) (fun h => absurd h (by decide))
  refine fg_aloadn (fg_ft (pc := 57) tb_Reader_keepNumber 26 rfl) rfl ?_
  refine fg_ifnonnull (tgt := 62) (fg_ft (pc := 58) tb_Reader_keepNumber 27 rfl) (by decide) ?_
  refine fg_aloadn (fg_ft (pc := 62) tb_Reader_keepNumber 29 rfl) rfl ?_
  refine fg_gets (fg_ft (pc := 63) tb_Reader_keepNumber 30 rfl) fs_Reader_143 ?_
  refine fg_acmp_eq (tgt := 76) (fg_ft (pc := 66) tb_Reader_keepNumber 31 rfl) (by decide) (by decide) (by decide) (fun h => absurd h (by decide)) (fun _ => ?_)
  refine fg_aloadn (fg_ft (pc := 69) tb_Reader_keepNumber 32 rfl) rfl ?_
  refine fg_gets (fg_ft (pc := 70) tb_Reader_keepNumber 33 rfl) fs_Reader_146 ?_
  refine fg_acmp_ne (tgt := 107) (fg_ft (pc := 73) tb_Reader_keepNumber 34 rfl) (by decide) (by decide) (by decide) (fun _ => ?_) (fun h => absurd h (by decide))
  refine fg_aloadn (fg_ft (pc := 107) tb_Reader_keepNumber 50 rfl) rfl ?_
  refine fg_callV (fg_ft (pc := 108) tb_Reader_keepNumber 51 rfl) cf_Reader_117 (Or.inr (pz_isW (w := 7) (by decide))) (as := []) (st := []) rfl rfl (Nat.le_of_ble_eq_true rfl) (Nat.le_refl _) (Nat.le_refl _) (ev_Word_sort_7 ?_)
  refine fg_iconst (fg_ft (pc := 111) tb_Reader_keepNumber 52 rfl) ic_1 ?_
  refine fg_icmp_neN (tgt := 133) (fg_ft (pc := 112) tb_Reader_keepNumber 53 rfl) (by decide) (by decide) (by decide) (fun c112 => ?_) (fun c112 => (absurd c112 (by decide)))
  refine fg_aloadn (fg_ft (pc := 133) tb_Reader_keepNumber 64 rfl) rfl ?_
  refine fg_getK (fg_ft (pc := 134) tb_Reader_keepNumber 65 rfl) fk_Reader_232_7 ?_
  refine fg_if_eq (tgt := 160) (fg_ft (pc := 137) tb_Reader_keepNumber 66 rfl) (by decide) (fun h => absurd h (by decide)) (fun _ => ?_)
  refine fg_iloadn (fg_ft (pc := 140) tb_Reader_keepNumber 67 rfl) rfl ?_
  refine fg_if_leN (tgt := 160) (fg_ft (pc := 141) tb_Reader_keepNumber 68 rfl) (by decide) (by omega) (fun c141 => ?_) (fun c141 => ?_)
  · refine fg_aloadn (fg_ft (pc := 160) tb_Reader_keepNumber 77 rfl) rfl ?_
    refine fg_aloadn (fg_ft (pc := 161) tb_Reader_keepNumber 78 rfl) rfl ?_
    refine fg_getI (fg_ft (pc := 162) tb_Reader_keepNumber 79 rfl) ff_Reader_180 ly_255 rfl (fg_lt ly_255 (by decide)) ?_
    refine fg_iloadn (fg_ft (pc := 165) tb_Reader_keepNumber 80 rfl) rfl ?_
    refine fg_aloadn (fg_ft (pc := 166) tb_Reader_keepNumber 81 rfl) rfl ?_
    refine fg_getV (v := (nI v)) (fg_ft (pc := 167) tb_Reader_keepNumber 82 rfl) ff_Reader_207 ly_255 rfl (fg_lt ly_255 (by decide)) h10 ?_
    refine fg_callV (fg_ft (pc := 170) tb_Reader_keepNumber 83 rfl) cf_Reader_199 (fg_isOf ly_265 rfl (fg_lt ly_265 (by decide))) (as := [.int (μ 255 14), .int (nI i), .int (nI v)]) (st := []) rfl rfl (Nat.le_of_ble_eq_true rfl) (Nat.le_refl _) (Nat.le_refl _) (pz_putAny (t := 4) (by decide) hSH (x := (μ 255 14)) (y := (nI i)) (z := (nI v)) ?_)
    intro ν hfr
    show fg_wp _ _ _ _ _ _ _ _ _ (ν, fg_rho R, 304)
    exact fg_vret (fg_ft (pc := 173) tb_Reader_keepNumber 84 rfl) rfl rfl (hQ _ (fun a j h => hfr a (by have := pz_r7 4 (by decide); omega) j) (hSH.cells (by decide) hfr))
  · refine fg_aloadn (fg_ft (pc := 144) tb_Reader_keepNumber 69 rfl) rfl ?_
    refine fg_aloadn (fg_ft (pc := 145) tb_Reader_keepNumber 70 rfl) rfl ?_
    refine fg_getI (fg_ft (pc := 146) tb_Reader_keepNumber 71 rfl) ff_Reader_180 ly_255 rfl (fg_lt ly_255 (by decide)) ?_
    refine fg_iconst (fg_ft (pc := 149) tb_Reader_keepNumber 72 rfl) ic_1 ?_
    refine fg_aloadn (fg_ft (pc := 150) tb_Reader_keepNumber 73 rfl) rfl ?_
    refine fg_getV (v := (nI v)) (fg_ft (pc := 151) tb_Reader_keepNumber 74 rfl) ff_Reader_207 ly_255 rfl (fg_lt ly_255 (by decide)) h10 ?_
    refine fg_callV (fg_ft (pc := 154) tb_Reader_keepNumber 75 rfl) cf_Reader_229 (fg_isOf ly_265 rfl (fg_lt ly_265 (by decide))) (as := [.int (μ 255 14), .int (nI 1), .int (nI v)]) (st := []) rfl rfl (Nat.le_of_ble_eq_true rfl) (Nat.le_refl _) (Nat.le_refl _) (pz_putBitAny (t := 4) (by decide) hSH (x := (μ 255 14)) (y := (nI 1)) (z := (nI v)) ?_)
    intro ν hfr
    show fg_wp _ _ _ _ _ _ _ _ _ (ν, fg_rho R, 304)
    refine fg_goto (tgt := 173) (fg_ft (pc := 157) tb_Reader_keepNumber 76 rfl) (by decide) ?_
    exact fg_vret (fg_ft (pc := 173) tb_Reader_keepNumber 84 rfl) rfl rfl (hQ _ (fun a j h => hfr a (by have := pz_r7 4 (by decide); omega) j) (hSH.cells (by decide) hfr))
theorem fk_Reader_232_8 : fg_KF "ForgetBread$Reader" 232 8 (.int (nI 1)) := ⟨_, List.mem_of_getElem? (l := fg_ofld) (i := 49) rfl, rfl, rfl, fg_tblIn 1731 (by decide +kernel) (by decide +kernel)⟩
theorem ev_Reader_keepNumberA_8 {E : fg_E} {d : Nat} {μ : Nat → Nat → Int32} {R : fg_T4} {Q : Option Value → fg_M → Prop} {i v : Nat} (hi : i < 2 ^ 30) (h10 : μ 255 10 = nI v) (hv : v ≤ 99) (hSH : pz_SH μ) (hQ : ∀ μ' : Nat → Nat → Int32, (∀ a j, (a < 256 ∨ 271 < a) → μ' a j = μ a j) → pz_SH μ' → Q none (μ', fg_rho R, 304)) : fg_Ev E yy_Reader_keepNumber (d + 4) [.ref 255, .ref 8, .int (nI i)] (μ, fg_rho R, 304) 304 Q := by
  refine fg_intro (by decide +kernel) (Nat.le_of_ble_eq_true rfl) (fg_okAs rfl) (Nat.le_refl _) ?_
  refine fg_aloadn (fg_ft (pc := 0) tb_Reader_keepNumber 0 rfl) rfl ?_
  refine fg_aloadn (fg_ft (pc := 1) tb_Reader_keepNumber 1 rfl) rfl ?_
  refine fg_callV (fg_ft (pc := 2) tb_Reader_keepNumber 2 rfl) cf_Reader_176 (fg_isOf ly_255 rfl (fg_lt ly_255 (by decide))) (as := [.ref 8]) (st := []) rfl rfl (Nat.le_of_ble_eq_true rfl) (Nat.le_refl _) (Nat.le_refl _) (ev_Reader_rowsOf_8 ?_)
  refine fg_astoren (fg_ft (pc := 5) tb_Reader_keepNumber 3 rfl) (Nat.le_of_ble_eq_true rfl) ?_
  refine fg_aloadn (fg_ft (pc := 6) tb_Reader_keepNumber 4 rfl) rfl ?_
  refine fg_gets (fg_ft (pc := 7) tb_Reader_keepNumber 5 rfl) fs_Reader_214 ?_
  refine fg_acmp_ne (tgt := 36) (fg_ft (pc := 10) tb_Reader_keepNumber 6 rfl) (by decide) (by decide) (by decide) (fun _ => ?_) (fun h => absurd h (by decide))
  refine fg_aloadn (fg_ft (pc := 36) tb_Reader_keepNumber 17 rfl) rfl ?_
  refine fg_gets (fg_ft (pc := 37) tb_Reader_keepNumber 18 rfl) fs_Reader_223 ?_
  refine fg_acmp_ne (tgt := 57) (fg_ft (pc := 40) tb_Reader_keepNumber 19 rfl) (by decide) (by decide) (by decide) (fun _ => ?_) (fun h => absurd h (by decide))
  refine fg_aloadn (fg_ft (pc := 57) tb_Reader_keepNumber 26 rfl) rfl ?_
  refine fg_ifnonnull (tgt := 62) (fg_ft (pc := 58) tb_Reader_keepNumber 27 rfl) (by decide) ?_
  refine fg_aloadn (fg_ft (pc := 62) tb_Reader_keepNumber 29 rfl) rfl ?_
  refine fg_gets (fg_ft (pc := 63) tb_Reader_keepNumber 30 rfl) fs_Reader_143 ?_
  refine fg_acmp_eq (tgt := 76) (fg_ft (pc := 66) tb_Reader_keepNumber 31 rfl) (by decide) (by decide) (by decide) (fun h => absurd h (by decide)) (fun _ => ?_)
  refine fg_aloadn (fg_ft (pc := 69) tb_Reader_keepNumber 32 rfl) rfl ?_
  refine fg_gets (fg_ft (pc := 70) tb_Reader_keepNumber 33 rfl) fs_Reader_146 ?_
  refine fg_acmp_ne (tgt := 107) (fg_ft (pc := 73) tb_Reader_keepNumber 34 rfl) (by decide) (by decide) (by decide) (fun _ => ?_) (fun h => absurd h (by decide))
  refine fg_aloadn (fg_ft (pc := 107) tb_Reader_keepNumber 50 rfl) rfl ?_
  refine fg_callV (fg_ft (pc := 108) tb_Reader_keepNumber 51 rfl) cf_Reader_117 (Or.inr (pz_isW (w := 8) (by decide))) (as := []) (st := []) rfl rfl (Nat.le_of_ble_eq_true rfl) (Nat.le_refl _) (Nat.le_refl _) (ev_Word_sort_8 ?_)
  refine fg_iconst (fg_ft (pc := 111) tb_Reader_keepNumber 52 rfl) ic_1 ?_
  refine fg_icmp_neN (tgt := 133) (fg_ft (pc := 112) tb_Reader_keepNumber 53 rfl) (by decide) (by decide) (by decide) (fun c112 => ?_) (fun c112 => (absurd c112 (by decide)))
  refine fg_aloadn (fg_ft (pc := 133) tb_Reader_keepNumber 64 rfl) rfl ?_
  refine fg_getK (fg_ft (pc := 134) tb_Reader_keepNumber 65 rfl) fk_Reader_232_8 ?_
  refine fg_if_eq (tgt := 160) (fg_ft (pc := 137) tb_Reader_keepNumber 66 rfl) (by decide) (fun h => absurd h (by decide)) (fun _ => ?_)
  refine fg_iloadn (fg_ft (pc := 140) tb_Reader_keepNumber 67 rfl) rfl ?_
  refine fg_if_leN (tgt := 160) (fg_ft (pc := 141) tb_Reader_keepNumber 68 rfl) (by decide) (by omega) (fun c141 => ?_) (fun c141 => ?_)
  · refine fg_aloadn (fg_ft (pc := 160) tb_Reader_keepNumber 77 rfl) rfl ?_
    refine fg_aloadn (fg_ft (pc := 161) tb_Reader_keepNumber 78 rfl) rfl ?_
    refine fg_getI (fg_ft (pc := 162) tb_Reader_keepNumber 79 rfl) ff_Reader_180 ly_255 rfl (fg_lt ly_255 (by decide)) ?_
    refine fg_iloadn (fg_ft (pc := 165) tb_Reader_keepNumber 80 rfl) rfl ?_
    refine fg_aloadn (fg_ft (pc := 166) tb_Reader_keepNumber 81 rfl) rfl ?_
    refine fg_getV (v := (nI v)) (fg_ft (pc := 167) tb_Reader_keepNumber 82 rfl) ff_Reader_207 ly_255 rfl (fg_lt ly_255 (by decide)) h10 ?_
    refine fg_callV (fg_ft (pc := 170) tb_Reader_keepNumber 83 rfl) cf_Reader_199 (fg_isOf ly_267 rfl (fg_lt ly_267 (by decide))) (as := [.int (μ 255 14), .int (nI i), .int (nI v)]) (st := []) rfl rfl (Nat.le_of_ble_eq_true rfl) (Nat.le_refl _) (Nat.le_refl _) (pz_putAny (t := 5) (by decide) hSH (x := (μ 255 14)) (y := (nI i)) (z := (nI v)) ?_)
    intro ν hfr
    show fg_wp _ _ _ _ _ _ _ _ _ (ν, fg_rho R, 304)
    exact fg_vret (fg_ft (pc := 173) tb_Reader_keepNumber 84 rfl) rfl rfl (hQ _ (fun a j h => hfr a (by have := pz_r7 5 (by decide); omega) j) (hSH.cells (by decide) hfr))
  · refine fg_aloadn (fg_ft (pc := 144) tb_Reader_keepNumber 69 rfl) rfl ?_
    refine fg_aloadn (fg_ft (pc := 145) tb_Reader_keepNumber 70 rfl) rfl ?_
    refine fg_getI (fg_ft (pc := 146) tb_Reader_keepNumber 71 rfl) ff_Reader_180 ly_255 rfl (fg_lt ly_255 (by decide)) ?_
    refine fg_iconst (fg_ft (pc := 149) tb_Reader_keepNumber 72 rfl) ic_1 ?_
    refine fg_aloadn (fg_ft (pc := 150) tb_Reader_keepNumber 73 rfl) rfl ?_
    refine fg_getV (v := (nI v)) (fg_ft (pc := 151) tb_Reader_keepNumber 74 rfl) ff_Reader_207 ly_255 rfl (fg_lt ly_255 (by decide)) h10 ?_
    refine fg_callV (fg_ft (pc := 154) tb_Reader_keepNumber 75 rfl) cf_Reader_229 (fg_isOf ly_267 rfl (fg_lt ly_267 (by decide))) (as := [.int (μ 255 14), .int (nI 1), .int (nI v)]) (st := []) rfl rfl (Nat.le_of_ble_eq_true rfl) (Nat.le_refl _) (Nat.le_refl _) (pz_putBitAny (t := 5) (by decide) hSH (x := (μ 255 14)) (y := (nI 1)) (z := (nI v)) ?_)
    intro ν hfr
    show fg_wp _ _ _ _ _ _ _ _ _ (ν, fg_rho R, 304)
    refine fg_goto (tgt := 173) (fg_ft (pc := 157) tb_Reader_keepNumber 76 rfl) (by decide) ?_
    exact fg_vret (fg_ft (pc := 173) tb_Reader_keepNumber 84 rfl) rfl rfl (hQ _ (fun a j h => hfr a (by have := pz_r7 5 (by decide); omega) j) (hSH.cells (by decide) hfr))
theorem ev_Reader_keepNumberA_9 {E : fg_E} {d : Nat} {μ : Nat → Nat → Int32} {R : fg_T4} {Q : Option Value → fg_M → Prop} {i v : Nat} (hi : i < 2 ^ 30) (h10 : μ 255 10 = nI v) (hv : v ≤ 99) (hSH : pz_SH μ) (hQ : ∀ μ' : Nat → Nat → Int32, (∀ a j, (a < 256 ∨ 271 < a) → μ' a j = μ a j) → pz_SH μ' → Q none (μ', fg_rho R, 304)) : fg_Ev E yy_Reader_keepNumber (d + 4) [.ref 255, .ref 9, .int (nI i)] (μ, fg_rho R, 304) 304 Q := by
  refine fg_intro (by decide +kernel) (Nat.le_of_ble_eq_true rfl) (fg_okAs rfl) (Nat.le_refl _) ?_
  refine fg_aloadn (fg_ft (pc := 0) tb_Reader_keepNumber 0 rfl) rfl ?_
  refine fg_aloadn (fg_ft (pc := 1) tb_Reader_keepNumber 1 rfl) rfl ?_
  refine fg_callV (fg_ft (pc := 2) tb_Reader_keepNumber 2 rfl) cf_Reader_176 (fg_isOf ly_255 rfl (fg_lt ly_255 (by decide))) (as := [.ref 9]) (st := []) rfl rfl (Nat.le_of_ble_eq_true rfl) (Nat.le_refl _) (Nat.le_refl _) (ev_Reader_rowsOf_9 ?_)
  refine fg_astorenN (fg_ft (pc := 5) tb_Reader_keepNumber 3 rfl) (Nat.le_of_ble_eq_true rfl) ?_
  refine fg_aloadn (fg_ft (pc := 6) tb_Reader_keepNumber 4 rfl) rfl ?_
  refine fg_gets (fg_ft (pc := 7) tb_Reader_keepNumber 5 rfl) fs_Reader_214 ?_
  refine fg_acmp_ne (tgt := 36) (fg_ft (pc := 10) tb_Reader_keepNumber 6 rfl) (by decide) (by decide) (by decide) (fun _ => ?_) (fun h => absurd h (by decide))
  refine fg_aloadn (fg_ft (pc := 36) tb_Reader_keepNumber 17 rfl) rfl ?_
  refine fg_gets (fg_ft (pc := 37) tb_Reader_keepNumber 18 rfl) fs_Reader_223 ?_
  refine fg_acmp_ne (tgt := 57) (fg_ft (pc := 40) tb_Reader_keepNumber 19 rfl) (by decide) (by decide) (by decide) (fun h => absurd rfl h) (fun _ => ?_)
  refine fg_aloadn (fg_ft (pc := 43) tb_Reader_keepNumber 20 rfl) rfl ?_
  refine fg_getR (fg_ft (pc := 44) tb_Reader_keepNumber 21 rfl) ff_Reader_12 ly_255 rfl (fg_lt ly_255 (by decide)) (rh_255_0 R) ?_
  refine fg_aloadn (fg_ft (pc := 47) tb_Reader_keepNumber 22 rfl) rfl ?_
  refine fg_getV (v := (nI v)) (fg_ft (pc := 48) tb_Reader_keepNumber 23 rfl) ff_Reader_207 ly_255 rfl (fg_lt ly_255 (by decide)) h10 ?_
  refine fg_putI (fg_ft (pc := 51) tb_Reader_keepNumber 24 rfl) ff_Reader_226 ly_256 rfl (fg_lt ly_256 (by decide)) (fg_nokI _) (fun _ _ h => by cases h; rfl) ?_
  show fg_wp _ _ _ _ _ _ _ _ _ (fg_u2 μ 256 1 (nI v), fg_rho R, 304)
  refine fg_goto (tgt := 173) (fg_ft (pc := 54) tb_Reader_keepNumber 25 rfl) (by decide) ?_
  exact fg_vret (fg_ft (pc := 173) tb_Reader_keepNumber 84 rfl) rfl rfl (hQ _ (fun a j h => fg_u2nx (by omega)) (hSH.put256))
theorem ev_Reader_keepNumberA_10 {E : fg_E} {d : Nat} {μ : Nat → Nat → Int32} {R : fg_T4} {Q : Option Value → fg_M → Prop} {i v : Nat} (hi : i < 2 ^ 30) (h10 : μ 255 10 = nI v) (hv : v ≤ 99) (hSH : pz_SH μ) (hQ : ∀ μ' : Nat → Nat → Int32, (∀ a j, (a < 256 ∨ 271 < a) → μ' a j = μ a j) → pz_SH μ' → Q none (μ', fg_rho R, 304)) : fg_Ev E yy_Reader_keepNumber (d + 4) [.ref 255, .ref 10, .int (nI i)] (μ, fg_rho R, 304) 304 Q := by
  refine fg_intro (by decide +kernel) (Nat.le_of_ble_eq_true rfl) (fg_okAs rfl) (Nat.le_refl _) ?_
  refine fg_aloadn (fg_ft (pc := 0) tb_Reader_keepNumber 0 rfl) rfl ?_
  refine fg_aloadn (fg_ft (pc := 1) tb_Reader_keepNumber 1 rfl) rfl ?_
  refine fg_callV (fg_ft (pc := 2) tb_Reader_keepNumber 2 rfl) cf_Reader_176 (fg_isOf ly_255 rfl (fg_lt ly_255 (by decide))) (as := [.ref 10]) (st := []) rfl rfl (Nat.le_of_ble_eq_true rfl) (Nat.le_refl _) (Nat.le_refl _) (ev_Reader_rowsOf_10 ?_)
  refine fg_astoren (fg_ft (pc := 5) tb_Reader_keepNumber 3 rfl) (Nat.le_of_ble_eq_true rfl) ?_
  refine fg_aloadn (fg_ft (pc := 6) tb_Reader_keepNumber 4 rfl) rfl ?_
  refine fg_gets (fg_ft (pc := 7) tb_Reader_keepNumber 5 rfl) fs_Reader_214 ?_
  refine fg_acmp_ne (tgt := 36) (fg_ft (pc := 10) tb_Reader_keepNumber 6 rfl) (by decide) (by decide) (by decide) (fun _ => ?_) (fun h => absurd h (by decide))
  refine fg_aloadn (fg_ft (pc := 36) tb_Reader_keepNumber 17 rfl) rfl ?_
  refine fg_gets (fg_ft (pc := 37) tb_Reader_keepNumber 18 rfl) fs_Reader_223 ?_
  refine fg_acmp_ne (tgt := 57) (fg_ft (pc := 40) tb_Reader_keepNumber 19 rfl) (by decide) (by decide) (by decide) (fun _ => ?_) (fun h => absurd h (by decide))
  refine fg_aloadn (fg_ft (pc := 57) tb_Reader_keepNumber 26 rfl) rfl ?_
  refine fg_ifnonnull (tgt := 62) (fg_ft (pc := 58) tb_Reader_keepNumber 27 rfl) (by decide) ?_
  refine fg_aloadn (fg_ft (pc := 62) tb_Reader_keepNumber 29 rfl) rfl ?_
  refine fg_gets (fg_ft (pc := 63) tb_Reader_keepNumber 30 rfl) fs_Reader_143 ?_
  refine fg_acmp_eq (tgt := 76) (fg_ft (pc := 66) tb_Reader_keepNumber 31 rfl) (by decide) (by decide) (by decide) (fun h => absurd h (by decide)) (fun _ => ?_)
  refine fg_aloadn (fg_ft (pc := 69) tb_Reader_keepNumber 32 rfl) rfl ?_
  refine fg_gets (fg_ft (pc := 70) tb_Reader_keepNumber 33 rfl) fs_Reader_146 ?_
  refine fg_acmp_ne (tgt := 107) (fg_ft (pc := 73) tb_Reader_keepNumber 34 rfl) (by decide) (by decide) (by decide) (fun _ => ?_) (fun h => absurd h (by decide))
  refine fg_aloadn (fg_ft (pc := 107) tb_Reader_keepNumber 50 rfl) rfl ?_
  refine fg_callV (fg_ft (pc := 108) tb_Reader_keepNumber 51 rfl) cf_Reader_117 (Or.inr (pz_isW (w := 10) (by decide))) (as := []) (st := []) rfl rfl (Nat.le_of_ble_eq_true rfl) (Nat.le_refl _) (Nat.le_refl _) (ev_Word_sort_10 ?_)
  refine fg_iconst (fg_ft (pc := 111) tb_Reader_keepNumber 52 rfl) ic_1 ?_
  refine fg_icmp_neN (tgt := 133) (fg_ft (pc := 112) tb_Reader_keepNumber 53 rfl) (by decide) (by decide) (by decide) (fun c112 => (absurd rfl c112)) (fun c112 => ?_)
  refine fg_aloadn (fg_ft (pc := 115) tb_Reader_keepNumber 54 rfl) rfl ?_
  refine fg_aloadn (fg_ft (pc := 116) tb_Reader_keepNumber 55 rfl) rfl ?_
  refine fg_getI (fg_ft (pc := 117) tb_Reader_keepNumber 56 rfl) ff_Reader_180 ly_255 rfl (fg_lt ly_255 (by decide)) ?_
  refine fg_iloadn (fg_ft (pc := 120) tb_Reader_keepNumber 57 rfl) rfl ?_
  refine fg_iconst (fg_ft (pc := 121) tb_Reader_keepNumber 58 rfl) ic_1 ?_
  refine fg_iadd (fg_ft (pc := 122) tb_Reader_keepNumber 59 rfl) ?_
  refine fg_aloadn (fg_ft (pc := 123) tb_Reader_keepNumber 60 rfl) rfl ?_
  refine fg_getV (v := (nI v)) (fg_ft (pc := 124) tb_Reader_keepNumber 61 rfl) ff_Reader_207 ly_255 rfl (fg_lt ly_255 (by decide)) h10 ?_
  refine fg_callV (fg_ft (pc := 127) tb_Reader_keepNumber 62 rfl) cf_Reader_199 (fg_isOf ly_270 rfl (fg_lt ly_270 (by decide))) (as := [.int (μ 255 14), .int ((nI i) + (nI 1)), .int (nI v)]) (st := []) rfl rfl (Nat.le_of_ble_eq_true rfl) (Nat.le_refl _) (Nat.le_refl _) (pz_putAny (t := 6) (by decide) hSH (x := (μ 255 14)) (y := ((nI i) + (nI 1))) (z := (nI v)) ?_)
  intro ν hfr
  show fg_wp _ _ _ _ _ _ _ _ _ (ν, fg_rho R, 304)
  refine fg_goto (tgt := 173) (fg_ft (pc := 130) tb_Reader_keepNumber 63 rfl) (by decide) ?_
  exact fg_vret (fg_ft (pc := 173) tb_Reader_keepNumber 84 rfl) rfl rfl (hQ _ (fun a j h => hfr a (by have := pz_r7 6 (by decide); omega) j) (hSH.cells (by decide) hfr))
theorem ev_Reader_keepNumberA_11 {E : fg_E} {d : Nat} {μ : Nat → Nat → Int32} {R : fg_T4} {Q : Option Value → fg_M → Prop} {i v : Nat} (hi : i < 2 ^ 30) (h10 : μ 255 10 = nI v) (hv : v ≤ 99) (hSH : pz_SH μ) (hQ : ∀ μ' : Nat → Nat → Int32, (∀ a j, (a < 256 ∨ 271 < a) → μ' a j = μ a j) → pz_SH μ' → Q none (μ', fg_rho R, 304)) : fg_Ev E yy_Reader_keepNumber (d + 4) [.ref 255, .ref 11, .int (nI i)] (μ, fg_rho R, 304) 304 Q := by
  refine fg_intro (by decide +kernel) (Nat.le_of_ble_eq_true rfl) (fg_okAs rfl) (Nat.le_refl _) ?_
  refine fg_aloadn (fg_ft (pc := 0) tb_Reader_keepNumber 0 rfl) rfl ?_
  refine fg_aloadn (fg_ft (pc := 1) tb_Reader_keepNumber 1 rfl) rfl ?_
  refine fg_callV (fg_ft (pc := 2) tb_Reader_keepNumber 2 rfl) cf_Reader_176 (fg_isOf ly_255 rfl (fg_lt ly_255 (by decide))) (as := [.ref 11]) (st := []) rfl rfl (Nat.le_of_ble_eq_true rfl) (Nat.le_refl _) (Nat.le_refl _) (ev_Reader_rowsOf_11 ?_)
  refine fg_astoren (fg_ft (pc := 5) tb_Reader_keepNumber 3 rfl) (Nat.le_of_ble_eq_true rfl) ?_
  refine fg_aloadn (fg_ft (pc := 6) tb_Reader_keepNumber 4 rfl) rfl ?_
  refine fg_gets (fg_ft (pc := 7) tb_Reader_keepNumber 5 rfl) fs_Reader_214 ?_
  refine fg_acmp_ne (tgt := 36) (fg_ft (pc := 10) tb_Reader_keepNumber 6 rfl) (by decide) (by decide) (by decide) (fun _ => ?_) (fun h => absurd h (by decide))
  refine fg_aloadn (fg_ft (pc := 36) tb_Reader_keepNumber 17 rfl) rfl ?_
  refine fg_gets (fg_ft (pc := 37) tb_Reader_keepNumber 18 rfl) fs_Reader_223 ?_
  refine fg_acmp_ne (tgt := 57) (fg_ft (pc := 40) tb_Reader_keepNumber 19 rfl) (by decide) (by decide) (by decide) (fun _ => ?_) (fun h => absurd h (by decide))
  refine fg_aloadn (fg_ft (pc := 57) tb_Reader_keepNumber 26 rfl) rfl ?_
  refine fg_ifnonnull (tgt := 62) (fg_ft (pc := 58) tb_Reader_keepNumber 27 rfl) (by decide) ?_
  refine fg_aloadn (fg_ft (pc := 62) tb_Reader_keepNumber 29 rfl) rfl ?_
  refine fg_gets (fg_ft (pc := 63) tb_Reader_keepNumber 30 rfl) fs_Reader_143 ?_
  refine fg_acmp_eq (tgt := 76) (fg_ft (pc := 66) tb_Reader_keepNumber 31 rfl) (by decide) (by decide) (by decide) (fun h => absurd h (by decide)) (fun _ => ?_)
  refine fg_aloadn (fg_ft (pc := 69) tb_Reader_keepNumber 32 rfl) rfl ?_
  refine fg_gets (fg_ft (pc := 70) tb_Reader_keepNumber 33 rfl) fs_Reader_146 ?_
  refine fg_acmp_ne (tgt := 107) (fg_ft (pc := 73) tb_Reader_keepNumber 34 rfl) (by decide) (by decide) (by decide) (fun _ => ?_) (fun h => absurd h (by decide))
  refine fg_aloadn (fg_ft (pc := 107) tb_Reader_keepNumber 50 rfl) rfl ?_
  refine fg_callV (fg_ft (pc := 108) tb_Reader_keepNumber 51 rfl) cf_Reader_117 (Or.inr (pz_isW (w := 11) (by decide))) (as := []) (st := []) rfl rfl (Nat.le_of_ble_eq_true rfl) (Nat.le_refl _) (Nat.le_refl _) (ev_Word_sort_11 ?_)
  refine fg_iconst (fg_ft (pc := 111) tb_Reader_keepNumber 52 rfl) ic_1 ?_
  refine fg_icmp_neN (tgt := 133) (fg_ft (pc := 112) tb_Reader_keepNumber 53 rfl) (by decide) (by decide) (by decide) (fun c112 => (absurd rfl c112)) (fun c112 => ?_)
  refine fg_aloadn (fg_ft (pc := 115) tb_Reader_keepNumber 54 rfl) rfl ?_
  refine fg_aloadn (fg_ft (pc := 116) tb_Reader_keepNumber 55 rfl) rfl ?_
  refine fg_getI (fg_ft (pc := 117) tb_Reader_keepNumber 56 rfl) ff_Reader_180 ly_255 rfl (fg_lt ly_255 (by decide)) ?_
  refine fg_iloadn (fg_ft (pc := 120) tb_Reader_keepNumber 57 rfl) rfl ?_
  refine fg_iconst (fg_ft (pc := 121) tb_Reader_keepNumber 58 rfl) ic_1 ?_
  refine fg_iadd (fg_ft (pc := 122) tb_Reader_keepNumber 59 rfl) ?_
  refine fg_aloadn (fg_ft (pc := 123) tb_Reader_keepNumber 60 rfl) rfl ?_
  refine fg_getV (v := (nI v)) (fg_ft (pc := 124) tb_Reader_keepNumber 61 rfl) ff_Reader_207 ly_255 rfl (fg_lt ly_255 (by decide)) h10 ?_
  refine fg_callV (fg_ft (pc := 127) tb_Reader_keepNumber 62 rfl) cf_Reader_199 (fg_isOf ly_270 rfl (fg_lt ly_270 (by decide))) (as := [.int (μ 255 14), .int ((nI i) + (nI 1)), .int (nI v)]) (st := []) rfl rfl (Nat.le_of_ble_eq_true rfl) (Nat.le_refl _) (Nat.le_refl _) (pz_putAny (t := 6) (by decide) hSH (x := (μ 255 14)) (y := ((nI i) + (nI 1))) (z := (nI v)) ?_)
  intro ν hfr
  show fg_wp _ _ _ _ _ _ _ _ _ (ν, fg_rho R, 304)
  refine fg_goto (tgt := 173) (fg_ft (pc := 130) tb_Reader_keepNumber 63 rfl) (by decide) ?_
  exact fg_vret (fg_ft (pc := 173) tb_Reader_keepNumber 84 rfl) rfl rfl (hQ _ (fun a j h => hfr a (by have := pz_r7 6 (by decide); omega) j) (hSH.cells (by decide) hfr))
theorem ev_Reader_keepNumberA_12 {E : fg_E} {d : Nat} {μ : Nat → Nat → Int32} {R : fg_T4} {Q : Option Value → fg_M → Prop} {i v : Nat} (hi : i < 2 ^ 30) (h10 : μ 255 10 = nI v) (hv : v ≤ 99) (hSH : pz_SH μ) (hQ : ∀ μ' : Nat → Nat → Int32, (∀ a j, (a < 256 ∨ 271 < a) → μ' a j = μ a j) → pz_SH μ' → Q none (μ', fg_rho R, 304)) : fg_Ev E yy_Reader_keepNumber (d + 4) [.ref 255, .ref 12, .int (nI i)] (μ, fg_rho R, 304) 304 Q := by
  refine fg_intro (by decide +kernel) (Nat.le_of_ble_eq_true rfl) (fg_okAs rfl) (Nat.le_refl _) ?_
  refine fg_aloadn (fg_ft (pc := 0) tb_Reader_keepNumber 0 rfl) rfl ?_
  refine fg_aloadn (fg_ft (pc := 1) tb_Reader_keepNumber 1 rfl) rfl ?_
  refine fg_callV (fg_ft (pc := 2) tb_Reader_keepNumber 2 rfl) cf_Reader_176 (fg_isOf ly_255 rfl (fg_lt ly_255 (by decide))) (as := [.ref 12]) (st := []) rfl rfl (Nat.le_of_ble_eq_true rfl) (Nat.le_refl _) (Nat.le_refl _) (ev_Reader_rowsOf_12 ?_)
  refine fg_astoren (fg_ft (pc := 5) tb_Reader_keepNumber 3 rfl) (Nat.le_of_ble_eq_true rfl) ?_
  refine fg_aloadn (fg_ft (pc := 6) tb_Reader_keepNumber 4 rfl) rfl ?_
  refine fg_gets (fg_ft (pc := 7) tb_Reader_keepNumber 5 rfl) fs_Reader_214 ?_
  refine fg_acmp_ne (tgt := 36) (fg_ft (pc := 10) tb_Reader_keepNumber 6 rfl) (by decide) (by decide) (by decide) (fun _ => ?_) (fun h => absurd h (by decide))
  refine fg_aloadn (fg_ft (pc := 36) tb_Reader_keepNumber 17 rfl) rfl ?_
  refine fg_gets (fg_ft (pc := 37) tb_Reader_keepNumber 18 rfl) fs_Reader_223 ?_
  refine fg_acmp_ne (tgt := 57) (fg_ft (pc := 40) tb_Reader_keepNumber 19 rfl) (by decide) (by decide) (by decide) (fun _ => ?_) (fun h => absurd h (by decide))
  refine fg_aloadn (fg_ft (pc := 57) tb_Reader_keepNumber 26 rfl) rfl ?_
  refine fg_ifnonnull (tgt := 62) (fg_ft (pc := 58) tb_Reader_keepNumber 27 rfl) (by decide) ?_
  refine fg_aloadn (fg_ft (pc := 62) tb_Reader_keepNumber 29 rfl) rfl ?_
  refine fg_gets (fg_ft (pc := 63) tb_Reader_keepNumber 30 rfl) fs_Reader_143 ?_
  refine fg_acmp_eq (tgt := 76) (fg_ft (pc := 66) tb_Reader_keepNumber 31 rfl) (by decide) (by decide) (by decide) (fun h => absurd h (by decide)) (fun _ => ?_)
  refine fg_aloadn (fg_ft (pc := 69) tb_Reader_keepNumber 32 rfl) rfl ?_
  refine fg_gets (fg_ft (pc := 70) tb_Reader_keepNumber 33 rfl) fs_Reader_146 ?_
  refine fg_acmp_ne (tgt := 107) (fg_ft (pc := 73) tb_Reader_keepNumber 34 rfl) (by decide) (by decide) (by decide) (fun _ => ?_) (fun h => absurd h (by decide))
  refine fg_aloadn (fg_ft (pc := 107) tb_Reader_keepNumber 50 rfl) rfl ?_
  refine fg_callV (fg_ft (pc := 108) tb_Reader_keepNumber 51 rfl) cf_Reader_117 (Or.inr (pz_isW (w := 12) (by decide))) (as := []) (st := []) rfl rfl (Nat.le_of_ble_eq_true rfl) (Nat.le_refl _) (Nat.le_refl _) (ev_Word_sort_12 ?_)
  refine fg_iconst (fg_ft (pc := 111) tb_Reader_keepNumber 52 rfl) ic_1 ?_
  refine fg_icmp_neN (tgt := 133) (fg_ft (pc := 112) tb_Reader_keepNumber 53 rfl) (by decide) (by decide) (by decide) (fun c112 => (absurd rfl c112)) (fun c112 => ?_)
  refine fg_aloadn (fg_ft (pc := 115) tb_Reader_keepNumber 54 rfl) rfl ?_
  refine fg_aloadn (fg_ft (pc := 116) tb_Reader_keepNumber 55 rfl) rfl ?_
  refine fg_getI (fg_ft (pc := 117) tb_Reader_keepNumber 56 rfl) ff_Reader_180 ly_255 rfl (fg_lt ly_255 (by decide)) ?_
  refine fg_iloadn (fg_ft (pc := 120) tb_Reader_keepNumber 57 rfl) rfl ?_
  refine fg_iconst (fg_ft (pc := 121) tb_Reader_keepNumber 58 rfl) ic_1 ?_
  refine fg_iadd (fg_ft (pc := 122) tb_Reader_keepNumber 59 rfl) ?_
  refine fg_aloadn (fg_ft (pc := 123) tb_Reader_keepNumber 60 rfl) rfl ?_
  refine fg_getV (v := (nI v)) (fg_ft (pc := 124) tb_Reader_keepNumber 61 rfl) ff_Reader_207 ly_255 rfl (fg_lt ly_255 (by decide)) h10 ?_
  refine fg_callV (fg_ft (pc := 127) tb_Reader_keepNumber 62 rfl) cf_Reader_199 (fg_isOf ly_270 rfl (fg_lt ly_270 (by decide))) (as := [.int (μ 255 14), .int ((nI i) + (nI 1)), .int (nI v)]) (st := []) rfl rfl (Nat.le_of_ble_eq_true rfl) (Nat.le_refl _) (Nat.le_refl _) (pz_putAny (t := 6) (by decide) hSH (x := (μ 255 14)) (y := ((nI i) + (nI 1))) (z := (nI v)) ?_)
  intro ν hfr
  show fg_wp _ _ _ _ _ _ _ _ _ (ν, fg_rho R, 304)
  refine fg_goto (tgt := 173) (fg_ft (pc := 130) tb_Reader_keepNumber 63 rfl) (by decide) ?_
  exact fg_vret (fg_ft (pc := 173) tb_Reader_keepNumber 84 rfl) rfl rfl (hQ _ (fun a j h => hfr a (by have := pz_r7 6 (by decide); omega) j) (hSH.cells (by decide) hfr))
theorem ev_Reader_keepNumberA_13 {E : fg_E} {d : Nat} {μ : Nat → Nat → Int32} {R : fg_T4} {Q : Option Value → fg_M → Prop} {i v : Nat} (hi : i < 2 ^ 30) (h10 : μ 255 10 = nI v) (hv : v ≤ 99) (hSH : pz_SH μ) (hQ : ∀ μ' : Nat → Nat → Int32, (∀ a j, (a < 256 ∨ 271 < a) → μ' a j = μ a j) → pz_SH μ' → Q none (μ', fg_rho R, 304)) : fg_Ev E yy_Reader_keepNumber (d + 4) [.ref 255, .ref 13, .int (nI i)] (μ, fg_rho R, 304) 304 Q := by
  refine fg_intro (by decide +kernel) (Nat.le_of_ble_eq_true rfl) (fg_okAs rfl) (Nat.le_refl _) ?_
  refine fg_aloadn (fg_ft (pc := 0) tb_Reader_keepNumber 0 rfl) rfl ?_
  refine fg_aloadn (fg_ft (pc := 1) tb_Reader_keepNumber 1 rfl) rfl ?_
  refine fg_callV (fg_ft (pc := 2) tb_Reader_keepNumber 2 rfl) cf_Reader_176 (fg_isOf ly_255 rfl (fg_lt ly_255 (by decide))) (as := [.ref 13]) (st := []) rfl rfl (Nat.le_of_ble_eq_true rfl) (Nat.le_refl _) (Nat.le_refl _) (ev_Reader_rowsOf_13 ?_)
  refine fg_astoren (fg_ft (pc := 5) tb_Reader_keepNumber 3 rfl) (Nat.le_of_ble_eq_true rfl) ?_
  refine fg_aloadn (fg_ft (pc := 6) tb_Reader_keepNumber 4 rfl) rfl ?_
  refine fg_gets (fg_ft (pc := 7) tb_Reader_keepNumber 5 rfl) fs_Reader_214 ?_
  refine fg_acmp_ne (tgt := 36) (fg_ft (pc := 10) tb_Reader_keepNumber 6 rfl) (by decide) (by decide) (by decide) (fun _ => ?_) (fun h => absurd h (by decide))
  refine fg_aloadn (fg_ft (pc := 36) tb_Reader_keepNumber 17 rfl) rfl ?_
  refine fg_gets (fg_ft (pc := 37) tb_Reader_keepNumber 18 rfl) fs_Reader_223 ?_
  refine fg_acmp_ne (tgt := 57) (fg_ft (pc := 40) tb_Reader_keepNumber 19 rfl) (by decide) (by decide) (by decide) (fun _ => ?_) (fun h => absurd h (by decide))
  refine fg_aloadn (fg_ft (pc := 57) tb_Reader_keepNumber 26 rfl) rfl ?_
  refine fg_ifnonnull (tgt := 62) (fg_ft (pc := 58) tb_Reader_keepNumber 27 rfl) (by decide) ?_
  refine fg_aloadn (fg_ft (pc := 62) tb_Reader_keepNumber 29 rfl) rfl ?_
  refine fg_gets (fg_ft (pc := 63) tb_Reader_keepNumber 30 rfl) fs_Reader_143 ?_
  refine fg_acmp_eq (tgt := 76) (fg_ft (pc := 66) tb_Reader_keepNumber 31 rfl) (by decide) (by decide) (by decide) (fun h => absurd h (by decide)) (fun _ => ?_)
  refine fg_aloadn (fg_ft (pc := 69) tb_Reader_keepNumber 32 rfl) rfl ?_
  refine fg_gets (fg_ft (pc := 70) tb_Reader_keepNumber 33 rfl) fs_Reader_146 ?_
  refine fg_acmp_ne (tgt := 107) (fg_ft (pc := 73) tb_Reader_keepNumber 34 rfl) (by decide) (by decide) (by decide) (fun _ => ?_) (fun h => absurd h (by decide))
  refine fg_aloadn (fg_ft (pc := 107) tb_Reader_keepNumber 50 rfl) rfl ?_
  refine fg_callV (fg_ft (pc := 108) tb_Reader_keepNumber 51 rfl) cf_Reader_117 (Or.inr (pz_isW (w := 13) (by decide))) (as := []) (st := []) rfl rfl (Nat.le_of_ble_eq_true rfl) (Nat.le_refl _) (Nat.le_refl _) (ev_Word_sort_13 ?_)
  refine fg_iconst (fg_ft (pc := 111) tb_Reader_keepNumber 52 rfl) ic_1 ?_
  refine fg_icmp_neN (tgt := 133) (fg_ft (pc := 112) tb_Reader_keepNumber 53 rfl) (by decide) (by decide) (by decide) (fun c112 => (absurd rfl c112)) (fun c112 => ?_)
  refine fg_aloadn (fg_ft (pc := 115) tb_Reader_keepNumber 54 rfl) rfl ?_
  refine fg_aloadn (fg_ft (pc := 116) tb_Reader_keepNumber 55 rfl) rfl ?_
  refine fg_getI (fg_ft (pc := 117) tb_Reader_keepNumber 56 rfl) ff_Reader_180 ly_255 rfl (fg_lt ly_255 (by decide)) ?_
  refine fg_iloadn (fg_ft (pc := 120) tb_Reader_keepNumber 57 rfl) rfl ?_
  refine fg_iconst (fg_ft (pc := 121) tb_Reader_keepNumber 58 rfl) ic_1 ?_
  refine fg_iadd (fg_ft (pc := 122) tb_Reader_keepNumber 59 rfl) ?_
  refine fg_aloadn (fg_ft (pc := 123) tb_Reader_keepNumber 60 rfl) rfl ?_
  refine fg_getV (v := (nI v)) (fg_ft (pc := 124) tb_Reader_keepNumber 61 rfl) ff_Reader_207 ly_255 rfl (fg_lt ly_255 (by decide)) h10 ?_
  refine fg_callV (fg_ft (pc := 127) tb_Reader_keepNumber 62 rfl) cf_Reader_199 (fg_isOf ly_270 rfl (fg_lt ly_270 (by decide))) (as := [.int (μ 255 14), .int ((nI i) + (nI 1)), .int (nI v)]) (st := []) rfl rfl (Nat.le_of_ble_eq_true rfl) (Nat.le_refl _) (Nat.le_refl _) (pz_putAny (t := 6) (by decide) hSH (x := (μ 255 14)) (y := ((nI i) + (nI 1))) (z := (nI v)) ?_)
  intro ν hfr
  show fg_wp _ _ _ _ _ _ _ _ _ (ν, fg_rho R, 304)
  refine fg_goto (tgt := 173) (fg_ft (pc := 130) tb_Reader_keepNumber 63 rfl) (by decide) ?_
  exact fg_vret (fg_ft (pc := 173) tb_Reader_keepNumber 84 rfl) rfl rfl (hQ _ (fun a j h => hfr a (by have := pz_r7 6 (by decide); omega) j) (hSH.cells (by decide) hfr))
theorem ev_Reader_keepNumberA_14 {E : fg_E} {d : Nat} {μ : Nat → Nat → Int32} {R : fg_T4} {Q : Option Value → fg_M → Prop} {i v : Nat} (hi : i < 2 ^ 30) (h10 : μ 255 10 = nI v) (hv : v ≤ 99) (hSH : pz_SH μ) (hQ : ∀ μ' : Nat → Nat → Int32, (∀ a j, (a < 256 ∨ 271 < a) → μ' a j = μ a j) → pz_SH μ' → Q none (μ', fg_rho R, 304)) : fg_Ev E yy_Reader_keepNumber (d + 4) [.ref 255, .ref 14, .int (nI i)] (μ, fg_rho R, 304) 304 Q := by
  refine fg_intro (by decide +kernel) (Nat.le_of_ble_eq_true rfl) (fg_okAs rfl) (Nat.le_refl _) ?_
  refine fg_aloadn (fg_ft (pc := 0) tb_Reader_keepNumber 0 rfl) rfl ?_
  refine fg_aloadn (fg_ft (pc := 1) tb_Reader_keepNumber 1 rfl) rfl ?_
  refine fg_callV (fg_ft (pc := 2) tb_Reader_keepNumber 2 rfl) cf_Reader_176 (fg_isOf ly_255 rfl (fg_lt ly_255 (by decide))) (as := [.ref 14]) (st := []) rfl rfl (Nat.le_of_ble_eq_true rfl) (Nat.le_refl _) (Nat.le_refl _) (ev_Reader_rowsOf_14 ?_)
  refine fg_astoren (fg_ft (pc := 5) tb_Reader_keepNumber 3 rfl) (Nat.le_of_ble_eq_true rfl) ?_
  refine fg_aloadn (fg_ft (pc := 6) tb_Reader_keepNumber 4 rfl) rfl ?_
  refine fg_gets (fg_ft (pc := 7) tb_Reader_keepNumber 5 rfl) fs_Reader_214 ?_
  refine fg_acmp_ne (tgt := 36) (fg_ft (pc := 10) tb_Reader_keepNumber 6 rfl) (by decide) (by decide) (by decide) (fun _ => ?_) (fun h => absurd h (by decide))
  refine fg_aloadn (fg_ft (pc := 36) tb_Reader_keepNumber 17 rfl) rfl ?_
  refine fg_gets (fg_ft (pc := 37) tb_Reader_keepNumber 18 rfl) fs_Reader_223 ?_
  refine fg_acmp_ne (tgt := 57) (fg_ft (pc := 40) tb_Reader_keepNumber 19 rfl) (by decide) (by decide) (by decide) (fun _ => ?_) (fun h => absurd h (by decide))
  refine fg_aloadn (fg_ft (pc := 57) tb_Reader_keepNumber 26 rfl) rfl ?_
  refine fg_ifnonnull (tgt := 62) (fg_ft (pc := 58) tb_Reader_keepNumber 27 rfl) (by decide) ?_
  refine fg_aloadn (fg_ft (pc := 62) tb_Reader_keepNumber 29 rfl) rfl ?_
  refine fg_gets (fg_ft (pc := 63) tb_Reader_keepNumber 30 rfl) fs_Reader_143 ?_
  refine fg_acmp_eq (tgt := 76) (fg_ft (pc := 66) tb_Reader_keepNumber 31 rfl) (by decide) (by decide) (by decide) (fun h => absurd h (by decide)) (fun _ => ?_)
  refine fg_aloadn (fg_ft (pc := 69) tb_Reader_keepNumber 32 rfl) rfl ?_
  refine fg_gets (fg_ft (pc := 70) tb_Reader_keepNumber 33 rfl) fs_Reader_146 ?_
  refine fg_acmp_ne (tgt := 107) (fg_ft (pc := 73) tb_Reader_keepNumber 34 rfl) (by decide) (by decide) (by decide) (fun _ => ?_) (fun h => absurd h (by decide))
  refine fg_aloadn (fg_ft (pc := 107) tb_Reader_keepNumber 50 rfl) rfl ?_
  refine fg_callV (fg_ft (pc := 108) tb_Reader_keepNumber 51 rfl) cf_Reader_117 (Or.inr (pz_isW (w := 14) (by decide))) (as := []) (st := []) rfl rfl (Nat.le_of_ble_eq_true rfl) (Nat.le_refl _) (Nat.le_refl _) (ev_Word_sort_14 ?_)
  refine fg_iconst (fg_ft (pc := 111) tb_Reader_keepNumber 52 rfl) ic_1 ?_
  refine fg_icmp_neN (tgt := 133) (fg_ft (pc := 112) tb_Reader_keepNumber 53 rfl) (by decide) (by decide) (by decide) (fun c112 => (absurd rfl c112)) (fun c112 => ?_)
  refine fg_aloadn (fg_ft (pc := 115) tb_Reader_keepNumber 54 rfl) rfl ?_
  refine fg_aloadn (fg_ft (pc := 116) tb_Reader_keepNumber 55 rfl) rfl ?_
  refine fg_getI (fg_ft (pc := 117) tb_Reader_keepNumber 56 rfl) ff_Reader_180 ly_255 rfl (fg_lt ly_255 (by decide)) ?_
  refine fg_iloadn (fg_ft (pc := 120) tb_Reader_keepNumber 57 rfl) rfl ?_
  refine fg_iconst (fg_ft (pc := 121) tb_Reader_keepNumber 58 rfl) ic_1 ?_
  refine fg_iadd (fg_ft (pc := 122) tb_Reader_keepNumber 59 rfl) ?_
  refine fg_aloadn (fg_ft (pc := 123) tb_Reader_keepNumber 60 rfl) rfl ?_
  refine fg_getV (v := (nI v)) (fg_ft (pc := 124) tb_Reader_keepNumber 61 rfl) ff_Reader_207 ly_255 rfl (fg_lt ly_255 (by decide)) h10 ?_
  refine fg_callV (fg_ft (pc := 127) tb_Reader_keepNumber 62 rfl) cf_Reader_199 (fg_isOf ly_270 rfl (fg_lt ly_270 (by decide))) (as := [.int (μ 255 14), .int ((nI i) + (nI 1)), .int (nI v)]) (st := []) rfl rfl (Nat.le_of_ble_eq_true rfl) (Nat.le_refl _) (Nat.le_refl _) (pz_putAny (t := 6) (by decide) hSH (x := (μ 255 14)) (y := ((nI i) + (nI 1))) (z := (nI v)) ?_)
  intro ν hfr
  show fg_wp _ _ _ _ _ _ _ _ _ (ν, fg_rho R, 304)
  refine fg_goto (tgt := 173) (fg_ft (pc := 130) tb_Reader_keepNumber 63 rfl) (by decide) ?_
  exact fg_vret (fg_ft (pc := 173) tb_Reader_keepNumber 84 rfl) rfl rfl (hQ _ (fun a j h => hfr a (by have := pz_r7 6 (by decide); omega) j) (hSH.cells (by decide) hfr))
theorem ev_Reader_keepNumberA_15 {E : fg_E} {d : Nat} {μ : Nat → Nat → Int32} {R : fg_T4} {Q : Option Value → fg_M → Prop} {i v : Nat} (hi : i < 2 ^ 30) (h10 : μ 255 10 = nI v) (hv : v ≤ 99) (hSH : pz_SH μ) (hQ : ∀ μ' : Nat → Nat → Int32, (∀ a j, (a < 256 ∨ 271 < a) → μ' a j = μ a j) → pz_SH μ' → Q none (μ', fg_rho R, 304)) : fg_Ev E yy_Reader_keepNumber (d + 4) [.ref 255, .ref 15, .int (nI i)] (μ, fg_rho R, 304) 304 Q := by
  refine fg_intro (by decide +kernel) (Nat.le_of_ble_eq_true rfl) (fg_okAs rfl) (Nat.le_refl _) ?_
  refine fg_aloadn (fg_ft (pc := 0) tb_Reader_keepNumber 0 rfl) rfl ?_
  refine fg_aloadn (fg_ft (pc := 1) tb_Reader_keepNumber 1 rfl) rfl ?_
  refine fg_callV (fg_ft (pc := 2) tb_Reader_keepNumber 2 rfl) cf_Reader_176 (fg_isOf ly_255 rfl (fg_lt ly_255 (by decide))) (as := [.ref 15]) (st := []) rfl rfl (Nat.le_of_ble_eq_true rfl) (Nat.le_refl _) (Nat.le_refl _) (ev_Reader_rowsOf_15 ?_)
  refine fg_astoren (fg_ft (pc := 5) tb_Reader_keepNumber 3 rfl) (Nat.le_of_ble_eq_true rfl) ?_
  refine fg_aloadn (fg_ft (pc := 6) tb_Reader_keepNumber 4 rfl) rfl ?_
  refine fg_gets (fg_ft (pc := 7) tb_Reader_keepNumber 5 rfl) fs_Reader_214 ?_
  refine fg_acmp_ne (tgt := 36) (fg_ft (pc := 10) tb_Reader_keepNumber 6 rfl) (by decide) (by decide) (by decide) (fun _ => ?_) (fun h => absurd h (by decide))
  refine fg_aloadn (fg_ft (pc := 36) tb_Reader_keepNumber 17 rfl) rfl ?_
  refine fg_gets (fg_ft (pc := 37) tb_Reader_keepNumber 18 rfl) fs_Reader_223 ?_
  refine fg_acmp_ne (tgt := 57) (fg_ft (pc := 40) tb_Reader_keepNumber 19 rfl) (by decide) (by decide) (by decide) (fun _ => ?_) (fun h => absurd h (by decide))
  refine fg_aloadn (fg_ft (pc := 57) tb_Reader_keepNumber 26 rfl) rfl ?_
  refine fg_ifnonnull (tgt := 62) (fg_ft (pc := 58) tb_Reader_keepNumber 27 rfl) (by decide) ?_
  refine fg_aloadn (fg_ft (pc := 62) tb_Reader_keepNumber 29 rfl) rfl ?_
  refine fg_gets (fg_ft (pc := 63) tb_Reader_keepNumber 30 rfl) fs_Reader_143 ?_
  refine fg_acmp_eq (tgt := 76) (fg_ft (pc := 66) tb_Reader_keepNumber 31 rfl) (by decide) (by decide) (by decide) (fun h => absurd h (by decide)) (fun _ => ?_)
  refine fg_aloadn (fg_ft (pc := 69) tb_Reader_keepNumber 32 rfl) rfl ?_
  refine fg_gets (fg_ft (pc := 70) tb_Reader_keepNumber 33 rfl) fs_Reader_146 ?_
  refine fg_acmp_ne (tgt := 107) (fg_ft (pc := 73) tb_Reader_keepNumber 34 rfl) (by decide) (by decide) (by decide) (fun _ => ?_) (fun h => absurd h (by decide))
  refine fg_aloadn (fg_ft (pc := 107) tb_Reader_keepNumber 50 rfl) rfl ?_
  refine fg_callV (fg_ft (pc := 108) tb_Reader_keepNumber 51 rfl) cf_Reader_117 (Or.inr (pz_isW (w := 15) (by decide))) (as := []) (st := []) rfl rfl (Nat.le_of_ble_eq_true rfl) (Nat.le_refl _) (Nat.le_refl _) (ev_Word_sort_15 ?_)
  refine fg_iconst (fg_ft (pc := 111) tb_Reader_keepNumber 52 rfl) ic_1 ?_
  refine fg_icmp_neN (tgt := 133) (fg_ft (pc := 112) tb_Reader_keepNumber 53 rfl) (by decide) (by decide) (by decide) (fun c112 => (absurd rfl c112)) (fun c112 => ?_)
  refine fg_aloadn (fg_ft (pc := 115) tb_Reader_keepNumber 54 rfl) rfl ?_
  refine fg_aloadn (fg_ft (pc := 116) tb_Reader_keepNumber 55 rfl) rfl ?_
  refine fg_getI (fg_ft (pc := 117) tb_Reader_keepNumber 56 rfl) ff_Reader_180 ly_255 rfl (fg_lt ly_255 (by decide)) ?_
  refine fg_iloadn (fg_ft (pc := 120) tb_Reader_keepNumber 57 rfl) rfl ?_
  refine fg_iconst (fg_ft (pc := 121) tb_Reader_keepNumber 58 rfl) ic_1 ?_
  refine fg_iadd (fg_ft (pc := 122) tb_Reader_keepNumber 59 rfl) ?_
  refine fg_aloadn (fg_ft (pc := 123) tb_Reader_keepNumber 60 rfl) rfl ?_
  refine fg_getV (v := (nI v)) (fg_ft (pc := 124) tb_Reader_keepNumber 61 rfl) ff_Reader_207 ly_255 rfl (fg_lt ly_255 (by decide)) h10 ?_
  refine fg_callV (fg_ft (pc := 127) tb_Reader_keepNumber 62 rfl) cf_Reader_199 (fg_isOf ly_270 rfl (fg_lt ly_270 (by decide))) (as := [.int (μ 255 14), .int ((nI i) + (nI 1)), .int (nI v)]) (st := []) rfl rfl (Nat.le_of_ble_eq_true rfl) (Nat.le_refl _) (Nat.le_refl _) (pz_putAny (t := 6) (by decide) hSH (x := (μ 255 14)) (y := ((nI i) + (nI 1))) (z := (nI v)) ?_)
  intro ν hfr
  show fg_wp _ _ _ _ _ _ _ _ _ (ν, fg_rho R, 304)
  refine fg_goto (tgt := 173) (fg_ft (pc := 130) tb_Reader_keepNumber 63 rfl) (by decide) ?_
  exact fg_vret (fg_ft (pc := 173) tb_Reader_keepNumber 84 rfl) rfl rfl (hQ _ (fun a j h => hfr a (by have := pz_r7 6 (by decide); omega) j) (hSH.cells (by decide) hfr))
theorem ev_Reader_keepNumberA_16 {E : fg_E} {d : Nat} {μ : Nat → Nat → Int32} {R : fg_T4} {Q : Option Value → fg_M → Prop} {i v : Nat} (hi : i < 2 ^ 30) (h10 : μ 255 10 = nI v) (hv : v ≤ 99) (hSH : pz_SH μ) (hQ : ∀ μ' : Nat → Nat → Int32, (∀ a j, (a < 256 ∨ 271 < a) → μ' a j = μ a j) → pz_SH μ' → Q none (μ', fg_rho R, 304)) : fg_Ev E yy_Reader_keepNumber (d + 4) [.ref 255, .ref 16, .int (nI i)] (μ, fg_rho R, 304) 304 Q := by
  refine fg_intro (by decide +kernel) (Nat.le_of_ble_eq_true rfl) (fg_okAs rfl) (Nat.le_refl _) ?_
  refine fg_aloadn (fg_ft (pc := 0) tb_Reader_keepNumber 0 rfl) rfl ?_
  refine fg_aloadn (fg_ft (pc := 1) tb_Reader_keepNumber 1 rfl) rfl ?_
  refine fg_callV (fg_ft (pc := 2) tb_Reader_keepNumber 2 rfl) cf_Reader_176 (fg_isOf ly_255 rfl (fg_lt ly_255 (by decide))) (as := [.ref 16]) (st := []) rfl rfl (Nat.le_of_ble_eq_true rfl) (Nat.le_refl _) (Nat.le_refl _) (ev_Reader_rowsOf_16 ?_)
  refine fg_astoren (fg_ft (pc := 5) tb_Reader_keepNumber 3 rfl) (Nat.le_of_ble_eq_true rfl) ?_
  refine fg_aloadn (fg_ft (pc := 6) tb_Reader_keepNumber 4 rfl) rfl ?_
  refine fg_gets (fg_ft (pc := 7) tb_Reader_keepNumber 5 rfl) fs_Reader_214 ?_
  refine fg_acmp_ne (tgt := 36) (fg_ft (pc := 10) tb_Reader_keepNumber 6 rfl) (by decide) (by decide) (by decide) (fun _ => ?_) (fun h => absurd h (by decide))
  refine fg_aloadn (fg_ft (pc := 36) tb_Reader_keepNumber 17 rfl) rfl ?_
  refine fg_gets (fg_ft (pc := 37) tb_Reader_keepNumber 18 rfl) fs_Reader_223 ?_
  refine fg_acmp_ne (tgt := 57) (fg_ft (pc := 40) tb_Reader_keepNumber 19 rfl) (by decide) (by decide) (by decide) (fun _ => ?_) (fun h => absurd h (by decide))
  refine fg_aloadn (fg_ft (pc := 57) tb_Reader_keepNumber 26 rfl) rfl ?_
  refine fg_ifnonnull (tgt := 62) (fg_ft (pc := 58) tb_Reader_keepNumber 27 rfl) (by decide) ?_
  refine fg_aloadn (fg_ft (pc := 62) tb_Reader_keepNumber 29 rfl) rfl ?_
  refine fg_gets (fg_ft (pc := 63) tb_Reader_keepNumber 30 rfl) fs_Reader_143 ?_
  refine fg_acmp_eq (tgt := 76) (fg_ft (pc := 66) tb_Reader_keepNumber 31 rfl) (by decide) (by decide) (by decide) (fun h => absurd h (by decide)) (fun _ => ?_)
  refine fg_aloadn (fg_ft (pc := 69) tb_Reader_keepNumber 32 rfl) rfl ?_
  refine fg_gets (fg_ft (pc := 70) tb_Reader_keepNumber 33 rfl) fs_Reader_146 ?_
  refine fg_acmp_ne (tgt := 107) (fg_ft (pc := 73) tb_Reader_keepNumber 34 rfl) (by decide) (by decide) (by decide) (fun _ => ?_) (fun h => absurd h (by decide))
  refine fg_aloadn (fg_ft (pc := 107) tb_Reader_keepNumber 50 rfl) rfl ?_
  refine fg_callV (fg_ft (pc := 108) tb_Reader_keepNumber 51 rfl) cf_Reader_117 (Or.inr (pz_isW (w := 16) (by decide))) (as := []) (st := []) rfl rfl (Nat.le_of_ble_eq_true rfl) (Nat.le_refl _) (Nat.le_refl _) (ev_Word_sort_16 ?_)
  refine fg_iconst (fg_ft (pc := 111) tb_Reader_keepNumber 52 rfl) ic_1 ?_
  refine fg_icmp_neN (tgt := 133) (fg_ft (pc := 112) tb_Reader_keepNumber 53 rfl) (by decide) (by decide) (by decide) (fun c112 => (absurd rfl c112)) (fun c112 => ?_)
  refine fg_aloadn (fg_ft (pc := 115) tb_Reader_keepNumber 54 rfl) rfl ?_
  refine fg_aloadn (fg_ft (pc := 116) tb_Reader_keepNumber 55 rfl) rfl ?_
  refine fg_getI (fg_ft (pc := 117) tb_Reader_keepNumber 56 rfl) ff_Reader_180 ly_255 rfl (fg_lt ly_255 (by decide)) ?_
  refine fg_iloadn (fg_ft (pc := 120) tb_Reader_keepNumber 57 rfl) rfl ?_
  refine fg_iconst (fg_ft (pc := 121) tb_Reader_keepNumber 58 rfl) ic_1 ?_
  refine fg_iadd (fg_ft (pc := 122) tb_Reader_keepNumber 59 rfl) ?_
  refine fg_aloadn (fg_ft (pc := 123) tb_Reader_keepNumber 60 rfl) rfl ?_
  refine fg_getV (v := (nI v)) (fg_ft (pc := 124) tb_Reader_keepNumber 61 rfl) ff_Reader_207 ly_255 rfl (fg_lt ly_255 (by decide)) h10 ?_
  refine fg_callV (fg_ft (pc := 127) tb_Reader_keepNumber 62 rfl) cf_Reader_199 (fg_isOf ly_270 rfl (fg_lt ly_270 (by decide))) (as := [.int (μ 255 14), .int ((nI i) + (nI 1)), .int (nI v)]) (st := []) rfl rfl (Nat.le_of_ble_eq_true rfl) (Nat.le_refl _) (Nat.le_refl _) (pz_putAny (t := 6) (by decide) hSH (x := (μ 255 14)) (y := ((nI i) + (nI 1))) (z := (nI v)) ?_)
  intro ν hfr
  show fg_wp _ _ _ _ _ _ _ _ _ (ν, fg_rho R, 304)
  refine fg_goto (tgt := 173) (fg_ft (pc := 130) tb_Reader_keepNumber 63 rfl) (by decide) ?_
  exact fg_vret (fg_ft (pc := 173) tb_Reader_keepNumber 84 rfl) rfl rfl (hQ _ (fun a j h => hfr a (by have := pz_r7 6 (by decide); omega) j) (hSH.cells (by decide) hfr))
theorem ev_Reader_keepNumber_0 {E : fg_E} {d : Nat} {μ : Nat → Nat → Int32} {R : fg_T4} {Q : Option Value → fg_M → Prop} {i v r fi : Nat} {C : Nat → Nat} (hi : i < 2 ^ 30) (h10 : μ 255 10 = nI v) (hv : v ≤ 99) (hSH : pz_SH μ) (hC : pz_CT μ 0 C) (h0 : 1 ≤ v ∧ v ≤ 10) (hQ : ∀ μ' : Nat → Nat → Int32, (∀ a j, (a < 256 ∨ 271 < a) → μ' a j = μ a j) → pz_SH μ' → pz_CT μ' 0 (pz_kp 0 r i v fi C) → Q none (μ', fg_rho R, 304)) : fg_Ev E yy_Reader_keepNumber (d + 4) [.ref 255, .ref 0, .int (nI i)] (μ, fg_rho R, 304) 304 Q := by
  refine fg_intro (by decide +kernel) (Nat.le_of_ble_eq_true rfl) (fg_okAs rfl) (Nat.le_refl _) ?_
  refine fg_aloadn (fg_ft (pc := 0) tb_Reader_keepNumber 0 rfl) rfl ?_
  refine fg_aloadn (fg_ft (pc := 1) tb_Reader_keepNumber 1 rfl) rfl ?_
  refine fg_callV (fg_ft (pc := 2) tb_Reader_keepNumber 2 rfl) cf_Reader_176 (fg_isOf ly_255 rfl (fg_lt ly_255 (by decide))) (as := [.ref 0]) (st := []) rfl rfl (Nat.le_of_ble_eq_true rfl) (Nat.le_refl _) (Nat.le_refl _) (ev_Reader_rowsOf_0 ?_)
  refine fg_astorenN (fg_ft (pc := 5) tb_Reader_keepNumber 3 rfl) (Nat.le_of_ble_eq_true rfl) ?_
  refine fg_aloadn (fg_ft (pc := 6) tb_Reader_keepNumber 4 rfl) rfl ?_
  refine fg_gets (fg_ft (pc := 7) tb_Reader_keepNumber 5 rfl) fs_Reader_214 ?_
  refine fg_acmp_ne (tgt := 36) (fg_ft (pc := 10) tb_Reader_keepNumber 6 rfl) (by decide) (by decide) (by decide) (fun h => absurd rfl h) (fun _ => ?_)
  refine fg_aloadn (fg_ft (pc := 13) tb_Reader_keepNumber 7 rfl) rfl ?_
  refine fg_getR (fg_ft (pc := 14) tb_Reader_keepNumber 8 rfl) ff_Reader_12 ly_255 rfl (fg_lt ly_255 (by decide)) (rh_255_0 R) ?_
  refine fg_iconst (fg_ft (pc := 17) tb_Reader_keepNumber 9 rfl) ic_1 ?_
  refine fg_aloadn (fg_ft (pc := 18) tb_Reader_keepNumber 10 rfl) rfl ?_
  refine fg_getV (v := (nI v)) (fg_ft (pc := 19) tb_Reader_keepNumber 11 rfl) ff_Reader_207 ly_255 rfl (fg_lt ly_255 (by decide)) h10 ?_
  refine fg_bipush (fg_ft (pc := 22) tb_Reader_keepNumber 12 rfl) ib_10 ?_
  refine fg_mminN (fg_ft (pc := 24) tb_Reader_keepNumber 13 rfl) cf_Reader_41 (Nat.le_of_ble_eq_true rfl) (by omega) (by decide) ?_
  refine fg_mmaxN (fg_ft (pc := 27) tb_Reader_keepNumber 14 rfl) cf_Reader_217 (Nat.le_of_ble_eq_true rfl) (by decide) (by omega) ?_
  refine fg_putI (fg_ft (pc := 30) tb_Reader_keepNumber 15 rfl) ff_Reader_220 ly_256 rfl (fg_lt ly_256 (by decide)) (fg_nokI _) (fun _ _ h => by cases h; rfl) ?_
  show fg_wp _ _ _ _ _ _ _ _ _ (fg_u2 μ 256 0 (nI (max 1 (min v 10))), fg_rho R, 304)
  refine fg_goto (tgt := 173) (fg_ft (pc := 33) tb_Reader_keepNumber 16 rfl) (by decide) ?_
  exact fg_vret (fg_ft (pc := 173) tb_Reader_keepNumber 84 rfl) rfl rfl (hQ _ (fun a j h => fg_u2nx (by omega)) hSH.put256 (by rw [show max 1 (min v 10) = v by omega]; exact hC.fac (j := 0) (k := 0) (v := v) (Or.inl ⟨rfl, rfl⟩)))
theorem ev_Reader_keepNumber_1 {E : fg_E} {d : Nat} {μ : Nat → Nat → Int32} {R : fg_T4} {Q : Option Value → fg_M → Prop} {i v r fi : Nat} {C : Nat → Nat} (hi : i < 2 ^ 30) (h10 : μ 255 10 = nI v) (hv : v ≤ 99) (hSH : pz_SH μ) (hC : pz_CT μ 0 C) (h14 : μ 255 14 = nI r) (hr : r < C (pz_ci 0)) (hv10 : 0 < i → v < 10) (hQ : ∀ μ' : Nat → Nat → Int32, (∀ a j, (a < 256 ∨ 271 < a) → μ' a j = μ a j) → pz_SH μ' → pz_CT μ' 0 (pz_kp 1 r i v fi C) → Q none (μ', fg_rho R, 304)) : fg_Ev E yy_Reader_keepNumber (d + 4) [.ref 255, .ref 1, .int (nI i)] (μ, fg_rho R, 304) 304 Q := by
  have hRW := hC.rw (t := 0) (by decide) (by decide)
  have hw0 := (hSH 0 (by decide)).1
  have hmx := hRW.2.1
  have hmx2 : C (pz_ci 0) ≤ 16 := hmx
  refine fg_intro (by decide +kernel) (Nat.le_of_ble_eq_true rfl) (fg_okAs rfl) (Nat.le_refl _) ?_
  refine fg_aloadn (fg_ft (pc := 0) tb_Reader_keepNumber 0 rfl) rfl ?_
  refine fg_aloadn (fg_ft (pc := 1) tb_Reader_keepNumber 1 rfl) rfl ?_
  refine fg_callV (fg_ft (pc := 2) tb_Reader_keepNumber 2 rfl) cf_Reader_176 (fg_isOf ly_255 rfl (fg_lt ly_255 (by decide))) (as := [.ref 1]) (st := []) rfl rfl (Nat.le_of_ble_eq_true rfl) (Nat.le_refl _) (Nat.le_refl _) (ev_Reader_rowsOf_1 ?_)
  refine fg_astoren (fg_ft (pc := 5) tb_Reader_keepNumber 3 rfl) (Nat.le_of_ble_eq_true rfl) ?_
  refine fg_aloadn (fg_ft (pc := 6) tb_Reader_keepNumber 4 rfl) rfl ?_
  refine fg_gets (fg_ft (pc := 7) tb_Reader_keepNumber 5 rfl) fs_Reader_214 ?_
  refine fg_acmp_ne (tgt := 36) (fg_ft (pc := 10) tb_Reader_keepNumber 6 rfl) (by decide) (by decide) (by decide) (fun _ => ?_) (fun h => absurd h (by decide))
  refine fg_aloadn (fg_ft (pc := 36) tb_Reader_keepNumber 17 rfl) rfl ?_
  refine fg_gets (fg_ft (pc := 37) tb_Reader_keepNumber 18 rfl) fs_Reader_223 ?_
  refine fg_acmp_ne (tgt := 57) (fg_ft (pc := 40) tb_Reader_keepNumber 19 rfl) (by decide) (by decide) (by decide) (fun _ => ?_) (fun h => absurd h (by decide))
  refine fg_aloadn (fg_ft (pc := 57) tb_Reader_keepNumber 26 rfl) rfl ?_
  refine fg_ifnonnull (tgt := 62) (fg_ft (pc := 58) tb_Reader_keepNumber 27 rfl) (by decide) ?_
  refine fg_aloadn (fg_ft (pc := 62) tb_Reader_keepNumber 29 rfl) rfl ?_
  refine fg_gets (fg_ft (pc := 63) tb_Reader_keepNumber 30 rfl) fs_Reader_143 ?_
  refine fg_acmp_eq (tgt := 76) (fg_ft (pc := 66) tb_Reader_keepNumber 31 rfl) (by decide) (by decide) (by decide) (fun h => absurd h (by decide)) (fun _ => ?_)
  refine fg_aloadn (fg_ft (pc := 69) tb_Reader_keepNumber 32 rfl) rfl ?_
  refine fg_gets (fg_ft (pc := 70) tb_Reader_keepNumber 33 rfl) fs_Reader_146 ?_
  refine fg_acmp_ne (tgt := 107) (fg_ft (pc := 73) tb_Reader_keepNumber 34 rfl) (by decide) (by decide) (by decide) (fun _ => ?_) (fun h => absurd h (by decide))
  refine fg_aloadn (fg_ft (pc := 107) tb_Reader_keepNumber 50 rfl) rfl ?_
  refine fg_callV (fg_ft (pc := 108) tb_Reader_keepNumber 51 rfl) cf_Reader_117 (Or.inr (pz_isW (w := 1) (by decide))) (as := []) (st := []) rfl rfl (Nat.le_of_ble_eq_true rfl) (Nat.le_refl _) (Nat.le_refl _) (ev_Word_sort_1 ?_)
  refine fg_iconst (fg_ft (pc := 111) tb_Reader_keepNumber 52 rfl) ic_1 ?_
  refine fg_icmp_neN (tgt := 133) (fg_ft (pc := 112) tb_Reader_keepNumber 53 rfl) (by decide) (by decide) (by decide) (fun c112 => ?_) (fun c112 => (absurd c112 (by decide)))
  refine fg_aloadn (fg_ft (pc := 133) tb_Reader_keepNumber 64 rfl) rfl ?_
  refine fg_getK (fg_ft (pc := 134) tb_Reader_keepNumber 65 rfl) fk_Reader_232_1 ?_
  refine fg_if_eq (tgt := 160) (fg_ft (pc := 137) tb_Reader_keepNumber 66 rfl) (by decide) (fun h => absurd h (by decide)) (fun _ => ?_)
  refine fg_iloadn (fg_ft (pc := 140) tb_Reader_keepNumber 67 rfl) rfl ?_
  refine fg_if_leN (tgt := 160) (fg_ft (pc := 141) tb_Reader_keepNumber 68 rfl) (by decide) (by omega) (fun c141 => ?_) (fun c141 => ?_)
  · refine fg_aloadn (fg_ft (pc := 160) tb_Reader_keepNumber 77 rfl) rfl ?_
    refine fg_aloadn (fg_ft (pc := 161) tb_Reader_keepNumber 78 rfl) rfl ?_
    refine fg_getV (v := (nI r)) (fg_ft (pc := 162) tb_Reader_keepNumber 79 rfl) ff_Reader_180 ly_255 rfl (fg_lt ly_255 (by decide)) h14 ?_
    refine fg_iloadn (fg_ft (pc := 165) tb_Reader_keepNumber 80 rfl) rfl ?_
    refine fg_aloadn (fg_ft (pc := 166) tb_Reader_keepNumber 81 rfl) rfl ?_
    refine fg_getV (v := (nI v)) (fg_ft (pc := 167) tb_Reader_keepNumber 82 rfl) ff_Reader_207 ly_255 rfl (fg_lt ly_255 (by decide)) h10 ?_
    refine fg_callV (fg_ft (pc := 170) tb_Reader_keepNumber 83 rfl) cf_Reader_199 (fg_isOf ly_257 rfl (fg_lt ly_257 (by decide))) (as := [.int (nI r), .int (nI i), .int (nI v)]) (st := []) rfl rfl (Nat.le_of_ble_eq_true rfl) (Nat.le_refl _) (Nat.le_refl _) (ev_Rows_put (i := r) (j := i) (r := 257) (c := 258) (n := 32) (w := 2) (sz := C (pz_ci 0)) ⟨ly_257, rh_257_1 R, ly_258⟩ hw0 hRW.1 (by omega) (by decide) (by omega) (by omega) (by omega) ?_)
    show fg_wp _ _ _ _ _ _ _ _ _ (fg_u2 μ 258 (r * 2 + i) (nI v), fg_rho R, 304)
    exact fg_vret (fg_ft (pc := 173) tb_Reader_keepNumber 84 rfl) rfl rfl (hQ _ (fun a j h => fg_u2ne (by omega)) (hSH.cells (t := 0) (by decide) (fun a h j => fg_u2ne h)) (by have e9 : pz_kp 1 r i v fi C = pz_up C (pz_bs 0 + (r * 2 + i)) v := (by unfold pz_kp; rw [if_neg (by decide), if_neg (by decide), if_neg (by decide), if_neg (by decide), if_neg (by omega)]; rfl); rw [e9]; exact hC.put (t := 0) (k := (r * 2 + i)) (by decide) (by decide) (show r * 2 + i < C (pz_ci 0) * 2 by omega)))
  · refine fg_aloadn (fg_ft (pc := 144) tb_Reader_keepNumber 69 rfl) rfl ?_
    refine fg_aloadn (fg_ft (pc := 145) tb_Reader_keepNumber 70 rfl) rfl ?_
    refine fg_getV (v := (nI r)) (fg_ft (pc := 146) tb_Reader_keepNumber 71 rfl) ff_Reader_180 ly_255 rfl (fg_lt ly_255 (by decide)) h14 ?_
    refine fg_iconst (fg_ft (pc := 149) tb_Reader_keepNumber 72 rfl) ic_1 ?_
    refine fg_aloadn (fg_ft (pc := 150) tb_Reader_keepNumber 73 rfl) rfl ?_
    refine fg_getV (v := (nI v)) (fg_ft (pc := 151) tb_Reader_keepNumber 74 rfl) ff_Reader_207 ly_255 rfl (fg_lt ly_255 (by decide)) h10 ?_
    refine fg_callV (fg_ft (pc := 154) tb_Reader_keepNumber 75 rfl) cf_Reader_229 (fg_isOf ly_257 rfl (fg_lt ly_257 (by decide))) (as := [.int (nI r), .int (nI 1), .int (nI v)]) (st := []) rfl rfl (Nat.le_of_ble_eq_true rfl) (Nat.le_refl _) (Nat.le_refl _) (ev_Rows_putBit (i := r) (j := 1) (b := v) (v := C (8 + (r * 2 + 1))) (r := 257) (c := 258) (n := 32) (w := 2) (sz := C (pz_ci 0)) ⟨ly_257, rh_257_1 R, ly_258⟩ hw0 hRW.1 (by omega) (by decide) (by omega) (by omega) (by omega) (by omega) (hRW.2.2 _ (show r * 2 + 1 < C (pz_ci 0) * 2 by omega)) ?_)
    show fg_wp _ _ _ _ _ _ _ _ _ (fg_u2 μ 258 (r * 2 + 1) (nI (C (8 + (r * 2 + 1)) ||| 2 ^ v)), fg_rho R, 304)
    refine fg_goto (tgt := 173) (fg_ft (pc := 157) tb_Reader_keepNumber 76 rfl) (by decide) ?_
    exact fg_vret (fg_ft (pc := 173) tb_Reader_keepNumber 84 rfl) rfl rfl (hQ _ (fun a j h => fg_u2ne (by omega)) (hSH.cells (t := 0) (by decide) (fun a h j => fg_u2ne h)) (by have e9 : pz_kp 1 r i v fi C = pz_up C (pz_bs 0 + (r * 2 + 1)) (C (8 + (r * 2 + 1)) ||| 2 ^ v) := (by unfold pz_kp; rw [if_neg (by decide), if_neg (by decide), if_neg (by decide), if_neg (by decide), if_pos ⟨rfl, by omega⟩]; rfl); rw [e9]; exact hC.put (t := 0) (k := (r * 2 + 1)) (by decide) (by decide) (show r * 2 + 1 < C (pz_ci 0) * 2 by omega)))
theorem ev_Reader_keepNumber_2 {E : fg_E} {d : Nat} {μ : Nat → Nat → Int32} {R : fg_T4} {Q : Option Value → fg_M → Prop} {i v r fi : Nat} {C : Nat → Nat} (hi : i < 2 ^ 30) (h10 : μ 255 10 = nI v) (hv : v ≤ 99) (hSH : pz_SH μ) (hC : pz_CT μ 0 C) (h14 : μ 255 14 = nI r) (hr : r < C (pz_ci 1)) (hil : i < 1) (hQ : ∀ μ' : Nat → Nat → Int32, (∀ a j, (a < 256 ∨ 271 < a) → μ' a j = μ a j) → pz_SH μ' → pz_CT μ' 0 (pz_kp 2 r i v fi C) → Q none (μ', fg_rho R, 304)) : fg_Ev E yy_Reader_keepNumber (d + 4) [.ref 255, .ref 2, .int (nI i)] (μ, fg_rho R, 304) 304 Q := by
  have hRW := hC.rw (t := 1) (by decide) (by decide)
  have hw0 := (hSH 1 (by decide)).1
  have hmx := hRW.2.1
  have hmx2 : C (pz_ci 1) ≤ 5 := hmx
  refine fg_intro (by decide +kernel) (Nat.le_of_ble_eq_true rfl) (fg_okAs rfl) (Nat.le_refl _) ?_
  refine fg_aloadn (fg_ft (pc := 0) tb_Reader_keepNumber 0 rfl) rfl ?_
  refine fg_aloadn (fg_ft (pc := 1) tb_Reader_keepNumber 1 rfl) rfl ?_
  refine fg_callV (fg_ft (pc := 2) tb_Reader_keepNumber 2 rfl) cf_Reader_176 (fg_isOf ly_255 rfl (fg_lt ly_255 (by decide))) (as := [.ref 2]) (st := []) rfl rfl (Nat.le_of_ble_eq_true rfl) (Nat.le_refl _) (Nat.le_refl _) (ev_Reader_rowsOf_2 ?_)
  refine fg_astoren (fg_ft (pc := 5) tb_Reader_keepNumber 3 rfl) (Nat.le_of_ble_eq_true rfl) ?_
  refine fg_aloadn (fg_ft (pc := 6) tb_Reader_keepNumber 4 rfl) rfl ?_
  refine fg_gets (fg_ft (pc := 7) tb_Reader_keepNumber 5 rfl) fs_Reader_214 ?_
  refine fg_acmp_ne (tgt := 36) (fg_ft (pc := 10) tb_Reader_keepNumber 6 rfl) (by decide) (by decide) (by decide) (fun _ => ?_) (fun h => absurd h (by decide))
  refine fg_aloadn (fg_ft (pc := 36) tb_Reader_keepNumber 17 rfl) rfl ?_
  refine fg_gets (fg_ft (pc := 37) tb_Reader_keepNumber 18 rfl) fs_Reader_223 ?_
  refine fg_acmp_ne (tgt := 57) (fg_ft (pc := 40) tb_Reader_keepNumber 19 rfl) (by decide) (by decide) (by decide) (fun _ => ?_) (fun h => absurd h (by decide))
  refine fg_aloadn (fg_ft (pc := 57) tb_Reader_keepNumber 26 rfl) rfl ?_
  refine fg_ifnonnull (tgt := 62) (fg_ft (pc := 58) tb_Reader_keepNumber 27 rfl) (by decide) ?_
  refine fg_aloadn (fg_ft (pc := 62) tb_Reader_keepNumber 29 rfl) rfl ?_
  refine fg_gets (fg_ft (pc := 63) tb_Reader_keepNumber 30 rfl) fs_Reader_143 ?_
  refine fg_acmp_eq (tgt := 76) (fg_ft (pc := 66) tb_Reader_keepNumber 31 rfl) (by decide) (by decide) (by decide) (fun h => absurd h (by decide)) (fun _ => ?_)
  refine fg_aloadn (fg_ft (pc := 69) tb_Reader_keepNumber 32 rfl) rfl ?_
  refine fg_gets (fg_ft (pc := 70) tb_Reader_keepNumber 33 rfl) fs_Reader_146 ?_
  refine fg_acmp_ne (tgt := 107) (fg_ft (pc := 73) tb_Reader_keepNumber 34 rfl) (by decide) (by decide) (by decide) (fun _ => ?_) (fun h => absurd h (by decide))
  refine fg_aloadn (fg_ft (pc := 107) tb_Reader_keepNumber 50 rfl) rfl ?_
  refine fg_callV (fg_ft (pc := 108) tb_Reader_keepNumber 51 rfl) cf_Reader_117 (Or.inr (pz_isW (w := 2) (by decide))) (as := []) (st := []) rfl rfl (Nat.le_of_ble_eq_true rfl) (Nat.le_refl _) (Nat.le_refl _) (ev_Word_sort_2 ?_)
  refine fg_iconst (fg_ft (pc := 111) tb_Reader_keepNumber 52 rfl) ic_1 ?_
  refine fg_icmp_neN (tgt := 133) (fg_ft (pc := 112) tb_Reader_keepNumber 53 rfl) (by decide) (by decide) (by decide) (fun c112 => ?_) (fun c112 => (absurd c112 (by decide)))
  refine fg_aloadn (fg_ft (pc := 133) tb_Reader_keepNumber 64 rfl) rfl ?_
  refine fg_getK (fg_ft (pc := 134) tb_Reader_keepNumber 65 rfl) fk_Reader_232_2 ?_
  refine fg_if_eq (tgt := 160) (fg_ft (pc := 137) tb_Reader_keepNumber 66 rfl) (by decide) (fun _ => ?_) (fun h => absurd h (by decide))
  refine fg_aloadn (fg_ft (pc := 160) tb_Reader_keepNumber 77 rfl) rfl ?_
  refine fg_aloadn (fg_ft (pc := 161) tb_Reader_keepNumber 78 rfl) rfl ?_
  refine fg_getV (v := (nI r)) (fg_ft (pc := 162) tb_Reader_keepNumber 79 rfl) ff_Reader_180 ly_255 rfl (fg_lt ly_255 (by decide)) h14 ?_
  refine fg_iloadn (fg_ft (pc := 165) tb_Reader_keepNumber 80 rfl) rfl ?_
  refine fg_aloadn (fg_ft (pc := 166) tb_Reader_keepNumber 81 rfl) rfl ?_
  refine fg_getV (v := (nI v)) (fg_ft (pc := 167) tb_Reader_keepNumber 82 rfl) ff_Reader_207 ly_255 rfl (fg_lt ly_255 (by decide)) h10 ?_
  refine fg_callV (fg_ft (pc := 170) tb_Reader_keepNumber 83 rfl) cf_Reader_199 (fg_isOf ly_259 rfl (fg_lt ly_259 (by decide))) (as := [.int (nI r), .int (nI i), .int (nI v)]) (st := []) rfl rfl (Nat.le_of_ble_eq_true rfl) (Nat.le_refl _) (Nat.le_refl _) (ev_Rows_put (i := r) (j := i) (r := 259) (c := 260) (n := 15) (w := 3) (sz := C (pz_ci 1)) ⟨ly_259, rh_259_1 R, ly_260⟩ hw0 hRW.1 (by omega) (by decide) (by omega) (by omega) (by omega) ?_)
  show fg_wp _ _ _ _ _ _ _ _ _ (fg_u2 μ 260 (r * 3 + i) (nI v), fg_rho R, 304)
  exact fg_vret (fg_ft (pc := 173) tb_Reader_keepNumber 84 rfl) rfl rfl (hQ _ (fun a j h => fg_u2ne (by omega)) (hSH.cells (t := 1) (by decide) (fun a h j => fg_u2ne h)) (by have e9 : pz_kp 2 r i v fi C = pz_up C (pz_bs 1 + (r * 3 + i)) v := rfl; rw [e9]; exact hC.put (t := 1) (k := (r * 3 + i)) (by decide) (by decide) (show r * 3 + i < C (pz_ci 1) * 3 by omega)))
theorem ev_Reader_keepNumber_3 {E : fg_E} {d : Nat} {μ : Nat → Nat → Int32} {R : fg_T4} {Q : Option Value → fg_M → Prop} {i v r fi : Nat} {C : Nat → Nat} (hi : i < 2 ^ 30) (h10 : μ 255 10 = nI v) (hv : v ≤ 99) (hSH : pz_SH μ) (hC : pz_CT μ 0 C) (h13 : 0 < i → μ 255 13 = nI fi) (hfi : 0 < i → fi < C 2) (hv10 : 0 < i → v < 10) (hQ : ∀ μ' : Nat → Nat → Int32, (∀ a j, (a < 256 ∨ 271 < a) → μ' a j = μ a j) → pz_SH μ' → pz_CT μ' 0 (pz_kp 3 r i v fi C) → Q none (μ', fg_rho R, 304)) : fg_Ev E yy_Reader_keepNumber (d + 4) [.ref 255, .ref 3, .int (nI i)] (μ, fg_rho R, 304) 304 Q := by
  have hRW := hC.rw (t := 1) (by decide) (by decide)
  have hw0 := (hSH 1 (by decide)).1
  have hmx := hRW.2.1
  have hmx2 : C (pz_ci 1) ≤ 5 := hmx
  have hfi2 : 0 < i → fi < C (pz_ci 1) := hfi
  refine fg_intro (by decide +kernel) (Nat.le_of_ble_eq_true rfl) (fg_okAs rfl) (Nat.le_refl _) ?_
  refine fg_aloadn (fg_ft (pc := 0) tb_Reader_keepNumber 0 rfl) rfl ?_
  refine fg_aloadn (fg_ft (pc := 1) tb_Reader_keepNumber 1 rfl) rfl ?_
  refine fg_callV (fg_ft (pc := 2) tb_Reader_keepNumber 2 rfl) cf_Reader_176 (fg_isOf ly_255 rfl (fg_lt ly_255 (by decide))) (as := [.ref 3]) (st := []) rfl rfl (Nat.le_of_ble_eq_true rfl) (Nat.le_refl _) (Nat.le_refl _) (ev_Reader_rowsOf_3 ?_)
  refine fg_astoren (fg_ft (pc := 5) tb_Reader_keepNumber 3 rfl) (Nat.le_of_ble_eq_true rfl) ?_
  refine fg_aloadn (fg_ft (pc := 6) tb_Reader_keepNumber 4 rfl) rfl ?_
  refine fg_gets (fg_ft (pc := 7) tb_Reader_keepNumber 5 rfl) fs_Reader_214 ?_
  refine fg_acmp_ne (tgt := 36) (fg_ft (pc := 10) tb_Reader_keepNumber 6 rfl) (by decide) (by decide) (by decide) (fun _ => ?_) (fun h => absurd h (by decide))
  refine fg_aloadn (fg_ft (pc := 36) tb_Reader_keepNumber 17 rfl) rfl ?_
  refine fg_gets (fg_ft (pc := 37) tb_Reader_keepNumber 18 rfl) fs_Reader_223 ?_
  refine fg_acmp_ne (tgt := 57) (fg_ft (pc := 40) tb_Reader_keepNumber 19 rfl) (by decide) (by decide) (by decide) (fun _ => ?_) (fun h => absurd h (by decide))
  refine fg_aloadn (fg_ft (pc := 57) tb_Reader_keepNumber 26 rfl) rfl ?_
  refine fg_ifnonnull (tgt := 62) (fg_ft (pc := 58) tb_Reader_keepNumber 27 rfl) (by decide) ?_
  refine fg_aloadn (fg_ft (pc := 62) tb_Reader_keepNumber 29 rfl) rfl ?_
  refine fg_gets (fg_ft (pc := 63) tb_Reader_keepNumber 30 rfl) fs_Reader_143 ?_
  refine fg_acmp_eq (tgt := 76) (fg_ft (pc := 66) tb_Reader_keepNumber 31 rfl) (by decide) (by decide) (by decide) (fun _ => ?_) (fun h => absurd rfl h)
  refine fg_iloadn (fg_ft (pc := 76) tb_Reader_keepNumber 35 rfl) rfl ?_
  refine fg_if_leN (tgt := 173) (fg_ft (pc := 77) tb_Reader_keepNumber 36 rfl) (by decide) (by omega) (fun c77 => ?_) (fun c77 => ?_)
  · exact fg_vret (fg_ft (pc := 173) tb_Reader_keepNumber 84 rfl) rfl rfl (hQ _ (fun _ _ _ => rfl) hSH (by have e9 : pz_kp 3 r i v fi C = C := (by unfold pz_kp; rw [if_neg (by decide), if_neg (by decide), if_pos (by decide), if_neg (by omega)]); rw [e9]; exact hC))
  · refine fg_aloadn (fg_ft (pc := 80) tb_Reader_keepNumber 37 rfl) rfl ?_
    refine fg_aloadn (fg_ft (pc := 81) tb_Reader_keepNumber 38 rfl) rfl ?_
    refine fg_getV (v := (nI fi)) (fg_ft (pc := 82) tb_Reader_keepNumber 39 rfl) ff_Reader_186 ly_255 rfl (fg_lt ly_255 (by decide)) (h13 (by omega)) ?_
    refine fg_aloadn (fg_ft (pc := 85) tb_Reader_keepNumber 40 rfl) rfl ?_
    refine fg_gets (fg_ft (pc := 86) tb_Reader_keepNumber 41 rfl) fs_Reader_143 ?_
    refine fg_acmp_ne (tgt := 96) (fg_ft (pc := 89) tb_Reader_keepNumber 42 rfl) (by decide) (by decide) (by decide) (fun h => absurd rfl h) (fun _ => ?_)
    refine fg_iconst (fg_ft (pc := 92) tb_Reader_keepNumber 43 rfl) ic_1 ?_
    refine fg_goto (tgt := 97) (fg_ft (pc := 93) tb_Reader_keepNumber 44 rfl) (by decide) ?_
    refine fg_aloadn (fg_ft (pc := 97) tb_Reader_keepNumber 46 rfl) rfl ?_
    refine fg_getV (v := (nI v)) (fg_ft (pc := 98) tb_Reader_keepNumber 47 rfl) ff_Reader_207 ly_255 rfl (fg_lt ly_255 (by decide)) h10 ?_
    refine fg_callV (fg_ft (pc := 101) tb_Reader_keepNumber 48 rfl) cf_Reader_229 (fg_isOf ly_259 rfl (fg_lt ly_259 (by decide))) (as := [.int (nI fi), .int (nI 1), .int (nI v)]) (st := []) rfl rfl (Nat.le_of_ble_eq_true rfl) (Nat.le_refl _) (Nat.le_refl _) (ev_Rows_putBit (i := fi) (j := 1) (b := v) (v := C (40 + (fi * 3 + 1))) (r := 259) (c := 260) (n := 15) (w := 3) (sz := C (pz_ci 1)) ⟨ly_259, rh_259_1 R, ly_260⟩ hw0 hRW.1 (by omega) (by decide) (by omega) (by omega) (by omega) (by omega) (hRW.2.2 _ (show fi * 3 + 1 < C (pz_ci 1) * 3 by omega)) ?_)
    show fg_wp _ _ _ _ _ _ _ _ _ (fg_u2 μ 260 (fi * 3 + 1) (nI (C (40 + (fi * 3 + 1)) ||| 2 ^ v)), fg_rho R, 304)
    refine fg_goto (tgt := 173) (fg_ft (pc := 104) tb_Reader_keepNumber 49 rfl) (by decide) ?_
    exact fg_vret (fg_ft (pc := 173) tb_Reader_keepNumber 84 rfl) rfl rfl (hQ _ (fun a j h => fg_u2ne (by omega)) (hSH.cells (t := 1) (by decide) (fun a h j => fg_u2ne h)) (by have e9 : pz_kp 3 r i v fi C = pz_up C (pz_bs 1 + (fi * 3 + 1)) (C (40 + (fi * 3 + 1)) ||| 2 ^ v) := (by unfold pz_kp; rw [if_neg (by decide), if_neg (by decide), if_pos (by decide), if_pos (by omega)]; rfl); rw [e9]; exact hC.put (t := 1) (k := (fi * 3 + 1)) (by decide) (by decide) (show fi * 3 + 1 < C (pz_ci 1) * 3 by omega)))
theorem ev_Reader_keepNumber_4 {E : fg_E} {d : Nat} {μ : Nat → Nat → Int32} {R : fg_T4} {Q : Option Value → fg_M → Prop} {i v r fi : Nat} {C : Nat → Nat} (hi : i < 2 ^ 30) (h10 : μ 255 10 = nI v) (hv : v ≤ 99) (hSH : pz_SH μ) (hC : pz_CT μ 0 C) (h13 : 0 < i → μ 255 13 = nI fi) (hfi : 0 < i → fi < C 2) (hv10 : 0 < i → v < 10) (hQ : ∀ μ' : Nat → Nat → Int32, (∀ a j, (a < 256 ∨ 271 < a) → μ' a j = μ a j) → pz_SH μ' → pz_CT μ' 0 (pz_kp 4 r i v fi C) → Q none (μ', fg_rho R, 304)) : fg_Ev E yy_Reader_keepNumber (d + 4) [.ref 255, .ref 4, .int (nI i)] (μ, fg_rho R, 304) 304 Q := by
  have hRW := hC.rw (t := 1) (by decide) (by decide)
  have hw0 := (hSH 1 (by decide)).1
  have hmx := hRW.2.1
  have hmx2 : C (pz_ci 1) ≤ 5 := hmx
  have hfi2 : 0 < i → fi < C (pz_ci 1) := hfi
  refine fg_intro (by decide +kernel) (Nat.le_of_ble_eq_true rfl) (fg_okAs rfl) (Nat.le_refl _) ?_
  refine fg_aloadn (fg_ft (pc := 0) tb_Reader_keepNumber 0 rfl) rfl ?_
  refine fg_aloadn (fg_ft (pc := 1) tb_Reader_keepNumber 1 rfl) rfl ?_
  refine fg_callV (fg_ft (pc := 2) tb_Reader_keepNumber 2 rfl) cf_Reader_176 (fg_isOf ly_255 rfl (fg_lt ly_255 (by decide))) (as := [.ref 4]) (st := []) rfl rfl (Nat.le_of_ble_eq_true rfl) (Nat.le_refl _) (Nat.le_refl _) (ev_Reader_rowsOf_4 ?_)
  refine fg_astoren (fg_ft (pc := 5) tb_Reader_keepNumber 3 rfl) (Nat.le_of_ble_eq_true rfl) ?_
  refine fg_aloadn (fg_ft (pc := 6) tb_Reader_keepNumber 4 rfl) rfl ?_
  refine fg_gets (fg_ft (pc := 7) tb_Reader_keepNumber 5 rfl) fs_Reader_214 ?_
  refine fg_acmp_ne (tgt := 36) (fg_ft (pc := 10) tb_Reader_keepNumber 6 rfl) (by decide) (by decide) (by decide) (fun _ => ?_) (fun h => absurd h (by decide))
  refine fg_aloadn (fg_ft (pc := 36) tb_Reader_keepNumber 17 rfl) rfl ?_
  refine fg_gets (fg_ft (pc := 37) tb_Reader_keepNumber 18 rfl) fs_Reader_223 ?_
  refine fg_acmp_ne (tgt := 57) (fg_ft (pc := 40) tb_Reader_keepNumber 19 rfl) (by decide) (by decide) (by decide) (fun _ => ?_) (fun h => absurd h (by decide))
  refine fg_aloadn (fg_ft (pc := 57) tb_Reader_keepNumber 26 rfl) rfl ?_
  refine fg_ifnonnull (tgt := 62) (fg_ft (pc := 58) tb_Reader_keepNumber 27 rfl) (by decide) ?_
  refine fg_aloadn (fg_ft (pc := 62) tb_Reader_keepNumber 29 rfl) rfl ?_
  refine fg_gets (fg_ft (pc := 63) tb_Reader_keepNumber 30 rfl) fs_Reader_143 ?_
  refine fg_acmp_eq (tgt := 76) (fg_ft (pc := 66) tb_Reader_keepNumber 31 rfl) (by decide) (by decide) (by decide) (fun h => absurd h (by decide)) (fun _ => ?_)
  refine fg_aloadn (fg_ft (pc := 69) tb_Reader_keepNumber 32 rfl) rfl ?_
  refine fg_gets (fg_ft (pc := 70) tb_Reader_keepNumber 33 rfl) fs_Reader_146 ?_
  refine fg_acmp_ne (tgt := 107) (fg_ft (pc := 73) tb_Reader_keepNumber 34 rfl) (by decide) (by decide) (by decide) (fun h => absurd rfl h) (fun _ => ?_)
  refine fg_iloadn (fg_ft (pc := 76) tb_Reader_keepNumber 35 rfl) rfl ?_
  refine fg_if_leN (tgt := 173) (fg_ft (pc := 77) tb_Reader_keepNumber 36 rfl) (by decide) (by omega) (fun c77 => ?_) (fun c77 => ?_)
  · exact fg_vret (fg_ft (pc := 173) tb_Reader_keepNumber 84 rfl) rfl rfl (hQ _ (fun _ _ _ => rfl) hSH (by have e9 : pz_kp 4 r i v fi C = C := (by unfold pz_kp; rw [if_neg (by decide), if_neg (by decide), if_pos (by decide), if_neg (by omega)]); rw [e9]; exact hC))
  · refine fg_aloadn (fg_ft (pc := 80) tb_Reader_keepNumber 37 rfl) rfl ?_
    refine fg_aloadn (fg_ft (pc := 81) tb_Reader_keepNumber 38 rfl) rfl ?_
    refine fg_getV (v := (nI fi)) (fg_ft (pc := 82) tb_Reader_keepNumber 39 rfl) ff_Reader_186 ly_255 rfl (fg_lt ly_255 (by decide)) (h13 (by omega)) ?_
    refine fg_aloadn (fg_ft (pc := 85) tb_Reader_keepNumber 40 rfl) rfl ?_
    refine fg_gets (fg_ft (pc := 86) tb_Reader_keepNumber 41 rfl) fs_Reader_143 ?_
    refine fg_acmp_ne (tgt := 96) (fg_ft (pc := 89) tb_Reader_keepNumber 42 rfl) (by decide) (by decide) (by decide) (fun _ => ?_) (fun h => absurd h (by decide))
    refine fg_iconst (fg_ft (pc := 96) tb_Reader_keepNumber 45 rfl) ic_2 ?_
    refine fg_aloadn (fg_ft (pc := 97) tb_Reader_keepNumber 46 rfl) rfl ?_
    refine fg_getV (v := (nI v)) (fg_ft (pc := 98) tb_Reader_keepNumber 47 rfl) ff_Reader_207 ly_255 rfl (fg_lt ly_255 (by decide)) h10 ?_
    refine fg_callV (fg_ft (pc := 101) tb_Reader_keepNumber 48 rfl) cf_Reader_229 (fg_isOf ly_259 rfl (fg_lt ly_259 (by decide))) (as := [.int (nI fi), .int (nI 2), .int (nI v)]) (st := []) rfl rfl (Nat.le_of_ble_eq_true rfl) (Nat.le_refl _) (Nat.le_refl _) (ev_Rows_putBit (i := fi) (j := 2) (b := v) (v := C (40 + (fi * 3 + 2))) (r := 259) (c := 260) (n := 15) (w := 3) (sz := C (pz_ci 1)) ⟨ly_259, rh_259_1 R, ly_260⟩ hw0 hRW.1 (by omega) (by decide) (by omega) (by omega) (by omega) (by omega) (hRW.2.2 _ (show fi * 3 + 2 < C (pz_ci 1) * 3 by omega)) ?_)
    show fg_wp _ _ _ _ _ _ _ _ _ (fg_u2 μ 260 (fi * 3 + 2) (nI (C (40 + (fi * 3 + 2)) ||| 2 ^ v)), fg_rho R, 304)
    refine fg_goto (tgt := 173) (fg_ft (pc := 104) tb_Reader_keepNumber 49 rfl) (by decide) ?_
    exact fg_vret (fg_ft (pc := 173) tb_Reader_keepNumber 84 rfl) rfl rfl (hQ _ (fun a j h => fg_u2ne (by omega)) (hSH.cells (t := 1) (by decide) (fun a h j => fg_u2ne h)) (by have e9 : pz_kp 4 r i v fi C = pz_up C (pz_bs 1 + (fi * 3 + 2)) (C (40 + (fi * 3 + 2)) ||| 2 ^ v) := (by unfold pz_kp; rw [if_neg (by decide), if_neg (by decide), if_pos (by decide), if_pos (by omega)]; rfl); rw [e9]; exact hC.put (t := 1) (k := (fi * 3 + 2)) (by decide) (by decide) (show fi * 3 + 2 < C (pz_ci 1) * 3 by omega)))
theorem ev_Reader_keepNumber_5 {E : fg_E} {d : Nat} {μ : Nat → Nat → Int32} {R : fg_T4} {Q : Option Value → fg_M → Prop} {i v r fi : Nat} {C : Nat → Nat} (hi : i < 2 ^ 30) (h10 : μ 255 10 = nI v) (hv : v ≤ 99) (hSH : pz_SH μ) (hC : pz_CT μ 0 C) (h14 : μ 255 14 = nI r) (hr : r < C (pz_ci 2)) (hil : i < 2) (hQ : ∀ μ' : Nat → Nat → Int32, (∀ a j, (a < 256 ∨ 271 < a) → μ' a j = μ a j) → pz_SH μ' → pz_CT μ' 0 (pz_kp 5 r i v fi C) → Q none (μ', fg_rho R, 304)) : fg_Ev E yy_Reader_keepNumber (d + 4) [.ref 255, .ref 5, .int (nI i)] (μ, fg_rho R, 304) 304 Q := by
  have hRW := hC.rw (t := 2) (by decide) (by decide)
  have hw0 := (hSH 2 (by decide)).1
  have hmx := hRW.2.1
  have hmx2 : C (pz_ci 2) ≤ 12 := hmx
  refine fg_intro (by decide +kernel) (Nat.le_of_ble_eq_true rfl) (fg_okAs rfl) (Nat.le_refl _) ?_
  refine fg_aloadn (fg_ft (pc := 0) tb_Reader_keepNumber 0 rfl) rfl ?_
  refine fg_aloadn (fg_ft (pc := 1) tb_Reader_keepNumber 1 rfl) rfl ?_
  refine fg_callV (fg_ft (pc := 2) tb_Reader_keepNumber 2 rfl) cf_Reader_176 (fg_isOf ly_255 rfl (fg_lt ly_255 (by decide))) (as := [.ref 5]) (st := []) rfl rfl (Nat.le_of_ble_eq_true rfl) (Nat.le_refl _) (Nat.le_refl _) (ev_Reader_rowsOf_5 ?_)
  refine fg_astoren (fg_ft (pc := 5) tb_Reader_keepNumber 3 rfl) (Nat.le_of_ble_eq_true rfl) ?_
  refine fg_aloadn (fg_ft (pc := 6) tb_Reader_keepNumber 4 rfl) rfl ?_
  refine fg_gets (fg_ft (pc := 7) tb_Reader_keepNumber 5 rfl) fs_Reader_214 ?_
  refine fg_acmp_ne (tgt := 36) (fg_ft (pc := 10) tb_Reader_keepNumber 6 rfl) (by decide) (by decide) (by decide) (fun _ => ?_) (fun h => absurd h (by decide))
  refine fg_aloadn (fg_ft (pc := 36) tb_Reader_keepNumber 17 rfl) rfl ?_
  refine fg_gets (fg_ft (pc := 37) tb_Reader_keepNumber 18 rfl) fs_Reader_223 ?_
  refine fg_acmp_ne (tgt := 57) (fg_ft (pc := 40) tb_Reader_keepNumber 19 rfl) (by decide) (by decide) (by decide) (fun _ => ?_) (fun h => absurd h (by decide))
  refine fg_aloadn (fg_ft (pc := 57) tb_Reader_keepNumber 26 rfl) rfl ?_
  refine fg_ifnonnull (tgt := 62) (fg_ft (pc := 58) tb_Reader_keepNumber 27 rfl) (by decide) ?_
  refine fg_aloadn (fg_ft (pc := 62) tb_Reader_keepNumber 29 rfl) rfl ?_
  refine fg_gets (fg_ft (pc := 63) tb_Reader_keepNumber 30 rfl) fs_Reader_143 ?_
  refine fg_acmp_eq (tgt := 76) (fg_ft (pc := 66) tb_Reader_keepNumber 31 rfl) (by decide) (by decide) (by decide) (fun h => absurd h (by decide)) (fun _ => ?_)
  refine fg_aloadn (fg_ft (pc := 69) tb_Reader_keepNumber 32 rfl) rfl ?_
  refine fg_gets (fg_ft (pc := 70) tb_Reader_keepNumber 33 rfl) fs_Reader_146 ?_
  refine fg_acmp_ne (tgt := 107) (fg_ft (pc := 73) tb_Reader_keepNumber 34 rfl) (by decide) (by decide) (by decide) (fun _ => ?_) (fun h => absurd h (by decide))
  refine fg_aloadn (fg_ft (pc := 107) tb_Reader_keepNumber 50 rfl) rfl ?_
  refine fg_callV (fg_ft (pc := 108) tb_Reader_keepNumber 51 rfl) cf_Reader_117 (Or.inr (pz_isW (w := 5) (by decide))) (as := []) (st := []) rfl rfl (Nat.le_of_ble_eq_true rfl) (Nat.le_refl _) (Nat.le_refl _) (ev_Word_sort_5 ?_)
  refine fg_iconst (fg_ft (pc := 111) tb_Reader_keepNumber 52 rfl) ic_1 ?_
  refine fg_icmp_neN (tgt := 133) (fg_ft (pc := 112) tb_Reader_keepNumber 53 rfl) (by decide) (by decide) (by decide) (fun c112 => ?_) (fun c112 => (absurd c112 (by decide)))
  refine fg_aloadn (fg_ft (pc := 133) tb_Reader_keepNumber 64 rfl) rfl ?_
  refine fg_getK (fg_ft (pc := 134) tb_Reader_keepNumber 65 rfl) fk_Reader_232_5 ?_
  refine fg_if_eq (tgt := 160) (fg_ft (pc := 137) tb_Reader_keepNumber 66 rfl) (by decide) (fun _ => ?_) (fun h => absurd h (by decide))
  refine fg_aloadn (fg_ft (pc := 160) tb_Reader_keepNumber 77 rfl) rfl ?_
  refine fg_aloadn (fg_ft (pc := 161) tb_Reader_keepNumber 78 rfl) rfl ?_
  refine fg_getV (v := (nI r)) (fg_ft (pc := 162) tb_Reader_keepNumber 79 rfl) ff_Reader_180 ly_255 rfl (fg_lt ly_255 (by decide)) h14 ?_
  refine fg_iloadn (fg_ft (pc := 165) tb_Reader_keepNumber 80 rfl) rfl ?_
  refine fg_aloadn (fg_ft (pc := 166) tb_Reader_keepNumber 81 rfl) rfl ?_
  refine fg_getV (v := (nI v)) (fg_ft (pc := 167) tb_Reader_keepNumber 82 rfl) ff_Reader_207 ly_255 rfl (fg_lt ly_255 (by decide)) h10 ?_
  refine fg_callV (fg_ft (pc := 170) tb_Reader_keepNumber 83 rfl) cf_Reader_199 (fg_isOf ly_261 rfl (fg_lt ly_261 (by decide))) (as := [.int (nI r), .int (nI i), .int (nI v)]) (st := []) rfl rfl (Nat.le_of_ble_eq_true rfl) (Nat.le_refl _) (Nat.le_refl _) (ev_Rows_put (i := r) (j := i) (r := 261) (c := 262) (n := 24) (w := 2) (sz := C (pz_ci 2)) ⟨ly_261, rh_261_1 R, ly_262⟩ hw0 hRW.1 (by omega) (by decide) (by omega) (by omega) (by omega) ?_)
  show fg_wp _ _ _ _ _ _ _ _ _ (fg_u2 μ 262 (r * 2 + i) (nI v), fg_rho R, 304)
  exact fg_vret (fg_ft (pc := 173) tb_Reader_keepNumber 84 rfl) rfl rfl (hQ _ (fun a j h => fg_u2ne (by omega)) (hSH.cells (t := 2) (by decide) (fun a h j => fg_u2ne h)) (by have e9 : pz_kp 5 r i v fi C = pz_up C (pz_bs 2 + (r * 2 + i)) v := rfl; rw [e9]; exact hC.put (t := 2) (k := (r * 2 + i)) (by decide) (by decide) (show r * 2 + i < C (pz_ci 2) * 2 by omega)))
theorem ev_Reader_keepNumber_6 {E : fg_E} {d : Nat} {μ : Nat → Nat → Int32} {R : fg_T4} {Q : Option Value → fg_M → Prop} {i v r fi : Nat} {C : Nat → Nat} (hi : i < 2 ^ 30) (h10 : μ 255 10 = nI v) (hv : v ≤ 99) (hSH : pz_SH μ) (hC : pz_CT μ 0 C) (h14 : μ 255 14 = nI r) (hr : r < C (pz_ci 3)) (hil : i < 4) (hQ : ∀ μ' : Nat → Nat → Int32, (∀ a j, (a < 256 ∨ 271 < a) → μ' a j = μ a j) → pz_SH μ' → pz_CT μ' 0 (pz_kp 6 r i v fi C) → Q none (μ', fg_rho R, 304)) : fg_Ev E yy_Reader_keepNumber (d + 4) [.ref 255, .ref 6, .int (nI i)] (μ, fg_rho R, 304) 304 Q := by
  have hRW := hC.rw (t := 3) (by decide) (by decide)
  have hw0 := (hSH 3 (by decide)).1
  have hmx := hRW.2.1
  have hmx2 : C (pz_ci 3) ≤ 12 := hmx
  refine fg_intro (by decide +kernel) (Nat.le_of_ble_eq_true rfl) (fg_okAs rfl) (Nat.le_refl _) ?_
  refine fg_aloadn (fg_ft (pc := 0) tb_Reader_keepNumber 0 rfl) rfl ?_
  refine fg_aloadn (fg_ft (pc := 1) tb_Reader_keepNumber 1 rfl) rfl ?_
  refine fg_callV (fg_ft (pc := 2) tb_Reader_keepNumber 2 rfl) cf_Reader_176 (fg_isOf ly_255 rfl (fg_lt ly_255 (by decide))) (as := [.ref 6]) (st := []) rfl rfl (Nat.le_of_ble_eq_true rfl) (Nat.le_refl _) (Nat.le_refl _) (ev_Reader_rowsOf_6 ?_)
  refine fg_astoren (fg_ft (pc := 5) tb_Reader_keepNumber 3 rfl) (Nat.le_of_ble_eq_true rfl) ?_
  refine fg_aloadn (fg_ft (pc := 6) tb_Reader_keepNumber 4 rfl) rfl ?_
  refine fg_gets (fg_ft (pc := 7) tb_Reader_keepNumber 5 rfl) fs_Reader_214 ?_
  refine fg_acmp_ne (tgt := 36) (fg_ft (pc := 10) tb_Reader_keepNumber 6 rfl) (by decide) (by decide) (by decide) (fun _ => ?_) (fun h => absurd h (by decide))
  refine fg_aloadn (fg_ft (pc := 36) tb_Reader_keepNumber 17 rfl) rfl ?_
  refine fg_gets (fg_ft (pc := 37) tb_Reader_keepNumber 18 rfl) fs_Reader_223 ?_
  refine fg_acmp_ne (tgt := 57) (fg_ft (pc := 40) tb_Reader_keepNumber 19 rfl) (by decide) (by decide) (by decide) (fun _ => ?_) (fun h => absurd h (by decide))
  refine fg_aloadn (fg_ft (pc := 57) tb_Reader_keepNumber 26 rfl) rfl ?_
  refine fg_ifnonnull (tgt := 62) (fg_ft (pc := 58) tb_Reader_keepNumber 27 rfl) (by decide) ?_
  refine fg_aloadn (fg_ft (pc := 62) tb_Reader_keepNumber 29 rfl) rfl ?_
  refine fg_gets (fg_ft (pc := 63) tb_Reader_keepNumber 30 rfl) fs_Reader_143 ?_
  refine fg_acmp_eq (tgt := 76) (fg_ft (pc := 66) tb_Reader_keepNumber 31 rfl) (by decide) (by decide) (by decide) (fun h => absurd h (by decide)) (fun _ => ?_)
  refine fg_aloadn (fg_ft (pc := 69) tb_Reader_keepNumber 32 rfl) rfl ?_
  refine fg_gets (fg_ft (pc := 70) tb_Reader_keepNumber 33 rfl) fs_Reader_146 ?_
  refine fg_acmp_ne (tgt := 107) (fg_ft (pc := 73) tb_Reader_keepNumber 34 rfl) (by decide) (by decide) (by decide) (fun _ => ?_) (fun h => absurd h (by decide))
  refine fg_aloadn (fg_ft (pc := 107) tb_Reader_keepNumber 50 rfl) rfl ?_
  refine fg_callV (fg_ft (pc := 108) tb_Reader_keepNumber 51 rfl) cf_Reader_117 (Or.inr (pz_isW (w := 6) (by decide))) (as := []) (st := []) rfl rfl (Nat.le_of_ble_eq_true rfl) (Nat.le_refl _) (Nat.le_refl _) (ev_Word_sort_6 ?_)
  refine fg_iconst (fg_ft (pc := 111) tb_Reader_keepNumber 52 rfl) ic_1 ?_
  refine fg_icmp_neN (tgt := 133) (fg_ft (pc := 112) tb_Reader_keepNumber 53 rfl) (by decide) (by decide) (by decide) (fun c112 => ?_) (fun c112 => (absurd c112 (by decide)))
  refine fg_aloadn (fg_ft (pc := 133) tb_Reader_keepNumber 64 rfl) rfl ?_
  refine fg_getK (fg_ft (pc := 134) tb_Reader_keepNumber 65 rfl) fk_Reader_232_6 ?_
  refine fg_if_eq (tgt := 160) (fg_ft (pc := 137) tb_Reader_keepNumber 66 rfl) (by decide) (fun _ => ?_) (fun h => absurd h (by decide))
  refine fg_aloadn (fg_ft (pc := 160) tb_Reader_keepNumber 77 rfl) rfl ?_
  refine fg_aloadn (fg_ft (pc := 161) tb_Reader_keepNumber 78 rfl) rfl ?_
  refine fg_getV (v := (nI r)) (fg_ft (pc := 162) tb_Reader_keepNumber 79 rfl) ff_Reader_180 ly_255 rfl (fg_lt ly_255 (by decide)) h14 ?_
  refine fg_iloadn (fg_ft (pc := 165) tb_Reader_keepNumber 80 rfl) rfl ?_
  refine fg_aloadn (fg_ft (pc := 166) tb_Reader_keepNumber 81 rfl) rfl ?_
  refine fg_getV (v := (nI v)) (fg_ft (pc := 167) tb_Reader_keepNumber 82 rfl) ff_Reader_207 ly_255 rfl (fg_lt ly_255 (by decide)) h10 ?_
  refine fg_callV (fg_ft (pc := 170) tb_Reader_keepNumber 83 rfl) cf_Reader_199 (fg_isOf ly_263 rfl (fg_lt ly_263 (by decide))) (as := [.int (nI r), .int (nI i), .int (nI v)]) (st := []) rfl rfl (Nat.le_of_ble_eq_true rfl) (Nat.le_refl _) (Nat.le_refl _) (ev_Rows_put (i := r) (j := i) (r := 263) (c := 264) (n := 48) (w := 4) (sz := C (pz_ci 3)) ⟨ly_263, rh_263_1 R, ly_264⟩ hw0 hRW.1 (by omega) (by decide) (by omega) (by omega) (by omega) ?_)
  show fg_wp _ _ _ _ _ _ _ _ _ (fg_u2 μ 264 (r * 4 + i) (nI v), fg_rho R, 304)
  exact fg_vret (fg_ft (pc := 173) tb_Reader_keepNumber 84 rfl) rfl rfl (hQ _ (fun a j h => fg_u2ne (by omega)) (hSH.cells (t := 3) (by decide) (fun a h j => fg_u2ne h)) (by have e9 : pz_kp 6 r i v fi C = pz_up C (pz_bs 3 + (r * 4 + i)) v := rfl; rw [e9]; exact hC.put (t := 3) (k := (r * 4 + i)) (by decide) (by decide) (show r * 4 + i < C (pz_ci 3) * 4 by omega)))
theorem ev_Reader_keepNumber_7 {E : fg_E} {d : Nat} {μ : Nat → Nat → Int32} {R : fg_T4} {Q : Option Value → fg_M → Prop} {i v r fi : Nat} {C : Nat → Nat} (hi : i < 2 ^ 30) (h10 : μ 255 10 = nI v) (hv : v ≤ 99) (hSH : pz_SH μ) (hC : pz_CT μ 0 C) (h14 : μ 255 14 = nI r) (hr : r < C (pz_ci 4)) (hv10 : 0 < i → v < 10) (hQ : ∀ μ' : Nat → Nat → Int32, (∀ a j, (a < 256 ∨ 271 < a) → μ' a j = μ a j) → pz_SH μ' → pz_CT μ' 0 (pz_kp 7 r i v fi C) → Q none (μ', fg_rho R, 304)) : fg_Ev E yy_Reader_keepNumber (d + 4) [.ref 255, .ref 7, .int (nI i)] (μ, fg_rho R, 304) 304 Q := by
  have hRW := hC.rw (t := 4) (by decide) (by decide)
  have hw0 := (hSH 4 (by decide)).1
  have hmx := hRW.2.1
  have hmx2 : C (pz_ci 4) ≤ 6 := hmx
  refine fg_intro (by decide +kernel) (Nat.le_of_ble_eq_true rfl) (fg_okAs rfl) (Nat.le_refl _) ?_
  refine fg_aloadn (fg_ft (pc := 0) tb_Reader_keepNumber 0 rfl) rfl ?_
  refine fg_aloadn (fg_ft (pc := 1) tb_Reader_keepNumber 1 rfl) rfl ?_
  refine fg_callV (fg_ft (pc := 2) tb_Reader_keepNumber 2 rfl) cf_Reader_176 (fg_isOf ly_255 rfl (fg_lt ly_255 (by decide))) (as := [.ref 7]) (st := []) rfl rfl (Nat.le_of_ble_eq_true rfl) (Nat.le_refl _) (Nat.le_refl _) (ev_Reader_rowsOf_7 ?_)
  refine fg_astoren (fg_ft (pc := 5) tb_Reader_keepNumber 3 rfl) (Nat.le_of_ble_eq_true rfl) ?_
  refine fg_aloadn (fg_ft (pc := 6) tb_Reader_keepNumber 4 rfl) rfl ?_
  refine fg_gets (fg_ft (pc := 7) tb_Reader_keepNumber 5 rfl) fs_Reader_214 ?_
  refine fg_acmp_ne (tgt := 36) (fg_ft (pc := 10) tb_Reader_keepNumber 6 rfl) (by decide) (by decide) (by decide) (fun _ => ?_) (fun h => absurd h (by decide))
  refine fg_aloadn (fg_ft (pc := 36) tb_Reader_keepNumber 17 rfl) rfl ?_
  refine fg_gets (fg_ft (pc := 37) tb_Reader_keepNumber 18 rfl) fs_Reader_223 ?_
  refine fg_acmp_ne (tgt := 57) (fg_ft (pc := 40) tb_Reader_keepNumber 19 rfl) (by decide) (by decide) (by decide) (fun _ => ?_) (fun h => absurd h (by decide))
  refine fg_aloadn (fg_ft (pc := 57) tb_Reader_keepNumber 26 rfl) rfl ?_
  refine fg_ifnonnull (tgt := 62) (fg_ft (pc := 58) tb_Reader_keepNumber 27 rfl) (by decide) ?_
  refine fg_aloadn (fg_ft (pc := 62) tb_Reader_keepNumber 29 rfl) rfl ?_
  refine fg_gets (fg_ft (pc := 63) tb_Reader_keepNumber 30 rfl) fs_Reader_143 ?_
  refine fg_acmp_eq (tgt := 76) (fg_ft (pc := 66) tb_Reader_keepNumber 31 rfl) (by decide) (by decide) (by decide) (fun h => absurd h (by decide)) (fun _ => ?_)
  refine fg_aloadn (fg_ft (pc := 69) tb_Reader_keepNumber 32 rfl) rfl ?_
  refine fg_gets (fg_ft (pc := 70) tb_Reader_keepNumber 33 rfl) fs_Reader_146 ?_
  refine fg_acmp_ne (tgt := 107) (fg_ft (pc := 73) tb_Reader_keepNumber 34 rfl) (by decide) (by decide) (by decide) (fun _ => ?_) (fun h => absurd h (by decide))
  refine fg_aloadn (fg_ft (pc := 107) tb_Reader_keepNumber 50 rfl) rfl ?_
  refine fg_callV (fg_ft (pc := 108) tb_Reader_keepNumber 51 rfl) cf_Reader_117 (Or.inr (pz_isW (w := 7) (by decide))) (as := []) (st := []) rfl rfl (Nat.le_of_ble_eq_true rfl) (Nat.le_refl _) (Nat.le_refl _) (ev_Word_sort_7 ?_)
  refine fg_iconst (fg_ft (pc := 111) tb_Reader_keepNumber 52 rfl) ic_1 ?_
  refine fg_icmp_neN (tgt := 133) (fg_ft (pc := 112) tb_Reader_keepNumber 53 rfl) (by decide) (by decide) (by decide) (fun c112 => ?_) (fun c112 => (absurd c112 (by decide)))
  refine fg_aloadn (fg_ft (pc := 133) tb_Reader_keepNumber 64 rfl) rfl ?_
  refine fg_getK (fg_ft (pc := 134) tb_Reader_keepNumber 65 rfl) fk_Reader_232_7 ?_
  refine fg_if_eq (tgt := 160) (fg_ft (pc := 137) tb_Reader_keepNumber 66 rfl) (by decide) (fun h => absurd h (by decide)) (fun _ => ?_)
  refine fg_iloadn (fg_ft (pc := 140) tb_Reader_keepNumber 67 rfl) rfl ?_
  refine fg_if_leN (tgt := 160) (fg_ft (pc := 141) tb_Reader_keepNumber 68 rfl) (by decide) (by omega) (fun c141 => ?_) (fun c141 => ?_)
  · refine fg_aloadn (fg_ft (pc := 160) tb_Reader_keepNumber 77 rfl) rfl ?_
    refine fg_aloadn (fg_ft (pc := 161) tb_Reader_keepNumber 78 rfl) rfl ?_
    refine fg_getV (v := (nI r)) (fg_ft (pc := 162) tb_Reader_keepNumber 79 rfl) ff_Reader_180 ly_255 rfl (fg_lt ly_255 (by decide)) h14 ?_
    refine fg_iloadn (fg_ft (pc := 165) tb_Reader_keepNumber 80 rfl) rfl ?_
    refine fg_aloadn (fg_ft (pc := 166) tb_Reader_keepNumber 81 rfl) rfl ?_
    refine fg_getV (v := (nI v)) (fg_ft (pc := 167) tb_Reader_keepNumber 82 rfl) ff_Reader_207 ly_255 rfl (fg_lt ly_255 (by decide)) h10 ?_
    refine fg_callV (fg_ft (pc := 170) tb_Reader_keepNumber 83 rfl) cf_Reader_199 (fg_isOf ly_265 rfl (fg_lt ly_265 (by decide))) (as := [.int (nI r), .int (nI i), .int (nI v)]) (st := []) rfl rfl (Nat.le_of_ble_eq_true rfl) (Nat.le_refl _) (Nat.le_refl _) (ev_Rows_put (i := r) (j := i) (r := 265) (c := 266) (n := 12) (w := 2) (sz := C (pz_ci 4)) ⟨ly_265, rh_265_1 R, ly_266⟩ hw0 hRW.1 (by omega) (by decide) (by omega) (by omega) (by omega) ?_)
    show fg_wp _ _ _ _ _ _ _ _ _ (fg_u2 μ 266 (r * 2 + i) (nI v), fg_rho R, 304)
    exact fg_vret (fg_ft (pc := 173) tb_Reader_keepNumber 84 rfl) rfl rfl (hQ _ (fun a j h => fg_u2ne (by omega)) (hSH.cells (t := 4) (by decide) (fun a h j => fg_u2ne h)) (by have e9 : pz_kp 7 r i v fi C = pz_up C (pz_bs 4 + (r * 2 + i)) v := (by unfold pz_kp; rw [if_neg (by decide), if_neg (by decide), if_neg (by decide), if_neg (by decide), if_neg (by omega)]; rfl); rw [e9]; exact hC.put (t := 4) (k := (r * 2 + i)) (by decide) (by decide) (show r * 2 + i < C (pz_ci 4) * 2 by omega)))
  · refine fg_aloadn (fg_ft (pc := 144) tb_Reader_keepNumber 69 rfl) rfl ?_
    refine fg_aloadn (fg_ft (pc := 145) tb_Reader_keepNumber 70 rfl) rfl ?_
    refine fg_getV (v := (nI r)) (fg_ft (pc := 146) tb_Reader_keepNumber 71 rfl) ff_Reader_180 ly_255 rfl (fg_lt ly_255 (by decide)) h14 ?_
    refine fg_iconst (fg_ft (pc := 149) tb_Reader_keepNumber 72 rfl) ic_1 ?_
    refine fg_aloadn (fg_ft (pc := 150) tb_Reader_keepNumber 73 rfl) rfl ?_
    refine fg_getV (v := (nI v)) (fg_ft (pc := 151) tb_Reader_keepNumber 74 rfl) ff_Reader_207 ly_255 rfl (fg_lt ly_255 (by decide)) h10 ?_
    refine fg_callV (fg_ft (pc := 154) tb_Reader_keepNumber 75 rfl) cf_Reader_229 (fg_isOf ly_265 rfl (fg_lt ly_265 (by decide))) (as := [.int (nI r), .int (nI 1), .int (nI v)]) (st := []) rfl rfl (Nat.le_of_ble_eq_true rfl) (Nat.le_refl _) (Nat.le_refl _) (ev_Rows_putBit (i := r) (j := 1) (b := v) (v := C (127 + (r * 2 + 1))) (r := 265) (c := 266) (n := 12) (w := 2) (sz := C (pz_ci 4)) ⟨ly_265, rh_265_1 R, ly_266⟩ hw0 hRW.1 (by omega) (by decide) (by omega) (by omega) (by omega) (by omega) (hRW.2.2 _ (show r * 2 + 1 < C (pz_ci 4) * 2 by omega)) ?_)
    show fg_wp _ _ _ _ _ _ _ _ _ (fg_u2 μ 266 (r * 2 + 1) (nI (C (127 + (r * 2 + 1)) ||| 2 ^ v)), fg_rho R, 304)
    refine fg_goto (tgt := 173) (fg_ft (pc := 157) tb_Reader_keepNumber 76 rfl) (by decide) ?_
    exact fg_vret (fg_ft (pc := 173) tb_Reader_keepNumber 84 rfl) rfl rfl (hQ _ (fun a j h => fg_u2ne (by omega)) (hSH.cells (t := 4) (by decide) (fun a h j => fg_u2ne h)) (by have e9 : pz_kp 7 r i v fi C = pz_up C (pz_bs 4 + (r * 2 + 1)) (C (127 + (r * 2 + 1)) ||| 2 ^ v) := (by unfold pz_kp; rw [if_neg (by decide), if_neg (by decide), if_neg (by decide), if_neg (by decide), if_pos ⟨rfl, by omega⟩]; rfl); rw [e9]; exact hC.put (t := 4) (k := (r * 2 + 1)) (by decide) (by decide) (show r * 2 + 1 < C (pz_ci 4) * 2 by omega)))
theorem ev_Reader_keepNumber_8 {E : fg_E} {d : Nat} {μ : Nat → Nat → Int32} {R : fg_T4} {Q : Option Value → fg_M → Prop} {i v r fi : Nat} {C : Nat → Nat} (hi : i < 2 ^ 30) (h10 : μ 255 10 = nI v) (hv : v ≤ 99) (hSH : pz_SH μ) (hC : pz_CT μ 0 C) (h14 : μ 255 14 = nI r) (hr : r < C (pz_ci 5)) (hv10 : 0 < i → v < 10) (hQ : ∀ μ' : Nat → Nat → Int32, (∀ a j, (a < 256 ∨ 271 < a) → μ' a j = μ a j) → pz_SH μ' → pz_CT μ' 0 (pz_kp 8 r i v fi C) → Q none (μ', fg_rho R, 304)) : fg_Ev E yy_Reader_keepNumber (d + 4) [.ref 255, .ref 8, .int (nI i)] (μ, fg_rho R, 304) 304 Q := by
  have hRW := hC.rw (t := 5) (by decide) (by decide)
  have hw0 := (hSH 5 (by decide)).1
  have hmx := hRW.2.1
  have hmx2 : C (pz_ci 5) ≤ 6 := hmx
  refine fg_intro (by decide +kernel) (Nat.le_of_ble_eq_true rfl) (fg_okAs rfl) (Nat.le_refl _) ?_
  refine fg_aloadn (fg_ft (pc := 0) tb_Reader_keepNumber 0 rfl) rfl ?_
  refine fg_aloadn (fg_ft (pc := 1) tb_Reader_keepNumber 1 rfl) rfl ?_
  refine fg_callV (fg_ft (pc := 2) tb_Reader_keepNumber 2 rfl) cf_Reader_176 (fg_isOf ly_255 rfl (fg_lt ly_255 (by decide))) (as := [.ref 8]) (st := []) rfl rfl (Nat.le_of_ble_eq_true rfl) (Nat.le_refl _) (Nat.le_refl _) (ev_Reader_rowsOf_8 ?_)
  refine fg_astoren (fg_ft (pc := 5) tb_Reader_keepNumber 3 rfl) (Nat.le_of_ble_eq_true rfl) ?_
  refine fg_aloadn (fg_ft (pc := 6) tb_Reader_keepNumber 4 rfl) rfl ?_
  refine fg_gets (fg_ft (pc := 7) tb_Reader_keepNumber 5 rfl) fs_Reader_214 ?_
  refine fg_acmp_ne (tgt := 36) (fg_ft (pc := 10) tb_Reader_keepNumber 6 rfl) (by decide) (by decide) (by decide) (fun _ => ?_) (fun h => absurd h (by decide))
  refine fg_aloadn (fg_ft (pc := 36) tb_Reader_keepNumber 17 rfl) rfl ?_
  refine fg_gets (fg_ft (pc := 37) tb_Reader_keepNumber 18 rfl) fs_Reader_223 ?_
  refine fg_acmp_ne (tgt := 57) (fg_ft (pc := 40) tb_Reader_keepNumber 19 rfl) (by decide) (by decide) (by decide) (fun _ => ?_) (fun h => absurd h (by decide))
  refine fg_aloadn (fg_ft (pc := 57) tb_Reader_keepNumber 26 rfl) rfl ?_
  refine fg_ifnonnull (tgt := 62) (fg_ft (pc := 58) tb_Reader_keepNumber 27 rfl) (by decide) ?_
  refine fg_aloadn (fg_ft (pc := 62) tb_Reader_keepNumber 29 rfl) rfl ?_
  refine fg_gets (fg_ft (pc := 63) tb_Reader_keepNumber 30 rfl) fs_Reader_143 ?_
  refine fg_acmp_eq (tgt := 76) (fg_ft (pc := 66) tb_Reader_keepNumber 31 rfl) (by decide) (by decide) (by decide) (fun h => absurd h (by decide)) (fun _ => ?_)
  refine fg_aloadn (fg_ft (pc := 69) tb_Reader_keepNumber 32 rfl) rfl ?_
  refine fg_gets (fg_ft (pc := 70) tb_Reader_keepNumber 33 rfl) fs_Reader_146 ?_
  refine fg_acmp_ne (tgt := 107) (fg_ft (pc := 73) tb_Reader_keepNumber 34 rfl) (by decide) (by decide) (by decide) (fun _ => ?_) (fun h => absurd h (by decide))
  refine fg_aloadn (fg_ft (pc := 107) tb_Reader_keepNumber 50 rfl) rfl ?_
  refine fg_callV (fg_ft (pc := 108) tb_Reader_keepNumber 51 rfl) cf_Reader_117 (Or.inr (pz_isW (w := 8) (by decide))) (as := []) (st := []) rfl rfl (Nat.le_of_ble_eq_true rfl) (Nat.le_refl _) (Nat.le_refl _) (ev_Word_sort_8 ?_)
  refine fg_iconst (fg_ft (pc := 111) tb_Reader_keepNumber 52 rfl) ic_1 ?_
  refine fg_icmp_neN (tgt := 133) (fg_ft (pc := 112) tb_Reader_keepNumber 53 rfl) (by decide) (by decide) (by decide) (fun c112 => ?_) (fun c112 => (absurd c112 (by decide)))
  refine fg_aloadn (fg_ft (pc := 133) tb_Reader_keepNumber 64 rfl) rfl ?_
  refine fg_getK (fg_ft (pc := 134) tb_Reader_keepNumber 65 rfl) fk_Reader_232_8 ?_
  refine fg_if_eq (tgt := 160) (fg_ft (pc := 137) tb_Reader_keepNumber 66 rfl) (by decide) (fun h => absurd h (by decide)) (fun _ => ?_)
  refine fg_iloadn (fg_ft (pc := 140) tb_Reader_keepNumber 67 rfl) rfl ?_
  refine fg_if_leN (tgt := 160) (fg_ft (pc := 141) tb_Reader_keepNumber 68 rfl) (by decide) (by omega) (fun c141 => ?_) (fun c141 => ?_)
  · refine fg_aloadn (fg_ft (pc := 160) tb_Reader_keepNumber 77 rfl) rfl ?_
    refine fg_aloadn (fg_ft (pc := 161) tb_Reader_keepNumber 78 rfl) rfl ?_
    refine fg_getV (v := (nI r)) (fg_ft (pc := 162) tb_Reader_keepNumber 79 rfl) ff_Reader_180 ly_255 rfl (fg_lt ly_255 (by decide)) h14 ?_
    refine fg_iloadn (fg_ft (pc := 165) tb_Reader_keepNumber 80 rfl) rfl ?_
    refine fg_aloadn (fg_ft (pc := 166) tb_Reader_keepNumber 81 rfl) rfl ?_
    refine fg_getV (v := (nI v)) (fg_ft (pc := 167) tb_Reader_keepNumber 82 rfl) ff_Reader_207 ly_255 rfl (fg_lt ly_255 (by decide)) h10 ?_
    refine fg_callV (fg_ft (pc := 170) tb_Reader_keepNumber 83 rfl) cf_Reader_199 (fg_isOf ly_267 rfl (fg_lt ly_267 (by decide))) (as := [.int (nI r), .int (nI i), .int (nI v)]) (st := []) rfl rfl (Nat.le_of_ble_eq_true rfl) (Nat.le_refl _) (Nat.le_refl _) (ev_Rows_put (i := r) (j := i) (r := 267) (c := 268) (n := 12) (w := 2) (sz := C (pz_ci 5)) ⟨ly_267, rh_267_1 R, ly_268⟩ hw0 hRW.1 (by omega) (by decide) (by omega) (by omega) (by omega) ?_)
    show fg_wp _ _ _ _ _ _ _ _ _ (fg_u2 μ 268 (r * 2 + i) (nI v), fg_rho R, 304)
    exact fg_vret (fg_ft (pc := 173) tb_Reader_keepNumber 84 rfl) rfl rfl (hQ _ (fun a j h => fg_u2ne (by omega)) (hSH.cells (t := 5) (by decide) (fun a h j => fg_u2ne h)) (by have e9 : pz_kp 8 r i v fi C = pz_up C (pz_bs 5 + (r * 2 + i)) v := (by unfold pz_kp; rw [if_neg (by decide), if_neg (by decide), if_neg (by decide), if_neg (by decide), if_neg (by omega)]; rfl); rw [e9]; exact hC.put (t := 5) (k := (r * 2 + i)) (by decide) (by decide) (show r * 2 + i < C (pz_ci 5) * 2 by omega)))
  · refine fg_aloadn (fg_ft (pc := 144) tb_Reader_keepNumber 69 rfl) rfl ?_
    refine fg_aloadn (fg_ft (pc := 145) tb_Reader_keepNumber 70 rfl) rfl ?_
    refine fg_getV (v := (nI r)) (fg_ft (pc := 146) tb_Reader_keepNumber 71 rfl) ff_Reader_180 ly_255 rfl (fg_lt ly_255 (by decide)) h14 ?_
    refine fg_iconst (fg_ft (pc := 149) tb_Reader_keepNumber 72 rfl) ic_1 ?_
    refine fg_aloadn (fg_ft (pc := 150) tb_Reader_keepNumber 73 rfl) rfl ?_
    refine fg_getV (v := (nI v)) (fg_ft (pc := 151) tb_Reader_keepNumber 74 rfl) ff_Reader_207 ly_255 rfl (fg_lt ly_255 (by decide)) h10 ?_
    refine fg_callV (fg_ft (pc := 154) tb_Reader_keepNumber 75 rfl) cf_Reader_229 (fg_isOf ly_267 rfl (fg_lt ly_267 (by decide))) (as := [.int (nI r), .int (nI 1), .int (nI v)]) (st := []) rfl rfl (Nat.le_of_ble_eq_true rfl) (Nat.le_refl _) (Nat.le_refl _) (ev_Rows_putBit (i := r) (j := 1) (b := v) (v := C (139 + (r * 2 + 1))) (r := 267) (c := 268) (n := 12) (w := 2) (sz := C (pz_ci 5)) ⟨ly_267, rh_267_1 R, ly_268⟩ hw0 hRW.1 (by omega) (by decide) (by omega) (by omega) (by omega) (by omega) (hRW.2.2 _ (show r * 2 + 1 < C (pz_ci 5) * 2 by omega)) ?_)
    show fg_wp _ _ _ _ _ _ _ _ _ (fg_u2 μ 268 (r * 2 + 1) (nI (C (139 + (r * 2 + 1)) ||| 2 ^ v)), fg_rho R, 304)
    refine fg_goto (tgt := 173) (fg_ft (pc := 157) tb_Reader_keepNumber 76 rfl) (by decide) ?_
    exact fg_vret (fg_ft (pc := 173) tb_Reader_keepNumber 84 rfl) rfl rfl (hQ _ (fun a j h => fg_u2ne (by omega)) (hSH.cells (t := 5) (by decide) (fun a h j => fg_u2ne h)) (by have e9 : pz_kp 8 r i v fi C = pz_up C (pz_bs 5 + (r * 2 + 1)) (C (139 + (r * 2 + 1)) ||| 2 ^ v) := (by unfold pz_kp; rw [if_neg (by decide), if_neg (by decide), if_neg (by decide), if_neg (by decide), if_pos ⟨rfl, by omega⟩]; rfl); rw [e9]; exact hC.put (t := 5) (k := (r * 2 + 1)) (by decide) (by decide) (show r * 2 + 1 < C (pz_ci 5) * 2 by omega)))
theorem ev_Reader_keepNumber_9 {E : fg_E} {d : Nat} {μ : Nat → Nat → Int32} {R : fg_T4} {Q : Option Value → fg_M → Prop} {i v r fi : Nat} {C : Nat → Nat} (hi : i < 2 ^ 30) (h10 : μ 255 10 = nI v) (hv : v ≤ 99) (hSH : pz_SH μ) (hC : pz_CT μ 0 C) (hQ : ∀ μ' : Nat → Nat → Int32, (∀ a j, (a < 256 ∨ 271 < a) → μ' a j = μ a j) → pz_SH μ' → pz_CT μ' 0 (pz_kp 9 r i v fi C) → Q none (μ', fg_rho R, 304)) : fg_Ev E yy_Reader_keepNumber (d + 4) [.ref 255, .ref 9, .int (nI i)] (μ, fg_rho R, 304) 304 Q := by
  refine fg_intro (by decide +kernel) (Nat.le_of_ble_eq_true rfl) (fg_okAs rfl) (Nat.le_refl _) ?_
  refine fg_aloadn (fg_ft (pc := 0) tb_Reader_keepNumber 0 rfl) rfl ?_
  refine fg_aloadn (fg_ft (pc := 1) tb_Reader_keepNumber 1 rfl) rfl ?_
  refine fg_callV (fg_ft (pc := 2) tb_Reader_keepNumber 2 rfl) cf_Reader_176 (fg_isOf ly_255 rfl (fg_lt ly_255 (by decide))) (as := [.ref 9]) (st := []) rfl rfl (Nat.le_of_ble_eq_true rfl) (Nat.le_refl _) (Nat.le_refl _) (ev_Reader_rowsOf_9 ?_)
  refine fg_astorenN (fg_ft (pc := 5) tb_Reader_keepNumber 3 rfl) (Nat.le_of_ble_eq_true rfl) ?_
  refine fg_aloadn (fg_ft (pc := 6) tb_Reader_keepNumber 4 rfl) rfl ?_
  refine fg_gets (fg_ft (pc := 7) tb_Reader_keepNumber 5 rfl) fs_Reader_214 ?_
  refine fg_acmp_ne (tgt := 36) (fg_ft (pc := 10) tb_Reader_keepNumber 6 rfl) (by decide) (by decide) (by decide) (fun _ => ?_) (fun h => absurd h (by decide))
  refine fg_aloadn (fg_ft (pc := 36) tb_Reader_keepNumber 17 rfl) rfl ?_
  refine fg_gets (fg_ft (pc := 37) tb_Reader_keepNumber 18 rfl) fs_Reader_223 ?_
  refine fg_acmp_ne (tgt := 57) (fg_ft (pc := 40) tb_Reader_keepNumber 19 rfl) (by decide) (by decide) (by decide) (fun h => absurd rfl h) (fun _ => ?_)
  refine fg_aloadn (fg_ft (pc := 43) tb_Reader_keepNumber 20 rfl) rfl ?_
  refine fg_getR (fg_ft (pc := 44) tb_Reader_keepNumber 21 rfl) ff_Reader_12 ly_255 rfl (fg_lt ly_255 (by decide)) (rh_255_0 R) ?_
  refine fg_aloadn (fg_ft (pc := 47) tb_Reader_keepNumber 22 rfl) rfl ?_
  refine fg_getV (v := (nI v)) (fg_ft (pc := 48) tb_Reader_keepNumber 23 rfl) ff_Reader_207 ly_255 rfl (fg_lt ly_255 (by decide)) h10 ?_
  refine fg_putI (fg_ft (pc := 51) tb_Reader_keepNumber 24 rfl) ff_Reader_226 ly_256 rfl (fg_lt ly_256 (by decide)) (fg_nokI _) (fun _ _ h => by cases h; rfl) ?_
  show fg_wp _ _ _ _ _ _ _ _ _ (fg_u2 μ 256 1 (nI v), fg_rho R, 304)
  refine fg_goto (tgt := 173) (fg_ft (pc := 54) tb_Reader_keepNumber 25 rfl) (by decide) ?_
  exact fg_vret (fg_ft (pc := 173) tb_Reader_keepNumber 84 rfl) rfl rfl (hQ _ (fun a j h => fg_u2nx (by omega)) hSH.put256 (hC.fac (j := 1) (k := 7) (v := v) (Or.inr ⟨rfl, rfl⟩)))
theorem ev_Reader_keepNumber_10 {E : fg_E} {d : Nat} {μ : Nat → Nat → Int32} {R : fg_T4} {Q : Option Value → fg_M → Prop} {i v r fi : Nat} {C : Nat → Nat} (hi : i < 2 ^ 30) (h10 : μ 255 10 = nI v) (hv : v ≤ 99) (hSH : pz_SH μ) (hC : pz_CT μ 1 C) (h14 : μ 255 14 = nI r) (hr : r < C (pz_ci 6)) (hil : i < 2) (hQ : ∀ μ' : Nat → Nat → Int32, (∀ a j, (a < 256 ∨ 271 < a) → μ' a j = μ a j) → pz_SH μ' → pz_CT μ' 1 (pz_kp 10 r i v fi C) → Q none (μ', fg_rho R, 304)) : fg_Ev E yy_Reader_keepNumber (d + 4) [.ref 255, .ref 10, .int (nI i)] (μ, fg_rho R, 304) 304 Q := by
  have hRW := hC.rw (t := 6) (by decide) (by decide)
  have hw0 := (hSH 6 (by decide)).1
  have hmx := hRW.2.1
  have hmx2 : C (pz_ci 6) ≤ 30 := hmx
  refine fg_intro (by decide +kernel) (Nat.le_of_ble_eq_true rfl) (fg_okAs rfl) (Nat.le_refl _) ?_
  refine fg_aloadn (fg_ft (pc := 0) tb_Reader_keepNumber 0 rfl) rfl ?_
  refine fg_aloadn (fg_ft (pc := 1) tb_Reader_keepNumber 1 rfl) rfl ?_
  refine fg_callV (fg_ft (pc := 2) tb_Reader_keepNumber 2 rfl) cf_Reader_176 (fg_isOf ly_255 rfl (fg_lt ly_255 (by decide))) (as := [.ref 10]) (st := []) rfl rfl (Nat.le_of_ble_eq_true rfl) (Nat.le_refl _) (Nat.le_refl _) (ev_Reader_rowsOf_10 ?_)
  refine fg_astoren (fg_ft (pc := 5) tb_Reader_keepNumber 3 rfl) (Nat.le_of_ble_eq_true rfl) ?_
  refine fg_aloadn (fg_ft (pc := 6) tb_Reader_keepNumber 4 rfl) rfl ?_
  refine fg_gets (fg_ft (pc := 7) tb_Reader_keepNumber 5 rfl) fs_Reader_214 ?_
  refine fg_acmp_ne (tgt := 36) (fg_ft (pc := 10) tb_Reader_keepNumber 6 rfl) (by decide) (by decide) (by decide) (fun _ => ?_) (fun h => absurd h (by decide))
  refine fg_aloadn (fg_ft (pc := 36) tb_Reader_keepNumber 17 rfl) rfl ?_
  refine fg_gets (fg_ft (pc := 37) tb_Reader_keepNumber 18 rfl) fs_Reader_223 ?_
  refine fg_acmp_ne (tgt := 57) (fg_ft (pc := 40) tb_Reader_keepNumber 19 rfl) (by decide) (by decide) (by decide) (fun _ => ?_) (fun h => absurd h (by decide))
  refine fg_aloadn (fg_ft (pc := 57) tb_Reader_keepNumber 26 rfl) rfl ?_
  refine fg_ifnonnull (tgt := 62) (fg_ft (pc := 58) tb_Reader_keepNumber 27 rfl) (by decide) ?_
  refine fg_aloadn (fg_ft (pc := 62) tb_Reader_keepNumber 29 rfl) rfl ?_
  refine fg_gets (fg_ft (pc := 63) tb_Reader_keepNumber 30 rfl) fs_Reader_143 ?_
  refine fg_acmp_eq (tgt := 76) (fg_ft (pc := 66) tb_Reader_keepNumber 31 rfl) (by decide) (by decide) (by decide) (fun h => absurd h (by decide)) (fun _ => ?_)
  refine fg_aloadn (fg_ft (pc := 69) tb_Reader_keepNumber 32 rfl) rfl ?_
  refine fg_gets (fg_ft (pc := 70) tb_Reader_keepNumber 33 rfl) fs_Reader_146 ?_
  refine fg_acmp_ne (tgt := 107) (fg_ft (pc := 73) tb_Reader_keepNumber 34 rfl) (by decide) (by decide) (by decide) (fun _ => ?_) (fun h => absurd h (by decide))
  refine fg_aloadn (fg_ft (pc := 107) tb_Reader_keepNumber 50 rfl) rfl ?_
  refine fg_callV (fg_ft (pc := 108) tb_Reader_keepNumber 51 rfl) cf_Reader_117 (Or.inr (pz_isW (w := 10) (by decide))) (as := []) (st := []) rfl rfl (Nat.le_of_ble_eq_true rfl) (Nat.le_refl _) (Nat.le_refl _) (ev_Word_sort_10 ?_)
  refine fg_iconst (fg_ft (pc := 111) tb_Reader_keepNumber 52 rfl) ic_1 ?_
  refine fg_icmp_neN (tgt := 133) (fg_ft (pc := 112) tb_Reader_keepNumber 53 rfl) (by decide) (by decide) (by decide) (fun c112 => (absurd rfl c112)) (fun c112 => ?_)
  refine fg_aloadn (fg_ft (pc := 115) tb_Reader_keepNumber 54 rfl) rfl ?_
  refine fg_aloadn (fg_ft (pc := 116) tb_Reader_keepNumber 55 rfl) rfl ?_
  refine fg_getV (v := (nI r)) (fg_ft (pc := 117) tb_Reader_keepNumber 56 rfl) ff_Reader_180 ly_255 rfl (fg_lt ly_255 (by decide)) h14 ?_
  refine fg_iloadn (fg_ft (pc := 120) tb_Reader_keepNumber 57 rfl) rfl ?_
  refine fg_iconst (fg_ft (pc := 121) tb_Reader_keepNumber 58 rfl) ic_1 ?_
  refine fg_iaddN (fg_ft (pc := 122) tb_Reader_keepNumber 59 rfl) ?_
  refine fg_aloadn (fg_ft (pc := 123) tb_Reader_keepNumber 60 rfl) rfl ?_
  refine fg_getV (v := (nI v)) (fg_ft (pc := 124) tb_Reader_keepNumber 61 rfl) ff_Reader_207 ly_255 rfl (fg_lt ly_255 (by decide)) h10 ?_
  refine fg_callV (fg_ft (pc := 127) tb_Reader_keepNumber 62 rfl) cf_Reader_199 (fg_isOf ly_270 rfl (fg_lt ly_270 (by decide))) (as := [.int (nI r), .int (nI (i + 1)), .int (nI v)]) (st := []) rfl rfl (Nat.le_of_ble_eq_true rfl) (Nat.le_refl _) (Nat.le_refl _) (ev_Rows_put (i := r) (j := (i + 1)) (r := 270) (c := 271) (n := 120) (w := 4) (sz := C (pz_ci 6)) ⟨ly_270, rh_270_1 R, ly_271⟩ hw0 hRW.1 (by omega) (by decide) (by omega) (by omega) (by omega) ?_)
  show fg_wp _ _ _ _ _ _ _ _ _ (fg_u2 μ 271 (r * 4 + (i + 1)) (nI v), fg_rho R, 304)
  refine fg_goto (tgt := 173) (fg_ft (pc := 130) tb_Reader_keepNumber 63 rfl) (by decide) ?_
  exact fg_vret (fg_ft (pc := 173) tb_Reader_keepNumber 84 rfl) rfl rfl (hQ _ (fun a j h => fg_u2ne (by omega)) (hSH.cells (t := 6) (by decide) (fun a h j => fg_u2ne h)) (by have e9 : pz_kp 10 r i v fi C = pz_up C (pz_bs 6 + (r * 4 + (i + 1))) v := rfl; rw [e9]; exact hC.put (t := 6) (k := (r * 4 + (i + 1))) (by decide) (by decide) (show r * 4 + (i + 1) < C (pz_ci 6) * 4 by omega)))
theorem ev_Reader_keepNumber_11 {E : fg_E} {d : Nat} {μ : Nat → Nat → Int32} {R : fg_T4} {Q : Option Value → fg_M → Prop} {i v r fi : Nat} {C : Nat → Nat} (hi : i < 2 ^ 30) (h10 : μ 255 10 = nI v) (hv : v ≤ 99) (hSH : pz_SH μ) (hC : pz_CT μ 1 C) (h14 : μ 255 14 = nI r) (hr : r < C (pz_ci 6)) (hil : i < 2) (hQ : ∀ μ' : Nat → Nat → Int32, (∀ a j, (a < 256 ∨ 271 < a) → μ' a j = μ a j) → pz_SH μ' → pz_CT μ' 1 (pz_kp 11 r i v fi C) → Q none (μ', fg_rho R, 304)) : fg_Ev E yy_Reader_keepNumber (d + 4) [.ref 255, .ref 11, .int (nI i)] (μ, fg_rho R, 304) 304 Q := by
  have hRW := hC.rw (t := 6) (by decide) (by decide)
  have hw0 := (hSH 6 (by decide)).1
  have hmx := hRW.2.1
  have hmx2 : C (pz_ci 6) ≤ 30 := hmx
  refine fg_intro (by decide +kernel) (Nat.le_of_ble_eq_true rfl) (fg_okAs rfl) (Nat.le_refl _) ?_
  refine fg_aloadn (fg_ft (pc := 0) tb_Reader_keepNumber 0 rfl) rfl ?_
  refine fg_aloadn (fg_ft (pc := 1) tb_Reader_keepNumber 1 rfl) rfl ?_
  refine fg_callV (fg_ft (pc := 2) tb_Reader_keepNumber 2 rfl) cf_Reader_176 (fg_isOf ly_255 rfl (fg_lt ly_255 (by decide))) (as := [.ref 11]) (st := []) rfl rfl (Nat.le_of_ble_eq_true rfl) (Nat.le_refl _) (Nat.le_refl _) (ev_Reader_rowsOf_11 ?_)
  refine fg_astoren (fg_ft (pc := 5) tb_Reader_keepNumber 3 rfl) (Nat.le_of_ble_eq_true rfl) ?_
  refine fg_aloadn (fg_ft (pc := 6) tb_Reader_keepNumber 4 rfl) rfl ?_
  refine fg_gets (fg_ft (pc := 7) tb_Reader_keepNumber 5 rfl) fs_Reader_214 ?_
  refine fg_acmp_ne (tgt := 36) (fg_ft (pc := 10) tb_Reader_keepNumber 6 rfl) (by decide) (by decide) (by decide) (fun _ => ?_) (fun h => absurd h (by decide))
  refine fg_aloadn (fg_ft (pc := 36) tb_Reader_keepNumber 17 rfl) rfl ?_
  refine fg_gets (fg_ft (pc := 37) tb_Reader_keepNumber 18 rfl) fs_Reader_223 ?_
  refine fg_acmp_ne (tgt := 57) (fg_ft (pc := 40) tb_Reader_keepNumber 19 rfl) (by decide) (by decide) (by decide) (fun _ => ?_) (fun h => absurd h (by decide))
  refine fg_aloadn (fg_ft (pc := 57) tb_Reader_keepNumber 26 rfl) rfl ?_
  refine fg_ifnonnull (tgt := 62) (fg_ft (pc := 58) tb_Reader_keepNumber 27 rfl) (by decide) ?_
  refine fg_aloadn (fg_ft (pc := 62) tb_Reader_keepNumber 29 rfl) rfl ?_
  refine fg_gets (fg_ft (pc := 63) tb_Reader_keepNumber 30 rfl) fs_Reader_143 ?_
  refine fg_acmp_eq (tgt := 76) (fg_ft (pc := 66) tb_Reader_keepNumber 31 rfl) (by decide) (by decide) (by decide) (fun h => absurd h (by decide)) (fun _ => ?_)
  refine fg_aloadn (fg_ft (pc := 69) tb_Reader_keepNumber 32 rfl) rfl ?_
  refine fg_gets (fg_ft (pc := 70) tb_Reader_keepNumber 33 rfl) fs_Reader_146 ?_
  refine fg_acmp_ne (tgt := 107) (fg_ft (pc := 73) tb_Reader_keepNumber 34 rfl) (by decide) (by decide) (by decide) (fun _ => ?_) (fun h => absurd h (by decide))
  refine fg_aloadn (fg_ft (pc := 107) tb_Reader_keepNumber 50 rfl) rfl ?_
  refine fg_callV (fg_ft (pc := 108) tb_Reader_keepNumber 51 rfl) cf_Reader_117 (Or.inr (pz_isW (w := 11) (by decide))) (as := []) (st := []) rfl rfl (Nat.le_of_ble_eq_true rfl) (Nat.le_refl _) (Nat.le_refl _) (ev_Word_sort_11 ?_)
  refine fg_iconst (fg_ft (pc := 111) tb_Reader_keepNumber 52 rfl) ic_1 ?_
  refine fg_icmp_neN (tgt := 133) (fg_ft (pc := 112) tb_Reader_keepNumber 53 rfl) (by decide) (by decide) (by decide) (fun c112 => (absurd rfl c112)) (fun c112 => ?_)
  refine fg_aloadn (fg_ft (pc := 115) tb_Reader_keepNumber 54 rfl) rfl ?_
  refine fg_aloadn (fg_ft (pc := 116) tb_Reader_keepNumber 55 rfl) rfl ?_
  refine fg_getV (v := (nI r)) (fg_ft (pc := 117) tb_Reader_keepNumber 56 rfl) ff_Reader_180 ly_255 rfl (fg_lt ly_255 (by decide)) h14 ?_
  refine fg_iloadn (fg_ft (pc := 120) tb_Reader_keepNumber 57 rfl) rfl ?_
  refine fg_iconst (fg_ft (pc := 121) tb_Reader_keepNumber 58 rfl) ic_1 ?_
  refine fg_iaddN (fg_ft (pc := 122) tb_Reader_keepNumber 59 rfl) ?_
  refine fg_aloadn (fg_ft (pc := 123) tb_Reader_keepNumber 60 rfl) rfl ?_
  refine fg_getV (v := (nI v)) (fg_ft (pc := 124) tb_Reader_keepNumber 61 rfl) ff_Reader_207 ly_255 rfl (fg_lt ly_255 (by decide)) h10 ?_
  refine fg_callV (fg_ft (pc := 127) tb_Reader_keepNumber 62 rfl) cf_Reader_199 (fg_isOf ly_270 rfl (fg_lt ly_270 (by decide))) (as := [.int (nI r), .int (nI (i + 1)), .int (nI v)]) (st := []) rfl rfl (Nat.le_of_ble_eq_true rfl) (Nat.le_refl _) (Nat.le_refl _) (ev_Rows_put (i := r) (j := (i + 1)) (r := 270) (c := 271) (n := 120) (w := 4) (sz := C (pz_ci 6)) ⟨ly_270, rh_270_1 R, ly_271⟩ hw0 hRW.1 (by omega) (by decide) (by omega) (by omega) (by omega) ?_)
  show fg_wp _ _ _ _ _ _ _ _ _ (fg_u2 μ 271 (r * 4 + (i + 1)) (nI v), fg_rho R, 304)
  refine fg_goto (tgt := 173) (fg_ft (pc := 130) tb_Reader_keepNumber 63 rfl) (by decide) ?_
  exact fg_vret (fg_ft (pc := 173) tb_Reader_keepNumber 84 rfl) rfl rfl (hQ _ (fun a j h => fg_u2ne (by omega)) (hSH.cells (t := 6) (by decide) (fun a h j => fg_u2ne h)) (by have e9 : pz_kp 11 r i v fi C = pz_up C (pz_bs 6 + (r * 4 + (i + 1))) v := rfl; rw [e9]; exact hC.put (t := 6) (k := (r * 4 + (i + 1))) (by decide) (by decide) (show r * 4 + (i + 1) < C (pz_ci 6) * 4 by omega)))
theorem ev_Reader_keepNumber_12 {E : fg_E} {d : Nat} {μ : Nat → Nat → Int32} {R : fg_T4} {Q : Option Value → fg_M → Prop} {i v r fi : Nat} {C : Nat → Nat} (hi : i < 2 ^ 30) (h10 : μ 255 10 = nI v) (hv : v ≤ 99) (hSH : pz_SH μ) (hC : pz_CT μ 1 C) (h14 : μ 255 14 = nI r) (hr : r < C (pz_ci 6)) (hil : i < 2) (hQ : ∀ μ' : Nat → Nat → Int32, (∀ a j, (a < 256 ∨ 271 < a) → μ' a j = μ a j) → pz_SH μ' → pz_CT μ' 1 (pz_kp 12 r i v fi C) → Q none (μ', fg_rho R, 304)) : fg_Ev E yy_Reader_keepNumber (d + 4) [.ref 255, .ref 12, .int (nI i)] (μ, fg_rho R, 304) 304 Q := by
  have hRW := hC.rw (t := 6) (by decide) (by decide)
  have hw0 := (hSH 6 (by decide)).1
  have hmx := hRW.2.1
  have hmx2 : C (pz_ci 6) ≤ 30 := hmx
  refine fg_intro (by decide +kernel) (Nat.le_of_ble_eq_true rfl) (fg_okAs rfl) (Nat.le_refl _) ?_
  refine fg_aloadn (fg_ft (pc := 0) tb_Reader_keepNumber 0 rfl) rfl ?_
  refine fg_aloadn (fg_ft (pc := 1) tb_Reader_keepNumber 1 rfl) rfl ?_
  refine fg_callV (fg_ft (pc := 2) tb_Reader_keepNumber 2 rfl) cf_Reader_176 (fg_isOf ly_255 rfl (fg_lt ly_255 (by decide))) (as := [.ref 12]) (st := []) rfl rfl (Nat.le_of_ble_eq_true rfl) (Nat.le_refl _) (Nat.le_refl _) (ev_Reader_rowsOf_12 ?_)
  refine fg_astoren (fg_ft (pc := 5) tb_Reader_keepNumber 3 rfl) (Nat.le_of_ble_eq_true rfl) ?_
  refine fg_aloadn (fg_ft (pc := 6) tb_Reader_keepNumber 4 rfl) rfl ?_
  refine fg_gets (fg_ft (pc := 7) tb_Reader_keepNumber 5 rfl) fs_Reader_214 ?_
  refine fg_acmp_ne (tgt := 36) (fg_ft (pc := 10) tb_Reader_keepNumber 6 rfl) (by decide) (by decide) (by decide) (fun _ => ?_) (fun h => absurd h (by decide))
  refine fg_aloadn (fg_ft (pc := 36) tb_Reader_keepNumber 17 rfl) rfl ?_
  refine fg_gets (fg_ft (pc := 37) tb_Reader_keepNumber 18 rfl) fs_Reader_223 ?_
  refine fg_acmp_ne (tgt := 57) (fg_ft (pc := 40) tb_Reader_keepNumber 19 rfl) (by decide) (by decide) (by decide) (fun _ => ?_) (fun h => absurd h (by decide))
  refine fg_aloadn (fg_ft (pc := 57) tb_Reader_keepNumber 26 rfl) rfl ?_
  refine fg_ifnonnull (tgt := 62) (fg_ft (pc := 58) tb_Reader_keepNumber 27 rfl) (by decide) ?_
  refine fg_aloadn (fg_ft (pc := 62) tb_Reader_keepNumber 29 rfl) rfl ?_
  refine fg_gets (fg_ft (pc := 63) tb_Reader_keepNumber 30 rfl) fs_Reader_143 ?_
  refine fg_acmp_eq (tgt := 76) (fg_ft (pc := 66) tb_Reader_keepNumber 31 rfl) (by decide) (by decide) (by decide) (fun h => absurd h (by decide)) (fun _ => ?_)
  refine fg_aloadn (fg_ft (pc := 69) tb_Reader_keepNumber 32 rfl) rfl ?_
  refine fg_gets (fg_ft (pc := 70) tb_Reader_keepNumber 33 rfl) fs_Reader_146 ?_
  refine fg_acmp_ne (tgt := 107) (fg_ft (pc := 73) tb_Reader_keepNumber 34 rfl) (by decide) (by decide) (by decide) (fun _ => ?_) (fun h => absurd h (by decide))
  refine fg_aloadn (fg_ft (pc := 107) tb_Reader_keepNumber 50 rfl) rfl ?_
  refine fg_callV (fg_ft (pc := 108) tb_Reader_keepNumber 51 rfl) cf_Reader_117 (Or.inr (pz_isW (w := 12) (by decide))) (as := []) (st := []) rfl rfl (Nat.le_of_ble_eq_true rfl) (Nat.le_refl _) (Nat.le_refl _) (ev_Word_sort_12 ?_)
  refine fg_iconst (fg_ft (pc := 111) tb_Reader_keepNumber 52 rfl) ic_1 ?_
  refine fg_icmp_neN (tgt := 133) (fg_ft (pc := 112) tb_Reader_keepNumber 53 rfl) (by decide) (by decide) (by decide) (fun c112 => (absurd rfl c112)) (fun c112 => ?_)
  refine fg_aloadn (fg_ft (pc := 115) tb_Reader_keepNumber 54 rfl) rfl ?_
  refine fg_aloadn (fg_ft (pc := 116) tb_Reader_keepNumber 55 rfl) rfl ?_
  refine fg_getV (v := (nI r)) (fg_ft (pc := 117) tb_Reader_keepNumber 56 rfl) ff_Reader_180 ly_255 rfl (fg_lt ly_255 (by decide)) h14 ?_
  refine fg_iloadn (fg_ft (pc := 120) tb_Reader_keepNumber 57 rfl) rfl ?_
  refine fg_iconst (fg_ft (pc := 121) tb_Reader_keepNumber 58 rfl) ic_1 ?_
  refine fg_iaddN (fg_ft (pc := 122) tb_Reader_keepNumber 59 rfl) ?_
  refine fg_aloadn (fg_ft (pc := 123) tb_Reader_keepNumber 60 rfl) rfl ?_
  refine fg_getV (v := (nI v)) (fg_ft (pc := 124) tb_Reader_keepNumber 61 rfl) ff_Reader_207 ly_255 rfl (fg_lt ly_255 (by decide)) h10 ?_
  refine fg_callV (fg_ft (pc := 127) tb_Reader_keepNumber 62 rfl) cf_Reader_199 (fg_isOf ly_270 rfl (fg_lt ly_270 (by decide))) (as := [.int (nI r), .int (nI (i + 1)), .int (nI v)]) (st := []) rfl rfl (Nat.le_of_ble_eq_true rfl) (Nat.le_refl _) (Nat.le_refl _) (ev_Rows_put (i := r) (j := (i + 1)) (r := 270) (c := 271) (n := 120) (w := 4) (sz := C (pz_ci 6)) ⟨ly_270, rh_270_1 R, ly_271⟩ hw0 hRW.1 (by omega) (by decide) (by omega) (by omega) (by omega) ?_)
  show fg_wp _ _ _ _ _ _ _ _ _ (fg_u2 μ 271 (r * 4 + (i + 1)) (nI v), fg_rho R, 304)
  refine fg_goto (tgt := 173) (fg_ft (pc := 130) tb_Reader_keepNumber 63 rfl) (by decide) ?_
  exact fg_vret (fg_ft (pc := 173) tb_Reader_keepNumber 84 rfl) rfl rfl (hQ _ (fun a j h => fg_u2ne (by omega)) (hSH.cells (t := 6) (by decide) (fun a h j => fg_u2ne h)) (by have e9 : pz_kp 12 r i v fi C = pz_up C (pz_bs 6 + (r * 4 + (i + 1))) v := rfl; rw [e9]; exact hC.put (t := 6) (k := (r * 4 + (i + 1))) (by decide) (by decide) (show r * 4 + (i + 1) < C (pz_ci 6) * 4 by omega)))
theorem ev_Reader_keepNumber_13 {E : fg_E} {d : Nat} {μ : Nat → Nat → Int32} {R : fg_T4} {Q : Option Value → fg_M → Prop} {i v r fi : Nat} {C : Nat → Nat} (hi : i < 2 ^ 30) (h10 : μ 255 10 = nI v) (hv : v ≤ 99) (hSH : pz_SH μ) (hC : pz_CT μ 1 C) (h14 : μ 255 14 = nI r) (hr : r < C (pz_ci 6)) (hil : i < 2) (hQ : ∀ μ' : Nat → Nat → Int32, (∀ a j, (a < 256 ∨ 271 < a) → μ' a j = μ a j) → pz_SH μ' → pz_CT μ' 1 (pz_kp 13 r i v fi C) → Q none (μ', fg_rho R, 304)) : fg_Ev E yy_Reader_keepNumber (d + 4) [.ref 255, .ref 13, .int (nI i)] (μ, fg_rho R, 304) 304 Q := by
  have hRW := hC.rw (t := 6) (by decide) (by decide)
  have hw0 := (hSH 6 (by decide)).1
  have hmx := hRW.2.1
  have hmx2 : C (pz_ci 6) ≤ 30 := hmx
  refine fg_intro (by decide +kernel) (Nat.le_of_ble_eq_true rfl) (fg_okAs rfl) (Nat.le_refl _) ?_
  refine fg_aloadn (fg_ft (pc := 0) tb_Reader_keepNumber 0 rfl) rfl ?_
  refine fg_aloadn (fg_ft (pc := 1) tb_Reader_keepNumber 1 rfl) rfl ?_
  refine fg_callV (fg_ft (pc := 2) tb_Reader_keepNumber 2 rfl) cf_Reader_176 (fg_isOf ly_255 rfl (fg_lt ly_255 (by decide))) (as := [.ref 13]) (st := []) rfl rfl (Nat.le_of_ble_eq_true rfl) (Nat.le_refl _) (Nat.le_refl _) (ev_Reader_rowsOf_13 ?_)
  refine fg_astoren (fg_ft (pc := 5) tb_Reader_keepNumber 3 rfl) (Nat.le_of_ble_eq_true rfl) ?_
  refine fg_aloadn (fg_ft (pc := 6) tb_Reader_keepNumber 4 rfl) rfl ?_
  refine fg_gets (fg_ft (pc := 7) tb_Reader_keepNumber 5 rfl) fs_Reader_214 ?_
  refine fg_acmp_ne (tgt := 36) (fg_ft (pc := 10) tb_Reader_keepNumber 6 rfl) (by decide) (by decide) (by decide) (fun _ => ?_) (fun h => absurd h (by decide))
  refine fg_aloadn (fg_ft (pc := 36) tb_Reader_keepNumber 17 rfl) rfl ?_
  refine fg_gets (fg_ft (pc := 37) tb_Reader_keepNumber 18 rfl) fs_Reader_223 ?_
  refine fg_acmp_ne (tgt := 57) (fg_ft (pc := 40) tb_Reader_keepNumber 19 rfl) (by decide) (by decide) (by decide) (fun _ => ?_) (fun h => absurd h (by decide))
  refine fg_aloadn (fg_ft (pc := 57) tb_Reader_keepNumber 26 rfl) rfl ?_
  refine fg_ifnonnull (tgt := 62) (fg_ft (pc := 58) tb_Reader_keepNumber 27 rfl) (by decide) ?_
  refine fg_aloadn (fg_ft (pc := 62) tb_Reader_keepNumber 29 rfl) rfl ?_
  refine fg_gets (fg_ft (pc := 63) tb_Reader_keepNumber 30 rfl) fs_Reader_143 ?_
  refine fg_acmp_eq (tgt := 76) (fg_ft (pc := 66) tb_Reader_keepNumber 31 rfl) (by decide) (by decide) (by decide) (fun h => absurd h (by decide)) (fun _ => ?_)
  refine fg_aloadn (fg_ft (pc := 69) tb_Reader_keepNumber 32 rfl) rfl ?_
  refine fg_gets (fg_ft (pc := 70) tb_Reader_keepNumber 33 rfl) fs_Reader_146 ?_
  refine fg_acmp_ne (tgt := 107) (fg_ft (pc := 73) tb_Reader_keepNumber 34 rfl) (by decide) (by decide) (by decide) (fun _ => ?_) (fun h => absurd h (by decide))
  refine fg_aloadn (fg_ft (pc := 107) tb_Reader_keepNumber 50 rfl) rfl ?_
  refine fg_callV (fg_ft (pc := 108) tb_Reader_keepNumber 51 rfl) cf_Reader_117 (Or.inr (pz_isW (w := 13) (by decide))) (as := []) (st := []) rfl rfl (Nat.le_of_ble_eq_true rfl) (Nat.le_refl _) (Nat.le_refl _) (ev_Word_sort_13 ?_)
  refine fg_iconst (fg_ft (pc := 111) tb_Reader_keepNumber 52 rfl) ic_1 ?_
  refine fg_icmp_neN (tgt := 133) (fg_ft (pc := 112) tb_Reader_keepNumber 53 rfl) (by decide) (by decide) (by decide) (fun c112 => (absurd rfl c112)) (fun c112 => ?_)
  refine fg_aloadn (fg_ft (pc := 115) tb_Reader_keepNumber 54 rfl) rfl ?_
  refine fg_aloadn (fg_ft (pc := 116) tb_Reader_keepNumber 55 rfl) rfl ?_
  refine fg_getV (v := (nI r)) (fg_ft (pc := 117) tb_Reader_keepNumber 56 rfl) ff_Reader_180 ly_255 rfl (fg_lt ly_255 (by decide)) h14 ?_
  refine fg_iloadn (fg_ft (pc := 120) tb_Reader_keepNumber 57 rfl) rfl ?_
  refine fg_iconst (fg_ft (pc := 121) tb_Reader_keepNumber 58 rfl) ic_1 ?_
  refine fg_iaddN (fg_ft (pc := 122) tb_Reader_keepNumber 59 rfl) ?_
  refine fg_aloadn (fg_ft (pc := 123) tb_Reader_keepNumber 60 rfl) rfl ?_
  refine fg_getV (v := (nI v)) (fg_ft (pc := 124) tb_Reader_keepNumber 61 rfl) ff_Reader_207 ly_255 rfl (fg_lt ly_255 (by decide)) h10 ?_
  refine fg_callV (fg_ft (pc := 127) tb_Reader_keepNumber 62 rfl) cf_Reader_199 (fg_isOf ly_270 rfl (fg_lt ly_270 (by decide))) (as := [.int (nI r), .int (nI (i + 1)), .int (nI v)]) (st := []) rfl rfl (Nat.le_of_ble_eq_true rfl) (Nat.le_refl _) (Nat.le_refl _) (ev_Rows_put (i := r) (j := (i + 1)) (r := 270) (c := 271) (n := 120) (w := 4) (sz := C (pz_ci 6)) ⟨ly_270, rh_270_1 R, ly_271⟩ hw0 hRW.1 (by omega) (by decide) (by omega) (by omega) (by omega) ?_)
  show fg_wp _ _ _ _ _ _ _ _ _ (fg_u2 μ 271 (r * 4 + (i + 1)) (nI v), fg_rho R, 304)
  refine fg_goto (tgt := 173) (fg_ft (pc := 130) tb_Reader_keepNumber 63 rfl) (by decide) ?_
  exact fg_vret (fg_ft (pc := 173) tb_Reader_keepNumber 84 rfl) rfl rfl (hQ _ (fun a j h => fg_u2ne (by omega)) (hSH.cells (t := 6) (by decide) (fun a h j => fg_u2ne h)) (by have e9 : pz_kp 13 r i v fi C = pz_up C (pz_bs 6 + (r * 4 + (i + 1))) v := rfl; rw [e9]; exact hC.put (t := 6) (k := (r * 4 + (i + 1))) (by decide) (by decide) (show r * 4 + (i + 1) < C (pz_ci 6) * 4 by omega)))
theorem ev_Reader_keepNumber_14 {E : fg_E} {d : Nat} {μ : Nat → Nat → Int32} {R : fg_T4} {Q : Option Value → fg_M → Prop} {i v r fi : Nat} {C : Nat → Nat} (hi : i < 2 ^ 30) (h10 : μ 255 10 = nI v) (hv : v ≤ 99) (hSH : pz_SH μ) (hC : pz_CT μ 1 C) (h14 : μ 255 14 = nI r) (hr : r < C (pz_ci 6)) (hil : i < 2) (hQ : ∀ μ' : Nat → Nat → Int32, (∀ a j, (a < 256 ∨ 271 < a) → μ' a j = μ a j) → pz_SH μ' → pz_CT μ' 1 (pz_kp 14 r i v fi C) → Q none (μ', fg_rho R, 304)) : fg_Ev E yy_Reader_keepNumber (d + 4) [.ref 255, .ref 14, .int (nI i)] (μ, fg_rho R, 304) 304 Q := by
  have hRW := hC.rw (t := 6) (by decide) (by decide)
  have hw0 := (hSH 6 (by decide)).1
  have hmx := hRW.2.1
  have hmx2 : C (pz_ci 6) ≤ 30 := hmx
  refine fg_intro (by decide +kernel) (Nat.le_of_ble_eq_true rfl) (fg_okAs rfl) (Nat.le_refl _) ?_
  refine fg_aloadn (fg_ft (pc := 0) tb_Reader_keepNumber 0 rfl) rfl ?_
  refine fg_aloadn (fg_ft (pc := 1) tb_Reader_keepNumber 1 rfl) rfl ?_
  refine fg_callV (fg_ft (pc := 2) tb_Reader_keepNumber 2 rfl) cf_Reader_176 (fg_isOf ly_255 rfl (fg_lt ly_255 (by decide))) (as := [.ref 14]) (st := []) rfl rfl (Nat.le_of_ble_eq_true rfl) (Nat.le_refl _) (Nat.le_refl _) (ev_Reader_rowsOf_14 ?_)
  refine fg_astoren (fg_ft (pc := 5) tb_Reader_keepNumber 3 rfl) (Nat.le_of_ble_eq_true rfl) ?_
  refine fg_aloadn (fg_ft (pc := 6) tb_Reader_keepNumber 4 rfl) rfl ?_
  refine fg_gets (fg_ft (pc := 7) tb_Reader_keepNumber 5 rfl) fs_Reader_214 ?_
  refine fg_acmp_ne (tgt := 36) (fg_ft (pc := 10) tb_Reader_keepNumber 6 rfl) (by decide) (by decide) (by decide) (fun _ => ?_) (fun h => absurd h (by decide))
  refine fg_aloadn (fg_ft (pc := 36) tb_Reader_keepNumber 17 rfl) rfl ?_
  refine fg_gets (fg_ft (pc := 37) tb_Reader_keepNumber 18 rfl) fs_Reader_223 ?_
  refine fg_acmp_ne (tgt := 57) (fg_ft (pc := 40) tb_Reader_keepNumber 19 rfl) (by decide) (by decide) (by decide) (fun _ => ?_) (fun h => absurd h (by decide))
  refine fg_aloadn (fg_ft (pc := 57) tb_Reader_keepNumber 26 rfl) rfl ?_
  refine fg_ifnonnull (tgt := 62) (fg_ft (pc := 58) tb_Reader_keepNumber 27 rfl) (by decide) ?_
  refine fg_aloadn (fg_ft (pc := 62) tb_Reader_keepNumber 29 rfl) rfl ?_
  refine fg_gets (fg_ft (pc := 63) tb_Reader_keepNumber 30 rfl) fs_Reader_143 ?_
  refine fg_acmp_eq (tgt := 76) (fg_ft (pc := 66) tb_Reader_keepNumber 31 rfl) (by decide) (by decide) (by decide) (fun h => absurd h (by decide)) (fun _ => ?_)
  refine fg_aloadn (fg_ft (pc := 69) tb_Reader_keepNumber 32 rfl) rfl ?_
  refine fg_gets (fg_ft (pc := 70) tb_Reader_keepNumber 33 rfl) fs_Reader_146 ?_
  refine fg_acmp_ne (tgt := 107) (fg_ft (pc := 73) tb_Reader_keepNumber 34 rfl) (by decide) (by decide) (by decide) (fun _ => ?_) (fun h => absurd h (by decide))
  refine fg_aloadn (fg_ft (pc := 107) tb_Reader_keepNumber 50 rfl) rfl ?_
  refine fg_callV (fg_ft (pc := 108) tb_Reader_keepNumber 51 rfl) cf_Reader_117 (Or.inr (pz_isW (w := 14) (by decide))) (as := []) (st := []) rfl rfl (Nat.le_of_ble_eq_true rfl) (Nat.le_refl _) (Nat.le_refl _) (ev_Word_sort_14 ?_)
  refine fg_iconst (fg_ft (pc := 111) tb_Reader_keepNumber 52 rfl) ic_1 ?_
  refine fg_icmp_neN (tgt := 133) (fg_ft (pc := 112) tb_Reader_keepNumber 53 rfl) (by decide) (by decide) (by decide) (fun c112 => (absurd rfl c112)) (fun c112 => ?_)
  refine fg_aloadn (fg_ft (pc := 115) tb_Reader_keepNumber 54 rfl) rfl ?_
  refine fg_aloadn (fg_ft (pc := 116) tb_Reader_keepNumber 55 rfl) rfl ?_
  refine fg_getV (v := (nI r)) (fg_ft (pc := 117) tb_Reader_keepNumber 56 rfl) ff_Reader_180 ly_255 rfl (fg_lt ly_255 (by decide)) h14 ?_
  refine fg_iloadn (fg_ft (pc := 120) tb_Reader_keepNumber 57 rfl) rfl ?_
  refine fg_iconst (fg_ft (pc := 121) tb_Reader_keepNumber 58 rfl) ic_1 ?_
  refine fg_iaddN (fg_ft (pc := 122) tb_Reader_keepNumber 59 rfl) ?_
  refine fg_aloadn (fg_ft (pc := 123) tb_Reader_keepNumber 60 rfl) rfl ?_
  refine fg_getV (v := (nI v)) (fg_ft (pc := 124) tb_Reader_keepNumber 61 rfl) ff_Reader_207 ly_255 rfl (fg_lt ly_255 (by decide)) h10 ?_
  refine fg_callV (fg_ft (pc := 127) tb_Reader_keepNumber 62 rfl) cf_Reader_199 (fg_isOf ly_270 rfl (fg_lt ly_270 (by decide))) (as := [.int (nI r), .int (nI (i + 1)), .int (nI v)]) (st := []) rfl rfl (Nat.le_of_ble_eq_true rfl) (Nat.le_refl _) (Nat.le_refl _) (ev_Rows_put (i := r) (j := (i + 1)) (r := 270) (c := 271) (n := 120) (w := 4) (sz := C (pz_ci 6)) ⟨ly_270, rh_270_1 R, ly_271⟩ hw0 hRW.1 (by omega) (by decide) (by omega) (by omega) (by omega) ?_)
  show fg_wp _ _ _ _ _ _ _ _ _ (fg_u2 μ 271 (r * 4 + (i + 1)) (nI v), fg_rho R, 304)
  refine fg_goto (tgt := 173) (fg_ft (pc := 130) tb_Reader_keepNumber 63 rfl) (by decide) ?_
  exact fg_vret (fg_ft (pc := 173) tb_Reader_keepNumber 84 rfl) rfl rfl (hQ _ (fun a j h => fg_u2ne (by omega)) (hSH.cells (t := 6) (by decide) (fun a h j => fg_u2ne h)) (by have e9 : pz_kp 14 r i v fi C = pz_up C (pz_bs 6 + (r * 4 + (i + 1))) v := rfl; rw [e9]; exact hC.put (t := 6) (k := (r * 4 + (i + 1))) (by decide) (by decide) (show r * 4 + (i + 1) < C (pz_ci 6) * 4 by omega)))
theorem ev_Reader_keepNumber_15 {E : fg_E} {d : Nat} {μ : Nat → Nat → Int32} {R : fg_T4} {Q : Option Value → fg_M → Prop} {i v r fi : Nat} {C : Nat → Nat} (hi : i < 2 ^ 30) (h10 : μ 255 10 = nI v) (hv : v ≤ 99) (hSH : pz_SH μ) (hC : pz_CT μ 1 C) (h14 : μ 255 14 = nI r) (hr : r < C (pz_ci 6)) (hil : i < 3) (hQ : ∀ μ' : Nat → Nat → Int32, (∀ a j, (a < 256 ∨ 271 < a) → μ' a j = μ a j) → pz_SH μ' → pz_CT μ' 1 (pz_kp 15 r i v fi C) → Q none (μ', fg_rho R, 304)) : fg_Ev E yy_Reader_keepNumber (d + 4) [.ref 255, .ref 15, .int (nI i)] (μ, fg_rho R, 304) 304 Q := by
  have hRW := hC.rw (t := 6) (by decide) (by decide)
  have hw0 := (hSH 6 (by decide)).1
  have hmx := hRW.2.1
  have hmx2 : C (pz_ci 6) ≤ 30 := hmx
  refine fg_intro (by decide +kernel) (Nat.le_of_ble_eq_true rfl) (fg_okAs rfl) (Nat.le_refl _) ?_
  refine fg_aloadn (fg_ft (pc := 0) tb_Reader_keepNumber 0 rfl) rfl ?_
  refine fg_aloadn (fg_ft (pc := 1) tb_Reader_keepNumber 1 rfl) rfl ?_
  refine fg_callV (fg_ft (pc := 2) tb_Reader_keepNumber 2 rfl) cf_Reader_176 (fg_isOf ly_255 rfl (fg_lt ly_255 (by decide))) (as := [.ref 15]) (st := []) rfl rfl (Nat.le_of_ble_eq_true rfl) (Nat.le_refl _) (Nat.le_refl _) (ev_Reader_rowsOf_15 ?_)
  refine fg_astoren (fg_ft (pc := 5) tb_Reader_keepNumber 3 rfl) (Nat.le_of_ble_eq_true rfl) ?_
  refine fg_aloadn (fg_ft (pc := 6) tb_Reader_keepNumber 4 rfl) rfl ?_
  refine fg_gets (fg_ft (pc := 7) tb_Reader_keepNumber 5 rfl) fs_Reader_214 ?_
  refine fg_acmp_ne (tgt := 36) (fg_ft (pc := 10) tb_Reader_keepNumber 6 rfl) (by decide) (by decide) (by decide) (fun _ => ?_) (fun h => absurd h (by decide))
  refine fg_aloadn (fg_ft (pc := 36) tb_Reader_keepNumber 17 rfl) rfl ?_
  refine fg_gets (fg_ft (pc := 37) tb_Reader_keepNumber 18 rfl) fs_Reader_223 ?_
  refine fg_acmp_ne (tgt := 57) (fg_ft (pc := 40) tb_Reader_keepNumber 19 rfl) (by decide) (by decide) (by decide) (fun _ => ?_) (fun h => absurd h (by decide))
  refine fg_aloadn (fg_ft (pc := 57) tb_Reader_keepNumber 26 rfl) rfl ?_
  refine fg_ifnonnull (tgt := 62) (fg_ft (pc := 58) tb_Reader_keepNumber 27 rfl) (by decide) ?_
  refine fg_aloadn (fg_ft (pc := 62) tb_Reader_keepNumber 29 rfl) rfl ?_
  refine fg_gets (fg_ft (pc := 63) tb_Reader_keepNumber 30 rfl) fs_Reader_143 ?_
  refine fg_acmp_eq (tgt := 76) (fg_ft (pc := 66) tb_Reader_keepNumber 31 rfl) (by decide) (by decide) (by decide) (fun h => absurd h (by decide)) (fun _ => ?_)
  refine fg_aloadn (fg_ft (pc := 69) tb_Reader_keepNumber 32 rfl) rfl ?_
  refine fg_gets (fg_ft (pc := 70) tb_Reader_keepNumber 33 rfl) fs_Reader_146 ?_
  refine fg_acmp_ne (tgt := 107) (fg_ft (pc := 73) tb_Reader_keepNumber 34 rfl) (by decide) (by decide) (by decide) (fun _ => ?_) (fun h => absurd h (by decide))
  refine fg_aloadn (fg_ft (pc := 107) tb_Reader_keepNumber 50 rfl) rfl ?_
  refine fg_callV (fg_ft (pc := 108) tb_Reader_keepNumber 51 rfl) cf_Reader_117 (Or.inr (pz_isW (w := 15) (by decide))) (as := []) (st := []) rfl rfl (Nat.le_of_ble_eq_true rfl) (Nat.le_refl _) (Nat.le_refl _) (ev_Word_sort_15 ?_)
  refine fg_iconst (fg_ft (pc := 111) tb_Reader_keepNumber 52 rfl) ic_1 ?_
  refine fg_icmp_neN (tgt := 133) (fg_ft (pc := 112) tb_Reader_keepNumber 53 rfl) (by decide) (by decide) (by decide) (fun c112 => (absurd rfl c112)) (fun c112 => ?_)
  refine fg_aloadn (fg_ft (pc := 115) tb_Reader_keepNumber 54 rfl) rfl ?_
  refine fg_aloadn (fg_ft (pc := 116) tb_Reader_keepNumber 55 rfl) rfl ?_
  refine fg_getV (v := (nI r)) (fg_ft (pc := 117) tb_Reader_keepNumber 56 rfl) ff_Reader_180 ly_255 rfl (fg_lt ly_255 (by decide)) h14 ?_
  refine fg_iloadn (fg_ft (pc := 120) tb_Reader_keepNumber 57 rfl) rfl ?_
  refine fg_iconst (fg_ft (pc := 121) tb_Reader_keepNumber 58 rfl) ic_1 ?_
  refine fg_iaddN (fg_ft (pc := 122) tb_Reader_keepNumber 59 rfl) ?_
  refine fg_aloadn (fg_ft (pc := 123) tb_Reader_keepNumber 60 rfl) rfl ?_
  refine fg_getV (v := (nI v)) (fg_ft (pc := 124) tb_Reader_keepNumber 61 rfl) ff_Reader_207 ly_255 rfl (fg_lt ly_255 (by decide)) h10 ?_
  refine fg_callV (fg_ft (pc := 127) tb_Reader_keepNumber 62 rfl) cf_Reader_199 (fg_isOf ly_270 rfl (fg_lt ly_270 (by decide))) (as := [.int (nI r), .int (nI (i + 1)), .int (nI v)]) (st := []) rfl rfl (Nat.le_of_ble_eq_true rfl) (Nat.le_refl _) (Nat.le_refl _) (ev_Rows_put (i := r) (j := (i + 1)) (r := 270) (c := 271) (n := 120) (w := 4) (sz := C (pz_ci 6)) ⟨ly_270, rh_270_1 R, ly_271⟩ hw0 hRW.1 (by omega) (by decide) (by omega) (by omega) (by omega) ?_)
  show fg_wp _ _ _ _ _ _ _ _ _ (fg_u2 μ 271 (r * 4 + (i + 1)) (nI v), fg_rho R, 304)
  refine fg_goto (tgt := 173) (fg_ft (pc := 130) tb_Reader_keepNumber 63 rfl) (by decide) ?_
  exact fg_vret (fg_ft (pc := 173) tb_Reader_keepNumber 84 rfl) rfl rfl (hQ _ (fun a j h => fg_u2ne (by omega)) (hSH.cells (t := 6) (by decide) (fun a h j => fg_u2ne h)) (by have e9 : pz_kp 15 r i v fi C = pz_up C (pz_bs 6 + (r * 4 + (i + 1))) v := rfl; rw [e9]; exact hC.put (t := 6) (k := (r * 4 + (i + 1))) (by decide) (by decide) (show r * 4 + (i + 1) < C (pz_ci 6) * 4 by omega)))
theorem ev_Reader_keepNumber_16 {E : fg_E} {d : Nat} {μ : Nat → Nat → Int32} {R : fg_T4} {Q : Option Value → fg_M → Prop} {i v r fi : Nat} {C : Nat → Nat} (hi : i < 2 ^ 30) (h10 : μ 255 10 = nI v) (hv : v ≤ 99) (hSH : pz_SH μ) (hC : pz_CT μ 1 C) (h14 : μ 255 14 = nI r) (hr : r < C (pz_ci 6)) (hil : i < 0) (hQ : ∀ μ' : Nat → Nat → Int32, (∀ a j, (a < 256 ∨ 271 < a) → μ' a j = μ a j) → pz_SH μ' → pz_CT μ' 1 (pz_kp 16 r i v fi C) → Q none (μ', fg_rho R, 304)) : fg_Ev E yy_Reader_keepNumber (d + 4) [.ref 255, .ref 16, .int (nI i)] (μ, fg_rho R, 304) 304 Q := by
  have hRW := hC.rw (t := 6) (by decide) (by decide)
  have hw0 := (hSH 6 (by decide)).1
  have hmx := hRW.2.1
  have hmx2 : C (pz_ci 6) ≤ 30 := hmx
  refine fg_intro (by decide +kernel) (Nat.le_of_ble_eq_true rfl) (fg_okAs rfl) (Nat.le_refl _) ?_
  refine fg_aloadn (fg_ft (pc := 0) tb_Reader_keepNumber 0 rfl) rfl ?_
  refine fg_aloadn (fg_ft (pc := 1) tb_Reader_keepNumber 1 rfl) rfl ?_
  refine fg_callV (fg_ft (pc := 2) tb_Reader_keepNumber 2 rfl) cf_Reader_176 (fg_isOf ly_255 rfl (fg_lt ly_255 (by decide))) (as := [.ref 16]) (st := []) rfl rfl (Nat.le_of_ble_eq_true rfl) (Nat.le_refl _) (Nat.le_refl _) (ev_Reader_rowsOf_16 ?_)
  refine fg_astoren (fg_ft (pc := 5) tb_Reader_keepNumber 3 rfl) (Nat.le_of_ble_eq_true rfl) ?_
  refine fg_aloadn (fg_ft (pc := 6) tb_Reader_keepNumber 4 rfl) rfl ?_
  refine fg_gets (fg_ft (pc := 7) tb_Reader_keepNumber 5 rfl) fs_Reader_214 ?_
  refine fg_acmp_ne (tgt := 36) (fg_ft (pc := 10) tb_Reader_keepNumber 6 rfl) (by decide) (by decide) (by decide) (fun _ => ?_) (fun h => absurd h (by decide))
  refine fg_aloadn (fg_ft (pc := 36) tb_Reader_keepNumber 17 rfl) rfl ?_
  refine fg_gets (fg_ft (pc := 37) tb_Reader_keepNumber 18 rfl) fs_Reader_223 ?_
  refine fg_acmp_ne (tgt := 57) (fg_ft (pc := 40) tb_Reader_keepNumber 19 rfl) (by decide) (by decide) (by decide) (fun _ => ?_) (fun h => absurd h (by decide))
  refine fg_aloadn (fg_ft (pc := 57) tb_Reader_keepNumber 26 rfl) rfl ?_
  refine fg_ifnonnull (tgt := 62) (fg_ft (pc := 58) tb_Reader_keepNumber 27 rfl) (by decide) ?_
  refine fg_aloadn (fg_ft (pc := 62) tb_Reader_keepNumber 29 rfl) rfl ?_
  refine fg_gets (fg_ft (pc := 63) tb_Reader_keepNumber 30 rfl) fs_Reader_143 ?_
  refine fg_acmp_eq (tgt := 76) (fg_ft (pc := 66) tb_Reader_keepNumber 31 rfl) (by decide) (by decide) (by decide) (fun h => absurd h (by decide)) (fun _ => ?_)
  refine fg_aloadn (fg_ft (pc := 69) tb_Reader_keepNumber 32 rfl) rfl ?_
  refine fg_gets (fg_ft (pc := 70) tb_Reader_keepNumber 33 rfl) fs_Reader_146 ?_
  refine fg_acmp_ne (tgt := 107) (fg_ft (pc := 73) tb_Reader_keepNumber 34 rfl) (by decide) (by decide) (by decide) (fun _ => ?_) (fun h => absurd h (by decide))
  refine fg_aloadn (fg_ft (pc := 107) tb_Reader_keepNumber 50 rfl) rfl ?_
  refine fg_callV (fg_ft (pc := 108) tb_Reader_keepNumber 51 rfl) cf_Reader_117 (Or.inr (pz_isW (w := 16) (by decide))) (as := []) (st := []) rfl rfl (Nat.le_of_ble_eq_true rfl) (Nat.le_refl _) (Nat.le_refl _) (ev_Word_sort_16 ?_)
  refine fg_iconst (fg_ft (pc := 111) tb_Reader_keepNumber 52 rfl) ic_1 ?_
  refine fg_icmp_neN (tgt := 133) (fg_ft (pc := 112) tb_Reader_keepNumber 53 rfl) (by decide) (by decide) (by decide) (fun c112 => (absurd rfl c112)) (fun c112 => ?_)
  refine fg_aloadn (fg_ft (pc := 115) tb_Reader_keepNumber 54 rfl) rfl ?_
  refine fg_aloadn (fg_ft (pc := 116) tb_Reader_keepNumber 55 rfl) rfl ?_
  refine fg_getV (v := (nI r)) (fg_ft (pc := 117) tb_Reader_keepNumber 56 rfl) ff_Reader_180 ly_255 rfl (fg_lt ly_255 (by decide)) h14 ?_
  refine fg_iloadn (fg_ft (pc := 120) tb_Reader_keepNumber 57 rfl) rfl ?_
  refine fg_iconst (fg_ft (pc := 121) tb_Reader_keepNumber 58 rfl) ic_1 ?_
  refine fg_iaddN (fg_ft (pc := 122) tb_Reader_keepNumber 59 rfl) ?_
  refine fg_aloadn (fg_ft (pc := 123) tb_Reader_keepNumber 60 rfl) rfl ?_
  refine fg_getV (v := (nI v)) (fg_ft (pc := 124) tb_Reader_keepNumber 61 rfl) ff_Reader_207 ly_255 rfl (fg_lt ly_255 (by decide)) h10 ?_
  refine fg_callV (fg_ft (pc := 127) tb_Reader_keepNumber 62 rfl) cf_Reader_199 (fg_isOf ly_270 rfl (fg_lt ly_270 (by decide))) (as := [.int (nI r), .int (nI (i + 1)), .int (nI v)]) (st := []) rfl rfl (Nat.le_of_ble_eq_true rfl) (Nat.le_refl _) (Nat.le_refl _) (ev_Rows_put (i := r) (j := (i + 1)) (r := 270) (c := 271) (n := 120) (w := 4) (sz := C (pz_ci 6)) ⟨ly_270, rh_270_1 R, ly_271⟩ hw0 hRW.1 (by omega) (by decide) (by omega) (by omega) (by omega) ?_)
  show fg_wp _ _ _ _ _ _ _ _ _ (fg_u2 μ 271 (r * 4 + (i + 1)) (nI v), fg_rho R, 304)
  refine fg_goto (tgt := 173) (fg_ft (pc := 130) tb_Reader_keepNumber 63 rfl) (by decide) ?_
  exact fg_vret (fg_ft (pc := 173) tb_Reader_keepNumber 84 rfl) rfl rfl (hQ _ (fun a j h => fg_u2ne (by omega)) (hSH.cells (t := 6) (by decide) (fun a h j => fg_u2ne h)) (by have e9 : pz_kp 16 r i v fi C = pz_up C (pz_bs 6 + (r * 4 + (i + 1))) v := rfl; rw [e9]; exact hC.put (t := 6) (k := (r * 4 + (i + 1))) (by decide) (by decide) (show r * 4 + (i + 1) < C (pz_ci 6) * 4 by omega)))
