/-! the class's reader: a text read -/
theorem fg_dfall {s n : Nat} : fg_df s (2 ^ n - 1) = 0 ↔ s < 2 ^ n := by
  constructor
  · intro h
    have h2 : fg_le s (2 ^ n - 1) := fg_df0.mp h
    exact Nat.lt_of_le_of_lt (fg_le_le h2) (by have := Nat.two_pow_pos n; omega)
  · intro h
    apply fg_df0.mpr
    intro i hi
    rw [fg_all_bit]
    rcases Nat.lt_or_ge i n with q | q
    · exact decide_eq_true q
    · rw [Nat.testBit_lt_two_pow (Nat.lt_of_lt_of_le h (Nat.pow_le_pow_right (by decide) q))] at hi
      exact absurd hi (by decide)
theorem ev_Town_allA {E : fg_E} {d : Nat} {μ : Nat → Nat → Int32} {R : fg_T4} {Q : Option Value → fg_M → Prop} {n : Nat} (hn : μ 256 0 = nI n) (hn10 : n ≤ 10) (hQ : Q (some (.int (nI (2 ^ n - 1)))) (μ, fg_rho R, 304)) : fg_Ev E yy_Town_all (d + 1) [.ref 256] (μ, fg_rho R, 304) 304 Q := by
  refine fg_intro (by decide +kernel) (Nat.le_of_ble_eq_true rfl) (fg_okAs rfl) (Nat.le_refl _) ?_
  refine fg_iconst (fg_ft (pc := 0) tb_Town_all 0 rfl) ic_1 ?_
  refine fg_aloadn (fg_ft (pc := 1) tb_Town_all 1 rfl) rfl ?_
  refine fg_getV (v := (nI n)) (fg_ft (pc := 2) tb_Town_all 2 rfl) ff_Town_9 ly_256 rfl (fg_lt ly_256 (by decide)) hn ?_
  refine fg_ishl1 (fg_ft (pc := 5) tb_Town_all 3 rfl) (by omega) ?_
  refine fg_iconst (fg_ft (pc := 6) tb_Town_all 4 rfl) ic_1 ?_
  refine fg_isubN (fg_ft (pc := 7) tb_Town_all 5 rfl) (Nat.two_pow_pos n) ?_
  exact fg_iret (fg_ft (pc := 8) tb_Town_all 6 rfl) rfl rfl (hQ)
theorem ev_Town_hasFactsA {E : fg_E} {d : Nat} {μ : Nat → Nat → Int32} {R : fg_T4} {Q : Option Value → fg_M → Prop} {n s : Nat} (hn : μ 256 0 = nI n) (hn10 : n ≤ 10) (hs : s < 2 ^ 31) (hQ : Q (some (.int (fg_bI (s < 2 ^ n)))) (μ, fg_rho R, 304)) : fg_Ev E yy_Town_hasFacts (d + 2) [.ref 256, .int (nI s)] (μ, fg_rho R, 304) 304 Q := by
  refine fg_intro (by decide +kernel) (Nat.le_of_ble_eq_true rfl) (fg_okAs rfl) (Nat.le_refl _) ?_
  refine fg_iloadn (fg_ft (pc := 0) tb_Town_hasFacts 0 rfl) rfl ?_
  refine fg_aloadn (fg_ft (pc := 1) tb_Town_hasFacts 1 rfl) rfl ?_
  refine fg_callV (fg_ft (pc := 2) tb_Town_hasFacts 2 rfl) cf_Town_59 (fg_isOf ly_256 rfl (fg_lt ly_256 (by decide))) (as := []) (st := [.int (nI s)]) rfl rfl (Nat.le_of_ble_eq_true rfl) (Nat.le_refl _) (Nat.le_refl _) (ev_Town_allA hn hn10 ?_)
  refine fg_iconst (fg_ft (pc := 5) tb_Town_hasFacts 3 rfl) ic_m1 ?_
  refine fg_ixor (fg_ft (pc := 6) tb_Town_hasFacts 4 rfl) ?_
  refine fg_iandD (fg_ft (pc := 7) tb_Town_hasFacts 5 rfl) ?_
  refine fg_if_neN (tgt := 15) (fg_ft (pc := 8) tb_Town_hasFacts 6 rfl) (by decide) (fg_df_le31 hs) (fun c8 => ?_) (fun c8 => ?_)
  · refine fg_iconst (fg_ft (pc := 15) tb_Town_hasFacts 9 rfl) ic_0 ?_
    exact fg_zret (fg_ft (pc := 16) tb_Town_hasFacts 10 rfl) rfl (by decide) rfl (fg_q hQ (fg_bF (fun hh => c8 (fg_dfall.mpr hh))))
  · refine fg_iconst (fg_ft (pc := 11) tb_Town_hasFacts 7 rfl) ic_1 ?_
    refine fg_goto (tgt := 16) (fg_ft (pc := 12) tb_Town_hasFacts 8 rfl) (by decide) ?_
    exact fg_zret (fg_ft (pc := 16) tb_Town_hasFacts 10 rfl) rfl (by decide) rfl (fg_q hQ (fg_bT (fg_dfall.mp c8)))
theorem pz_CT.twp {μ : Nat → Nat → Int32} {T : Nat → Nat} (hS : pz_SH μ) (h : pz_CT μ 0 T) : fg_TWp μ 256 T True := by
  obtain ⟨⟨h0, h7⟩, hr⟩ := h.1 rfl
  have w : ∀ t, t < 6 → μ (pz_ro t) 0 = nI (pz_wi t) := fun t ht => (hS t (by omega)).1
  exact ⟨⟨h0, h7⟩, ⟨w 0 (by decide), (hr 0 (by decide)).1, (hr 0 (by decide)).2.2⟩, ⟨w 1 (by decide), (hr 1 (by decide)).1, (hr 1 (by decide)).2.2⟩, ⟨w 2 (by decide), (hr 2 (by decide)).1, (hr 2 (by decide)).2.2⟩, ⟨w 3 (by decide), (hr 3 (by decide)).1, (hr 3 (by decide)).2.2⟩, ⟨w 4 (by decide), (hr 4 (by decide)).1, (hr 4 (by decide)).2.2⟩, ⟨w 5 (by decide), (hr 5 (by decide)).1, (hr 5 (by decide)).2.2⟩, trivial⟩
theorem pz_SH.wd {μ : Nat → Nat → Int32} (hS : pz_SH μ) : fg_wdT μ 256 ∧ μ 270 0 = nI 4 := ⟨⟨(hS 0 (by decide)).1, (hS 1 (by decide)).1, (hS 2 (by decide)).1, (hS 3 (by decide)).1, (hS 4 (by decide)).1, (hS 5 (by decide)).1⟩, (hS 6 (by decide)).1⟩
theorem pz_RX0 {μ : Nat → Nat → Int32} {sort : Nat} (hso : sort < 2) (h : fg_TWp μ 256 fg_T0 True) (ha : μ 270 0 = nI 4) (hz : μ 270 2 = nI 0) (h2 : μ 255 2 = nI 0) (h3 : μ 255 3 = -1) (h11 : μ 255 11 = nI 0) : pz_RX μ sort (0, 0, pz_C0 sort, 0) := by
  obtain ⟨⟨g0, g1⟩, r0, r1, r2, r3, r4, r5, -⟩ := h
  refine ⟨⟨h2, h3⟩, fun t ht => ?_, ⟨by show 0 < 5; decide, by show 0 ≠ 1; decide⟩, fun _ => ⟨⟨fun hs => ?_, fun hs => ?_⟩, h11, by show 0 < 1024; decide⟩⟩
  · rcases (show t = 0 ∨ t = 1 ∨ t = 2 ∨ t = 3 ∨ t = 4 ∨ t = 5 ∨ t = 6 by omega) with rfl | rfl | rfl | rfl | rfl | rfl | rfl
    · exact ⟨r0.1, 0, Nat.zero_le _, r0.2.1⟩
    · exact ⟨r1.1, 0, Nat.zero_le _, r1.2.1⟩
    · exact ⟨r2.1, 0, Nat.zero_le _, r2.2.1⟩
    · exact ⟨r3.1, 0, Nat.zero_le _, r3.2.1⟩
    · exact ⟨r4.1, 0, Nat.zero_le _, r4.2.1⟩
    · exact ⟨r5.1, 0, Nat.zero_le _, r5.2.1⟩
    · exact ⟨ha, 0, Nat.zero_le _, hz⟩
  · subst hs
    refine ⟨⟨g0, g1⟩, fun t ht => ?_⟩
    rcases (show t = 0 ∨ t = 1 ∨ t = 2 ∨ t = 3 ∨ t = 4 ∨ t = 5 by omega) with rfl | rfl | rfl | rfl | rfl | rfl
    · exact ⟨r0.2.1, by decide, fun j hj => absurd (show j < 0 from hj) (Nat.not_lt_zero _)⟩
    · exact ⟨r1.2.1, by decide, fun j hj => absurd (show j < 0 from hj) (Nat.not_lt_zero _)⟩
    · exact ⟨r2.2.1, by decide, fun j hj => absurd (show j < 0 from hj) (Nat.not_lt_zero _)⟩
    · exact ⟨r3.2.1, by decide, fun j hj => absurd (show j < 0 from hj) (Nat.not_lt_zero _)⟩
    · exact ⟨r4.2.1, by decide, fun j hj => absurd (show j < 0 from hj) (Nat.not_lt_zero _)⟩
    · exact ⟨r5.2.1, by decide, fun j hj => absurd (show j < 0 from hj) (Nat.not_lt_zero _)⟩
  · subst hs
    exact ⟨hz, by decide, fun j hj => absurd (show j < 0 from hj) (Nat.not_lt_zero _)⟩
theorem pz_pa_1 {K V S : Nat → Nat} {len sort f : Nat} {s : Nat × pz_X} (h : s.2.1 = 1) : pz_pa K V S len sort f s = s := by
  cases f with
  | zero => rfl
  | succ f => exact if_pos (Or.inl h)
theorem pz_pa_0 {K V S : Nat → Nat} {len sort f : Nat} {s : Nat × pz_X} (h : K s.1 = 0) : pz_pa K V S len sort f s = s := by
  cases f with
  | zero => rfl
  | succ f => exact if_pos (Or.inr h)
theorem pz_pa_s {K V S : Nat → Nat} {len sort f : Nat} {s : Nat × pz_X} (h : s.2.1 ≠ 1) (hk : K s.1 ≠ 0) : pz_pa K V S len sort (f + 1) s = pz_pa K V S len sort f (pz_l1 K V S len sort s) := if_neg (fun hh => hh.elim h hk)
theorem fg_wdT.fr2 {μ' μ'' : Nat → Nat → Int32} {t : Nat} (h : fg_wdT μ' t) (h1 : ∀ a, t < a → a < t + 12 → ∀ j, μ'' a j = μ' a j) : fg_wdT μ'' t := by
  obtain ⟨w1, w2, w3, w4, w5, w6⟩ := h
  exact ⟨(h1 _ (by omega) (by omega) _).trans w1, (h1 _ (by omega) (by omega) _).trans w2, (h1 _ (by omega) (by omega) _).trans w3, (h1 _ (by omega) (by omega) _).trans w4, (h1 _ (by omega) (by omega) _).trans w5, (h1 _ (by omega) (by omega) _).trans w6⟩
theorem pz_rd_end {E : fg_E} {d : Nat} {μ : Nat → Nat → Int32} {R : fg_T4} {Q : Option Value → fg_M → Prop} {μ0 : Nat → Nat → Int32} {c : Nat → Int32} {len sort : Nat} (hso : sort < 2) (hle : len ≤ 600) (hok : (pz_rd (pz_b c) len sort).1 = 0 → sort = 0 → fg_ok (pz_rd (pz_b c) len sort).2.2) {X : pz_X} {vl : Value} (hQ : ∀ μ' : Nat → Nat → Int32, (∀ a j, (a < 255 ∨ 271 < a) → μ' a j = μ0 a j) → (fg_wdT μ' 256 ∧ μ' 270 0 = nI 4) → μ' 255 2 = nI (pz_rd (pz_b c) len sort).1 → μ' 255 3 = pz_pl (pz_rd (pz_b c) len sort).1 (pz_rd (pz_b c) len sort).2.1 → ((pz_rd (pz_b c) len sort).1 = 0 → sort = 0 → fg_TW μ' 256 (pz_rd (pz_b c) len sort).2.2) → ((pz_rd (pz_b c) len sort).1 = 0 → sort = 1 → μ' 270 2 = nI ((pz_rd (pz_b c) len sort).2.2 0) ∧ (pz_rd (pz_b c) len sort).2.2 0 ≤ 30 ∧ ∀ j, j < (pz_rd (pz_b c) len sort).2.2 0 * 4 → μ' 271 j = nI ((pz_rd (pz_b c) len sort).2.2 (1 + j))) → Q none (μ', fg_rho (R.1, R.2.1, R.2.2.1, some 102), 304)) (hten : X.1 = 0 → sort = 0 → X.2.2.1 0 ≤ 10) (hfr : ∀ a j, (a < 255 ∨ 271 < a) → μ a j = μ0 a j) (hl6 : μ 255 6 = nI len) (hRX : pz_RX μ sort X) (hres : pz_rd (pz_b c) len sort = pz_re len sort X) : fg_wp E yy_Reader_read (d + 9) 304 304 Q 116 [.ref 255, .ref 102, .int (nI len), .int (nI sort), .int (nI 1), vl] [] (μ, fg_rho (R.1, R.2.1, R.2.2.1, some 102), 304) := by
  refine fg_aloadn (fg_ft (pc := 116) tb_Reader_read 59 rfl) rfl ?_
  refine fg_getV (v := (nI (X.1))) (fg_ft (pc := 117) tb_Reader_read 60 rfl) ff_Reader_54 ly_255 rfl (fg_lt ly_255 (by decide)) hRX.1.1 ?_
  refine fg_if_neN (tgt := 154) (fg_ft (pc := 120) tb_Reader_read 61 rfl) (by decide) (by have := hRX.2.2.1.1; omega) (fun c120 => ?_) (fun c120 => ?_)
  · refine fg_aloadn (fg_ft (pc := 154) tb_Reader_read 77 rfl) rfl ?_
    refine fg_getV (v := (nI (X.1))) (fg_ft (pc := 155) tb_Reader_read 78 rfl) ff_Reader_54 ly_255 rfl (fg_lt ly_255 (by decide)) hRX.1.1 ?_
    refine fg_if_neN (tgt := 172) (fg_ft (pc := 158) tb_Reader_read 79 rfl) (by decide) (by have := hRX.2.2.1.1; omega) (fun c158 => ?_) (fun c158 => (absurd c158 (by omega)))
    exact fg_vret (fg_ft (pc := 172) tb_Reader_read 85 rfl) rfl rfl (by
    have ere : pz_rd (pz_b c) len sort = (X.1, X.2.1, X.2.2.1) := by
      rw [hres]; exact if_neg (fun hh => by omega)
    refine hQ μ hfr hRX.2.1.wd (by rw [ere]; exact hRX.1.1) (by rw [ere]; exact hRX.1.2) (fun h0 h1 => by rw [ere] at h0; have h0' : X.1 = 0 := h0; omega) (fun h0 h1 => ?_)
    rw [ere] at h0 ⊢
    have gC := (hRX.2.2.2 h0).1.2 h1
    exact ⟨gC.1, gC.2.1, fun j hj => gC.2.2 j hj⟩)
  · refine fg_iloadn (fg_ft (pc := 123) tb_Reader_read 62 rfl) rfl ?_
    refine fg_if_neN (tgt := 154) (fg_ft (pc := 124) tb_Reader_read 63 rfl) (by decide) (by omega) (fun c124 => ?_) (fun c124 => ?_)
    · refine fg_aloadn (fg_ft (pc := 154) tb_Reader_read 77 rfl) rfl ?_
      refine fg_getV (v := (nI (X.1))) (fg_ft (pc := 155) tb_Reader_read 78 rfl) ff_Reader_54 ly_255 rfl (fg_lt ly_255 (by decide)) hRX.1.1 ?_
      refine fg_if_neN (tgt := 172) (fg_ft (pc := 158) tb_Reader_read 79 rfl) (by decide) (by have := hRX.2.2.1.1; omega) (fun c158 => (absurd c158 (by omega))) (fun c158 => ?_)
      refine fg_iloadn (fg_ft (pc := 161) tb_Reader_read 80 rfl) rfl ?_
      refine fg_if_neN (tgt := 172) (fg_ft (pc := 162) tb_Reader_read 81 rfl) (by decide) (by omega) (fun c162 => ?_) (fun c162 => (absurd c162 (by omega)))
      exact fg_vret (fg_ft (pc := 172) tb_Reader_read 85 rfl) rfl rfl (by
    have ere : pz_rd (pz_b c) len sort = (X.1, X.2.1, X.2.2.1) := by
      rw [hres]; exact if_neg (fun hh => by omega)
    refine hQ μ hfr hRX.2.1.wd (by rw [ere]; exact hRX.1.1) (by rw [ere]; exact hRX.1.2) (fun h0 h1 => by rw [ere] at h0; have h0' : X.1 = 0 := h0; omega) (fun h0 h1 => ?_)
    rw [ere] at h0 ⊢
    have gC := (hRX.2.2.2 h0).1.2 h1
    exact ⟨gC.1, gC.2.1, fun j hj => gC.2.2 j hj⟩)
    · have e0 : X.1 = 0 := by omega
      have e1 : sort = 0 := by omega
      have gCT := (hRX.2.2.2 e0).1
      rw [e1] at gCT
      have gtw := pz_CT.twp hRX.2.1 gCT
      have hn10 : X.2.2.1 0 ≤ 10 := hten e0 e1
      refine fg_aloadn (fg_ft (pc := 127) tb_Reader_read 64 rfl) rfl ?_
      refine fg_getR (fg_ft (pc := 128) tb_Reader_read 65 rfl) ff_Reader_12 ly_255 rfl (fg_lt ly_255 (by decide)) (rh_255_0 (R.1, R.2.1, R.2.2.1, some 102)) ?_
      refine fg_aloadn (fg_ft (pc := 131) tb_Reader_read 66 rfl) rfl ?_
      refine fg_getV (v := (nI (X.2.2.2))) (fg_ft (pc := 132) tb_Reader_read 67 rfl) ff_Reader_60 ly_255 rfl (fg_lt ly_255 (by decide)) (hRX.2.2.2 e0).2.1 ?_
      refine fg_callV (fg_ft (pc := 135) tb_Reader_read 68 rfl) cf_Reader_83 (fg_isOf ly_256 rfl (fg_lt ly_256 (by decide))) (as := [.int (nI (X.2.2.2))]) (st := []) rfl rfl (Nat.le_of_ble_eq_true rfl) (Nat.le_refl _) (Nat.le_refl _) (ev_Town_hasFactsA (n := X.2.2.1 0) (s := X.2.2.2) gtw.1.1 hn10 (by have := (hRX.2.2.2 e0).2.2; omega) ?_)
      refine fg_ifB_ne (tgt := 154) (fg_ft (pc := 138) tb_Reader_read 69 rfl) (by decide) (fun c138 => ?_) (fun c138 => ?_)
      · refine fg_aloadn (fg_ft (pc := 154) tb_Reader_read 77 rfl) rfl ?_
        refine fg_getV (v := (nI (X.1))) (fg_ft (pc := 155) tb_Reader_read 78 rfl) ff_Reader_54 ly_255 rfl (fg_lt ly_255 (by decide)) hRX.1.1 ?_
        refine fg_if_neN (tgt := 172) (fg_ft (pc := 158) tb_Reader_read 79 rfl) (by decide) (by have := hRX.2.2.1.1; omega) (fun c158 => (absurd c158 (by omega))) (fun c158 => ?_)
        refine fg_iloadn (fg_ft (pc := 161) tb_Reader_read 80 rfl) rfl ?_
        refine fg_if_neN (tgt := 172) (fg_ft (pc := 162) tb_Reader_read 81 rfl) (by decide) (by omega) (fun c162 => (absurd c162 (by omega))) (fun c162 => ?_)
        have ere : pz_rd (pz_b c) len sort = (X.1, X.2.1, X.2.2.1) := by
          rw [hres]; exact if_neg (fun hh => hh.2.2 c138)
        refine fg_aloadn (fg_ft (pc := 165) tb_Reader_read 82 rfl) rfl ?_
        refine fg_getR (fg_ft (pc := 166) tb_Reader_read 83 rfl) ff_Reader_12 ly_255 rfl (fg_lt ly_255 (by decide)) (rh_255_0 (R.1, R.2.1, R.2.2.1, some 102)) ?_
        refine fg_callV (fg_ft (pc := 169) tb_Reader_read 84 rfl) cf_Reader_86 (fg_isOf ly_256 rfl (fg_lt ly_256 (by decide))) (as := []) (st := []) rfl rfl (Nat.le_of_ble_eq_true rfl) (Nat.le_refl _) (Nat.le_refl _) (ev_Town_followRules (T := X.2.2.1) (C := True) fg_isT_256 gtw (by have q := hok (by rw [ere]; exact e0) e1; rw [ere] at q; exact q) ?_)
        intro ν1 hag1 hcl1
        show fg_wp _ _ _ _ _ _ _ _ _ (ν1, fg_rho (R.1, R.2.1, R.2.2.1, some 102), 304)
        exact fg_vret (fg_ft (pc := 172) tb_Reader_read 85 rfl) rfl rfl (hQ ν1 (fun a j h => (hag1 a (by omega) j).trans (hfr a j h)) ⟨hRX.2.1.wd.1.fr2 (fun a h1 h2 j => hag1 a (by omega) j), (hag1 270 (by decide) 0).trans hRX.2.1.wd.2⟩ (by rw [ere]; exact (hag1 255 (by decide) 2).trans hRX.1.1) (by rw [ere]; exact (hag1 255 (by decide) 3).trans hRX.1.2) (fun _ _ => by rw [ere]; exact gtw.frame (fun a h1 h2 j => hag1 a (by omega) j) hcl1) (fun _ h1 => by omega))
      · refine fg_aloadn (fg_ft (pc := 141) tb_Reader_read 70 rfl) rfl ?_
        refine fg_iconst (fg_ft (pc := 142) tb_Reader_read 71 rfl) ic_4 ?_
        refine fg_putI (fg_ft (pc := 143) tb_Reader_read 72 rfl) ff_Reader_54 ly_255 rfl (fg_lt ly_255 (by decide)) (fg_nokI _) (fun _ _ h => by cases h; rfl) ?_
        show fg_wp _ _ _ _ _ _ _ _ _ (fg_u2 μ 255 2 (nI 4), fg_rho (R.1, R.2.1, R.2.2.1, some 102), 304)
        refine fg_aloadn (fg_ft (pc := 146) tb_Reader_read 73 rfl) rfl ?_
        refine fg_aloadn (fg_ft (pc := 147) tb_Reader_read 74 rfl) rfl ?_
        refine fg_getV (v := (nI len)) (fg_ft (pc := 148) tb_Reader_read 75 rfl) ff_Reader_47 ly_255 rfl (fg_lt ly_255 (by decide)) ((fg_u2ns (f := μ) (a := 255) (k := 2) (b := 255) (j := 6) (x := (nI 4)) (by decide)).trans hl6) ?_
        refine fg_putI (fg_ft (pc := 151) tb_Reader_read 76 rfl) ff_Reader_57 ly_255 rfl (fg_lt ly_255 (by decide)) (fg_nokI _) (fun _ _ h => by cases h; rfl) ?_
        show fg_wp _ _ _ _ _ _ _ _ _ (fg_u2 (fg_u2 μ 255 2 (nI 4)) 255 3 (nI len), fg_rho (R.1, R.2.1, R.2.2.1, some 102), 304)
        refine fg_aloadn (fg_ft (pc := 154) tb_Reader_read 77 rfl) rfl ?_
        refine fg_getV (v := (nI 4)) (fg_ft (pc := 155) tb_Reader_read 78 rfl) ff_Reader_54 ly_255 rfl (fg_lt ly_255 (by decide)) (show (fg_u2 (fg_u2 μ 255 2 (nI 4)) 255 3 (nI len)) 255 2 = nI 4 from (fg_u2ns (by decide)).trans fg_u2eq) ?_
        refine fg_if_ne (tgt := 172) (fg_ft (pc := 158) tb_Reader_read 79 rfl) (by decide) (fun _ => ?_) (fun h => absurd h (by decide))
        exact fg_vret (fg_ft (pc := 172) tb_Reader_read 85 rfl) rfl rfl (by
    have ere : pz_rd (pz_b c) len sort = (4, len, X.2.2.1) := by
      rw [hres]; exact if_pos ⟨e0, e1, c138⟩
    exact hQ _ (fun a j h => (fg_u2ne (by omega)).trans ((fg_u2ne (by omega)).trans (hfr a j h))) ⟨hRX.2.1.wd.1.fr2 (fun a h1 h2 j => (fg_u2ne (by omega)).trans (fg_u2ne (by omega))), (fg_u2ne (by decide)).trans ((fg_u2ne (by decide)).trans hRX.2.1.wd.2)⟩ (by rw [ere]; exact (fg_u2ns (by decide)).trans fg_u2eq) (by rw [ere]; exact fg_u2eq) (fun h0 => absurd (show (4 : Nat) = 0 by rw [ere] at h0; exact h0) (by decide)) (fun h0 => absurd (show (4 : Nat) = 0 by rw [ere] at h0; exact h0) (by decide)))
theorem pz_rd_wrong {E : fg_E} {d : Nat} {μ : Nat → Nat → Int32} {R : fg_T4} {Q : Option Value → fg_M → Prop} {μ0 : Nat → Nat → Int32} {c : Nat → Int32} {len sort pl : Nat} {C : Nat → Nat} {vl : Value} (hQ : ∀ μ' : Nat → Nat → Int32, (∀ a j, (a < 255 ∨ 271 < a) → μ' a j = μ0 a j) → (fg_wdT μ' 256 ∧ μ' 270 0 = nI 4) → μ' 255 2 = nI (pz_rd (pz_b c) len sort).1 → μ' 255 3 = pz_pl (pz_rd (pz_b c) len sort).1 (pz_rd (pz_b c) len sort).2.1 → ((pz_rd (pz_b c) len sort).1 = 0 → sort = 0 → fg_TW μ' 256 (pz_rd (pz_b c) len sort).2.2) → ((pz_rd (pz_b c) len sort).1 = 0 → sort = 1 → μ' 270 2 = nI ((pz_rd (pz_b c) len sort).2.2 0) ∧ (pz_rd (pz_b c) len sort).2.2 0 ≤ 30 ∧ ∀ j, j < (pz_rd (pz_b c) len sort).2.2 0 * 4 → μ' 271 j = nI ((pz_rd (pz_b c) len sort).2.2 (1 + j))) → Q none (μ', fg_rho (R.1, R.2.1, R.2.2.1, some 102), 304)) (hfr : ∀ a j, (a < 255 ∨ 271 < a) → μ a j = μ0 a j) (hS : pz_SH μ) (h9 : μ 255 9 = nI pl) (hres : pz_rd (pz_b c) len sort = (1, pl, C)) : fg_wp E yy_Reader_read (d + 9) 304 304 Q 100 [.ref 255, .ref 102, .int (nI len), .int (nI sort), .int (nI 0), vl] [] (μ, fg_rho (R.1, R.2.1, R.2.2.1, some 102), 304) := by
  refine fg_aloadn (fg_ft (pc := 100) tb_Reader_read 51 rfl) rfl ?_
  refine fg_iconst (fg_ft (pc := 101) tb_Reader_read 52 rfl) ic_1 ?_
  refine fg_putI (fg_ft (pc := 102) tb_Reader_read 53 rfl) ff_Reader_54 ly_255 rfl (fg_lt ly_255 (by decide)) (fg_nokI _) (fun _ _ h => by cases h; rfl) ?_
  show fg_wp _ _ _ _ _ _ _ _ _ (fg_u2 μ 255 2 (nI 1), fg_rho (R.1, R.2.1, R.2.2.1, some 102), 304)
  refine fg_aloadn (fg_ft (pc := 105) tb_Reader_read 54 rfl) rfl ?_
  refine fg_aloadn (fg_ft (pc := 106) tb_Reader_read 55 rfl) rfl ?_
  refine fg_getV (v := (nI pl)) (fg_ft (pc := 107) tb_Reader_read 56 rfl) ff_Reader_80 ly_255 rfl (fg_lt ly_255 (by decide)) ((fg_u2ns (f := μ) (a := 255) (k := 2) (b := 255) (j := 9) (x := (nI 1)) (by decide)).trans h9) ?_
  refine fg_putI (fg_ft (pc := 110) tb_Reader_read 57 rfl) ff_Reader_57 ly_255 rfl (fg_lt ly_255 (by decide)) (fg_nokI _) (fun _ _ h => by cases h; rfl) ?_
  show fg_wp _ _ _ _ _ _ _ _ _ (fg_u2 (fg_u2 μ 255 2 (nI 1)) 255 3 (nI pl), fg_rho (R.1, R.2.1, R.2.2.1, some 102), 304)
  refine fg_goto (tgt := 154) (fg_ft (pc := 113) tb_Reader_read 58 rfl) (by decide) ?_
  refine fg_aloadn (fg_ft (pc := 154) tb_Reader_read 77 rfl) rfl ?_
  refine fg_getV (v := (nI 1)) (fg_ft (pc := 155) tb_Reader_read 78 rfl) ff_Reader_54 ly_255 rfl (fg_lt ly_255 (by decide)) (show (fg_u2 (fg_u2 μ 255 2 (nI 1)) 255 3 (nI pl)) 255 2 = nI 1 from (fg_u2ns (by decide)).trans fg_u2eq) ?_
  refine fg_if_ne (tgt := 172) (fg_ft (pc := 158) tb_Reader_read 79 rfl) (by decide) (fun _ => ?_) (fun h => absurd h (by decide))
  exact fg_vret (fg_ft (pc := 172) tb_Reader_read 85 rfl) rfl rfl (hQ _ (fun a j h => (fg_u2ne (by omega)).trans ((fg_u2ne (by omega)).trans (hfr a j h))) ⟨hS.wd.1.fr2 (fun a h1 h2 j => (fg_u2ne (by omega)).trans (fg_u2ne (by omega))), (fg_u2ne (by decide)).trans ((fg_u2ne (by decide)).trans hS.wd.2)⟩ (by rw [hres]; exact (fg_u2ns (by decide)).trans fg_u2eq) (by rw [hres]; exact fg_u2eq) (fun h0 => absurd (show (1 : Nat) = 0 by rw [hres] at h0; exact h0) (by decide)) (fun h0 => absurd (show (1 : Nat) = 0 by rw [hres] at h0; exact h0) (by decide)))
theorem pz_rd_loop {E : fg_E} {d : Nat} {μ : Nat → Nat → Int32} {R : fg_T4} {Q : Option Value → fg_M → Prop} {μ0 : Nat → Nat → Int32} {c : Nat → Int32} {len sort : Nat} (hso : sort < 2) (hle : len ≤ 600) (hok : (pz_rd (pz_b c) len sort).1 = 0 → sort = 0 → fg_ok (pz_rd (pz_b c) len sort).2.2) (hc : ∀ k, k < 600 → μ0 102 k = c k) (hf : pz_fit c) (hten : (pz_rs (pz_K (pz_b c) len) (pz_V (pz_b c) len) (pz_S (pz_b c) len) len sort).2.1 = 0 → sort = 0 → (pz_rs (pz_K (pz_b c) len) (pz_V (pz_b c) len) (pz_S (pz_b c) len) len sort).2.2.2.1 0 ≤ 10) (hQ : ∀ μ' : Nat → Nat → Int32, (∀ a j, (a < 255 ∨ 271 < a) → μ' a j = μ0 a j) → (fg_wdT μ' 256 ∧ μ' 270 0 = nI 4) → μ' 255 2 = nI (pz_rd (pz_b c) len sort).1 → μ' 255 3 = pz_pl (pz_rd (pz_b c) len sort).1 (pz_rd (pz_b c) len sort).2.1 → ((pz_rd (pz_b c) len sort).1 = 0 → sort = 0 → fg_TW μ' 256 (pz_rd (pz_b c) len sort).2.2) → ((pz_rd (pz_b c) len sort).1 = 0 → sort = 1 → μ' 270 2 = nI ((pz_rd (pz_b c) len sort).2.2 0) ∧ (pz_rd (pz_b c) len sort).2.2 0 ≤ 30 ∧ ∀ j, j < (pz_rd (pz_b c) len sort).2.2 0 * 4 → μ' 271 j = nI ((pz_rd (pz_b c) len sort).2.2 (1 + j))) → Q none (μ', fg_rho (R.1, R.2.1, R.2.2.1, some 102), 304)) : ∀ (f j : Nat) (X : pz_X) (ν : Nat → Nat → Int32), f ≤ 600 → pz_pa (pz_K (pz_b c) len) (pz_V (pz_b c) len) (pz_S (pz_b c) len) len sort f (j, X) = pz_rs (pz_K (pz_b c) len) (pz_V (pz_b c) len) (pz_S (pz_b c) len) len sort → (∀ a j, (a < 255 ∨ 271 < a) → ν a j = μ0 a j) → ν 255 6 = nI len → pz_LX ν (pz_b c) len j → pz_RX ν sort X → fg_wp E yy_Reader_read (d + 9) 304 304 Q 63 [.ref 255, .ref 102, .int (nI len), .int (nI sort), .int (nI 1), .int (nI f)] [] (ν, fg_rho (R.1, R.2.1, R.2.2.1, some 102), 304) := by
  intro f
  induction f with
  | zero =>
    intro j X ν hf600 hp hfr hl6 hLX hRX
    refine fg_iload (fg_ft (pc := 63) tb_Reader_read 35 rfl) rfl ?_
    refine fg_if_leN (tgt := 95) (fg_ft (pc := 65) tb_Reader_read 36 rfl) (by decide) (by decide) (fun c65 => ?_) (fun c65 => (absurd c65 (by omega)))
    refine fg_iload (fg_ft (pc := 95) tb_Reader_read 49 rfl) rfl ?_
    refine fg_if_ne (tgt := 116) (fg_ft (pc := 97) tb_Reader_read 50 rfl) (by decide) (fun _ => ?_) (fun h => absurd h (by decide))
    have hp2 : pz_rs (pz_K (pz_b c) len) (pz_V (pz_b c) len) (pz_S (pz_b c) len) len sort = (j, X) := by
      rw [← hp]; rfl
    refine pz_rd_end hso hle hok hQ (fun h0 h1 => by have := hten (by rw [hp2]; exact h0) h1; rw [hp2] at this; exact this) hfr hl6 hRX ?_
    show pz_re len sort (pz_rs (pz_K (pz_b c) len) (pz_V (pz_b c) len) (pz_S (pz_b c) len) len sort).2 = _
    rw [hp2]
  | succ q ih =>
    intro j X ν hf600 hp hfr hl6 hLX hRX
    refine fg_iload (fg_ft (pc := 63) tb_Reader_read 35 rfl) rfl ?_
    refine fg_if_leN (tgt := 95) (fg_ft (pc := 65) tb_Reader_read 36 rfl) (by decide) (by omega) (fun c65 => (absurd c65 (by omega))) (fun c65 => ?_)
    refine fg_iload (fg_ft (pc := 68) tb_Reader_read 37 rfl) rfl ?_
    refine fg_if_eq (tgt := 95) (fg_ft (pc := 70) tb_Reader_read 38 rfl) (by decide) (fun h => absurd h (by decide)) (fun _ => ?_)
    refine fg_aloadn (fg_ft (pc := 73) tb_Reader_read 39 rfl) rfl ?_
    refine fg_getV (v := (nI (pz_tc (pz_b c) len (pz_N (pz_b c) len j)))) (fg_ft (pc := 74) tb_Reader_read 40 rfl) ff_Reader_72 ly_255 rfl (fg_lt ly_255 (by decide)) hLX.2.1 ?_
    refine fg_bipush (fg_ft (pc := 77) tb_Reader_read 41 rfl) ib_101 ?_
    refine fg_icmp_eqN (tgt := 95) (fg_ft (pc := 79) tb_Reader_read 42 rfl) (by decide) (by have := pz_tcl (pz_b c) len (pz_N (pz_b c) len j); omega) (by decide) (fun c79 => ?_) (fun c79 => ?_)
    · refine fg_iload (fg_ft (pc := 95) tb_Reader_read 49 rfl) rfl ?_
      refine fg_if_ne (tgt := 116) (fg_ft (pc := 97) tb_Reader_read 50 rfl) (by decide) (fun _ => ?_) (fun h => absurd h (by decide))
      have hp2 : pz_rs (pz_K (pz_b c) len) (pz_V (pz_b c) len) (pz_S (pz_b c) len) len sort = (j, X) := by
        rw [← hp]; exact pz_pa_0 (pz_tc0.mp c79)
      refine pz_rd_end hso hle hok hQ (fun h0 h1 => by have := hten (by rw [hp2]; exact h0) h1; rw [hp2] at this; exact this) hfr hl6 hRX ?_
      show pz_re len sort (pz_rs (pz_K (pz_b c) len) (pz_V (pz_b c) len) (pz_S (pz_b c) len) len sort).2 = _
      rw [hp2]
    · have hk0 : pz_K (pz_b c) len j ≠ 0 := fun hh => c79 (pz_tc0.mpr hh)
      rw [pz_pa_s hRX.2.2.1.2 hk0] at hp
      refine fg_aloadn (fg_ft (pc := 82) tb_Reader_read 43 rfl) rfl ?_
      refine fg_iloadn (fg_ft (pc := 83) tb_Reader_read 44 rfl) rfl ?_
      refine fg_callV (fg_ft (pc := 84) tb_Reader_read 45 rfl) cf_Reader_76 (fg_isOf ly_255 rfl (fg_lt ly_255 (by decide))) (as := [.int (nI sort)]) (st := []) rfl rfl (Nat.le_of_ble_eq_true rfl) (Nat.le_refl _) (Nat.le_refl _) (ev_Reader_readLine (c := c) rfl (fun k hk => (hfr 102 k (by omega)).trans (hc k hk)) hl6 hle hf hso hLX hRX ?_ ?_)
      · intro hn1 ν1 hag1 hLX1 hRX1
        refine fg_istore (fg_ft (pc := 87) tb_Reader_read 46 rfl) (Nat.le_of_ble_eq_true rfl) ?_
        refine fg_iinc (fg_ft (pc := 89) tb_Reader_read 47 rfl) rfl (v := nI q) (by rw [ic_m1]; exact pk_m1 _) ?_
        refine fg_goto (tgt := 63) (fg_ft (pc := 92) tb_Reader_read 48 rfl) (by decide) ?_
        exact ih _ _ ν1 (by omega) hp (fun a k h => (hag1 a k (by omega)).trans (hfr a k h)) ((hag1 255 6 (by omega)).trans hl6) hLX1 hRX1
      · intro hn1 ν1 hag1 hS1 h91
        refine fg_istore (fg_ft (pc := 87) tb_Reader_read 46 rfl) (Nat.le_of_ble_eq_true rfl) ?_
        refine fg_iinc (fg_ft (pc := 89) tb_Reader_read 47 rfl) rfl (v := nI q) (by rw [ic_m1]; exact pk_m1 _) ?_
        refine fg_goto (tgt := 63) (fg_ft (pc := 92) tb_Reader_read 48 rfl) (by decide) ?_
        refine fg_iload (fg_ft (pc := 63) tb_Reader_read 35 rfl) rfl ?_
        refine fg_if_leN (tgt := 95) (fg_ft (pc := 65) tb_Reader_read 36 rfl) (by decide) (by omega) (fun c65 => ?_) (fun c65 => ?_)
        · refine fg_iload (fg_ft (pc := 95) tb_Reader_read 49 rfl) rfl ?_
          refine fg_if_ne (tgt := 116) (fg_ft (pc := 97) tb_Reader_read 50 rfl) (by decide) (fun h => absurd h (by decide)) (fun _ => ?_)
          rw [pz_pa_1 hn1] at hp
          refine pz_rd_wrong (pl := (pz_l1 (pz_K (pz_b c) len) (pz_V (pz_b c) len) (pz_S (pz_b c) len) len sort (j, X)).2.2.1) (C := (pz_l1 (pz_K (pz_b c) len) (pz_V (pz_b c) len) (pz_S (pz_b c) len) len sort (j, X)).2.2.2.1) hQ (fun a k h => (hag1 a k (by omega)).trans (hfr a k h)) hS1 h91 ?_
          show pz_re len sort (pz_rs (pz_K (pz_b c) len) (pz_V (pz_b c) len) (pz_S (pz_b c) len) len sort).2 = _
          rw [← hp]
          unfold pz_re
          rw [if_neg (fun hh => by have := hh.1; omega), hn1]
        · refine fg_iload (fg_ft (pc := 68) tb_Reader_read 37 rfl) rfl ?_
          refine fg_if_eq (tgt := 95) (fg_ft (pc := 70) tb_Reader_read 38 rfl) (by decide) (fun _ => ?_) (fun h => absurd h (by decide))
          refine fg_iload (fg_ft (pc := 95) tb_Reader_read 49 rfl) rfl ?_
          refine fg_if_ne (tgt := 116) (fg_ft (pc := 97) tb_Reader_read 50 rfl) (by decide) (fun h => absurd h (by decide)) (fun _ => ?_)
          rw [pz_pa_1 hn1] at hp
          refine pz_rd_wrong (pl := (pz_l1 (pz_K (pz_b c) len) (pz_V (pz_b c) len) (pz_S (pz_b c) len) len sort (j, X)).2.2.1) (C := (pz_l1 (pz_K (pz_b c) len) (pz_V (pz_b c) len) (pz_S (pz_b c) len) len sort (j, X)).2.2.2.1) hQ (fun a k h => (hag1 a k (by omega)).trans (hfr a k h)) hS1 h91 ?_
          show pz_re len sort (pz_rs (pz_K (pz_b c) len) (pz_V (pz_b c) len) (pz_S (pz_b c) len) len sort).2 = _
          rw [← hp]
          unfold pz_re
          rw [if_neg (fun hh => by have := hh.1; omega), hn1]
theorem ev_Reader_read {E : fg_E} {d : Nat} {μ : Nat → Nat → Int32} {R : fg_T4} {Q : Option Value → fg_M → Prop} {c : Nat → Int32} {len sort : Nat} (hso : sort < 2) (hle : len ≤ 600) (hok : (pz_rd (pz_b c) len sort).1 = 0 → sort = 0 → fg_ok (pz_rd (pz_b c) len sort).2.2) (hc : ∀ k, k < 600 → μ 102 k = c k) (hf : pz_fit c) (hten : (pz_rs (pz_K (pz_b c) len) (pz_V (pz_b c) len) (pz_S (pz_b c) len) len sort).2.1 = 0 → sort = 0 → (pz_rs (pz_K (pz_b c) len) (pz_V (pz_b c) len) (pz_S (pz_b c) len) len sort).2.2.2.1 0 ≤ 10) (hwd : fg_wdT μ 256) (h270 : μ 270 0 = nI 4) (hQ : ∀ μ' : Nat → Nat → Int32, (∀ a j, (a < 255 ∨ 271 < a) → μ' a j = μ a j) → (fg_wdT μ' 256 ∧ μ' 270 0 = nI 4) → μ' 255 2 = nI (pz_rd (pz_b c) len sort).1 → μ' 255 3 = pz_pl (pz_rd (pz_b c) len sort).1 (pz_rd (pz_b c) len sort).2.1 → ((pz_rd (pz_b c) len sort).1 = 0 → sort = 0 → fg_TW μ' 256 (pz_rd (pz_b c) len sort).2.2) → ((pz_rd (pz_b c) len sort).1 = 0 → sort = 1 → μ' 270 2 = nI ((pz_rd (pz_b c) len sort).2.2 0) ∧ (pz_rd (pz_b c) len sort).2.2 0 ≤ 30 ∧ ∀ j, j < (pz_rd (pz_b c) len sort).2.2 0 * 4 → μ' 271 j = nI ((pz_rd (pz_b c) len sort).2.2 (1 + j))) → Q none (μ', fg_rho (R.1, R.2.1, R.2.2.1, some 102), 304)) : fg_Ev E yy_Reader_read (d + 9) [.ref 255, .ref 102, .int (nI len), .int (nI sort)] (μ, fg_rho R, 304) 304 Q := by
  refine fg_intro (by decide +kernel) (Nat.le_of_ble_eq_true rfl) (fg_okAs rfl) (Nat.le_refl _) ?_
  refine fg_aloadn (fg_ft (pc := 0) tb_Reader_read 0 rfl) rfl ?_
  refine fg_aloadn (fg_ft (pc := 1) tb_Reader_read 1 rfl) rfl ?_
  refine fg_putRe (fg_ft (pc := 2) tb_Reader_read 2 rfl) ff_Reader_37 ly_255 rfl (fg_lt ly_255 (by decide)) ?_
  show fg_wp _ _ _ _ _ _ _ _ _ (μ, fg_rho (R.1, R.2.1, R.2.2.1, some 102), 304)
  refine fg_aloadn (fg_ft (pc := 5) tb_Reader_read 3 rfl) rfl ?_
  refine fg_iloadn (fg_ft (pc := 6) tb_Reader_read 4 rfl) rfl ?_
  refine fg_aloadn (fg_ft (pc := 7) tb_Reader_read 5 rfl) rfl ?_
  refine fg_alen (fg_ft (pc := 8) tb_Reader_read 6 rfl) ly_102 (by decide) (fg_lt ly_102 (by decide)) ?_
  refine fg_mminN (fg_ft (pc := 9) tb_Reader_read 7 rfl) cf_Reader_41 (Nat.le_of_ble_eq_true rfl) (by omega) (by decide) ?_
  refine fg_top (y := nI len) (by rw [Nat.min_eq_left hle]) ?_
  refine fg_putI (fg_ft (pc := 12) tb_Reader_read 8 rfl) ff_Reader_47 ly_255 rfl (fg_lt ly_255 (by decide)) (fg_nokI _) (fun _ _ h => by cases h; rfl) ?_
  show fg_wp _ _ _ _ _ _ _ _ _ (fg_u2 μ 255 6 (nI len), fg_rho (R.1, R.2.1, R.2.2.1, some 102), 304)
  refine fg_aloadn (fg_ft (pc := 15) tb_Reader_read 9 rfl) rfl ?_
  refine fg_iconst (fg_ft (pc := 16) tb_Reader_read 10 rfl) ic_0 ?_
  refine fg_putI (fg_ft (pc := 17) tb_Reader_read 11 rfl) ff_Reader_51 ly_255 rfl (fg_lt ly_255 (by decide)) (fg_nokI _) (fun _ _ h => by cases h; rfl) ?_
  show fg_wp _ _ _ _ _ _ _ _ _ (fg_u2 (fg_u2 μ 255 6 (nI len)) 255 7 (nI 0), fg_rho (R.1, R.2.1, R.2.2.1, some 102), 304)
  refine fg_aloadn (fg_ft (pc := 20) tb_Reader_read 12 rfl) rfl ?_
  refine fg_iconst (fg_ft (pc := 21) tb_Reader_read 13 rfl) ic_0 ?_
  refine fg_putI (fg_ft (pc := 22) tb_Reader_read 14 rfl) ff_Reader_54 ly_255 rfl (fg_lt ly_255 (by decide)) (fg_nokI _) (fun _ _ h => by cases h; rfl) ?_
  show fg_wp _ _ _ _ _ _ _ _ _ (fg_u2 (fg_u2 (fg_u2 μ 255 6 (nI len)) 255 7 (nI 0)) 255 2 (nI 0), fg_rho (R.1, R.2.1, R.2.2.1, some 102), 304)
  refine fg_aloadn (fg_ft (pc := 25) tb_Reader_read 15 rfl) rfl ?_
  refine fg_iconst (fg_ft (pc := 26) tb_Reader_read 16 rfl) ic_m1 ?_
  refine fg_putI (fg_ft (pc := 27) tb_Reader_read 17 rfl) ff_Reader_57 ly_255 rfl (fg_lt ly_255 (by decide)) (fg_nokI _) (fun _ _ h => by cases h; rfl) ?_
  show fg_wp _ _ _ _ _ _ _ _ _ (fg_u2 (fg_u2 (fg_u2 (fg_u2 μ 255 6 (nI len)) 255 7 (nI 0)) 255 2 (nI 0)) 255 3 (-1), fg_rho (R.1, R.2.1, R.2.2.1, some 102), 304)
  refine fg_aloadn (fg_ft (pc := 30) tb_Reader_read 18 rfl) rfl ?_
  refine fg_iconst (fg_ft (pc := 31) tb_Reader_read 19 rfl) ic_0 ?_
  refine fg_putI (fg_ft (pc := 32) tb_Reader_read 20 rfl) ff_Reader_60 ly_255 rfl (fg_lt ly_255 (by decide)) (fg_nokI _) (fun _ _ h => by cases h; rfl) ?_
  show fg_wp _ _ _ _ _ _ _ _ _ (fg_u2 (fg_u2 (fg_u2 (fg_u2 (fg_u2 μ 255 6 (nI len)) 255 7 (nI 0)) 255 2 (nI 0)) 255 3 (-1)) 255 11 (nI 0), fg_rho (R.1, R.2.1, R.2.2.1, some 102), 304)
  refine fg_aloadn (fg_ft (pc := 35) tb_Reader_read 21 rfl) rfl ?_
  refine fg_getR (fg_ft (pc := 36) tb_Reader_read 22 rfl) ff_Reader_12 ly_255 rfl (fg_lt ly_255 (by decide)) (rh_255_0 (R.1, R.2.1, R.2.2.1, some 102)) ?_
  refine fg_callV (fg_ft (pc := 39) tb_Reader_read 23 rfl) cf_Reader_63 (fg_isOf ly_256 rfl (fg_lt ly_256 (by decide))) (as := []) (st := []) rfl rfl (Nat.le_of_ble_eq_true rfl) (Nat.le_refl _) (Nat.le_refl _) (ev_Town_clear (t := 256) fg_isT_256 (hwd.fr2 (fun a h1 h2 k => ((fg_u2ne (by omega)).trans ((fg_u2ne (by omega)).trans ((fg_u2ne (by omega)).trans ((fg_u2ne (by omega)).trans (fg_u2ne (by omega)))))))) ?_)
  intro ν1 hag1 htw
  have hlo : ∀ a k, (a < 255 ∨ 271 < a ∨ a = 270 ∨ a = 271) → ν1 a k = μ a k := fun a k h => (hag1 a (by omega) k).trans ((fg_u2ne (by omega)).trans ((fg_u2ne (by omega)).trans ((fg_u2ne (by omega)).trans ((fg_u2ne (by omega)).trans (fg_u2ne (by omega))))))
  show fg_wp _ _ _ _ _ _ _ _ _ (ν1, fg_rho (R.1, R.2.1, R.2.2.1, some 102), 304)
  refine fg_aloadn (fg_ft (pc := 42) tb_Reader_read 24 rfl) rfl ?_
  refine fg_getR (fg_ft (pc := 43) tb_Reader_read 25 rfl) ff_Reader_23 ly_255 rfl (fg_lt ly_255 (by decide)) (rh_255_1 (R.1, R.2.1, R.2.2.1, some 102)) ?_
  refine fg_iconst (fg_ft (pc := 46) tb_Reader_read 26 rfl) ic_0 ?_
  refine fg_putI (fg_ft (pc := 47) tb_Reader_read 27 rfl) ff_Reader_66 ly_270 rfl (fg_lt ly_270 (by decide)) (fg_nokI _) (fun _ _ h => by cases h; rfl) ?_
  show fg_wp _ _ _ _ _ _ _ _ _ (fg_u2 ν1 270 2 (nI 0), fg_rho (R.1, R.2.1, R.2.2.1, some 102), 304)
  refine fg_aloadn (fg_ft (pc := 50) tb_Reader_read 28 rfl) rfl ?_
  refine fg_callV (fg_ft (pc := 51) tb_Reader_read 29 rfl) cf_Reader_69 (fg_isOf ly_255 rfl (fg_lt ly_255 (by decide))) (as := []) (st := []) rfl rfl (Nat.le_of_ble_eq_true rfl) (Nat.le_refl _) (Nat.le_refl _) (ev_Reader_first (c := c) rfl (fun k hk => (fg_u2ne (by decide)).trans ((hlo 102 k (by omega)).trans (hc k hk))) ((fg_u2ne (by decide)).trans ((hag1 255 (by decide) 6).trans ((fg_u2ns (by decide)).trans ((fg_u2ns (by decide)).trans ((fg_u2ns (by decide)).trans ((fg_u2ns (by decide)).trans fg_u2eq)))))) hle hf ((fg_u2ne (by decide)).trans ((hag1 255 (by decide) 7).trans ((fg_u2ns (by decide)).trans ((fg_u2ns (by decide)).trans ((fg_u2ns (by decide)).trans fg_u2eq))))) ?_)
  intro ν2 hag2 hLX
  show fg_wp _ _ _ _ _ _ _ _ _ (ν2, fg_rho (R.1, R.2.1, R.2.2.1, some 102), 304)
  refine fg_iconst (fg_ft (pc := 54) tb_Reader_read 30 rfl) ic_1 ?_
  refine fg_istore (fg_ft (pc := 55) tb_Reader_read 31 rfl) (Nat.le_of_ble_eq_true rfl) ?_
  refine fg_aloadn (fg_ft (pc := 57) tb_Reader_read 32 rfl) rfl ?_
  refine fg_getV (v := (nI len)) (fg_ft (pc := 58) tb_Reader_read 33 rfl) ff_Reader_47 ly_255 rfl (fg_lt ly_255 (by decide)) ((hag2 255 6 (by omega)).trans ((fg_u2ne (by decide)).trans ((hag1 255 (by decide) 6).trans ((fg_u2ns (by decide)).trans ((fg_u2ns (by decide)).trans ((fg_u2ns (by decide)).trans ((fg_u2ns (by decide)).trans fg_u2eq))))))) ?_
  refine fg_istore (fg_ft (pc := 61) tb_Reader_read 34 rfl) (Nat.le_of_ble_eq_true rfl) ?_
  refine pz_rd_loop (μ := μ) (μ0 := μ) hso hle hok hc hf hten hQ len 0 _ ν2 hle rfl (fun a k h => (hag2 a k (by omega)).trans ((fg_u2ne (by omega)).trans (hlo a k (by omega)))) ((hag2 255 6 (by omega)).trans ((fg_u2ne (by decide)).trans ((hag1 255 (by decide) 6).trans ((fg_u2ns (by decide)).trans ((fg_u2ns (by decide)).trans ((fg_u2ns (by decide)).trans ((fg_u2ns (by decide)).trans fg_u2eq))))))) hLX (pz_RX0 hso (htw.frame (fun a h1 h2 k => (hag2 a k (by omega)).trans (fg_u2ne (by omega))) trivial) ((hag2 270 0 (by omega)).trans ((fg_u2ns (by decide)).trans ((hlo 270 0 (by omega)).trans h270))) ((hag2 270 2 (by omega)).trans fg_u2eq) ((hag2 255 2 (by omega)).trans ((fg_u2ne (by decide)).trans ((hag1 255 (by decide) 2).trans ((fg_u2ns (by decide)).trans ((fg_u2ns (by decide)).trans fg_u2eq))))) ((hag2 255 3 (by omega)).trans ((fg_u2ne (by decide)).trans ((hag1 255 (by decide) 3).trans ((fg_u2ns (by decide)).trans fg_u2eq)))) ((hag2 255 11 (by omega)).trans ((fg_u2ne (by decide)).trans ((hag1 255 (by decide) 11).trans fg_u2eq))))
