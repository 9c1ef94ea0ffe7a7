/-- what goes as a whole -/
def fg_wsat (T : Nat → Nat) (mind r g : Nat) : Prop := g.testBit (T (8 + 2 * r)) = true → fg_le (T (9 + 2 * r)) mind → fg_le (T (9 + 2 * r)) g
def fg_IsW (T : Nat → Nat) (mind fact g : Nat) : Prop := g.testBit fact = true ∧ (∀ r, r < T 1 → fg_wsat T mind r g) ∧ ∀ g', g'.testBit fact = true → (∀ r, r < T 1 → fg_wsat T mind r g') → fg_le g g'
theorem fg_IsW.uniq {T : Nat → Nat} {mind fact g g' : Nat} (h : fg_IsW T mind fact g) (h' : fg_IsW T mind fact g') : g = g' := fg_le_as (h.2.2 _ h'.1 h'.2.1) (h'.2.2 _ h.1 h.2.1)
noncomputable def fg_wg (T : Nat → Nat) (mind fact : Nat) : Nat := @dite _ (∃ r, fg_IsW T mind fact r) (Classical.propDecidable _) (fun h => Classical.choose h) (fun _ => 0)
theorem fg_wg_of {T : Nat → Nat} {mind fact g : Nat} (h : fg_IsW T mind fact g) : fg_wg T mind fact = g := by
  have he : ∃ r, fg_IsW T mind fact r := ⟨g, h⟩
  have e : fg_wg T mind fact = Classical.choose he := @dif_pos _ (Classical.propDecidable _) he _ _ _
  rw [e]
  exact fg_IsW.uniq (Classical.choose_spec he) h
noncomputable def fg_fw (T : Nat → Nat) (mind fact : Nat) : Nat := fg_df mind (fg_wg T mind fact)
/-- a round over the rules: what it keeps -/
def fg_wR (T : Nat → Nat) (mind fact before k g : Nat) : Prop := g < 2 ^ T 0 ∧ g.testBit fact = true ∧ fg_le before g ∧ (∀ g', g'.testBit fact = true → (∀ r, r < T 1 → fg_wsat T mind r g') → fg_le g g') ∧ (g = before → ∀ r, r < k → fg_wsat T mind r before)
theorem fg_wR.step1 {T : Nat → Nat} {mind fact before k g : Nat} (hok : fg_ok T) (h : fg_wR T mind fact before k g) (hk : k < T 1) (hg : g.testBit (T (8 + 2 * k)) = true) (hb : fg_le (T (9 + 2 * k)) mind) : fg_wR T mind fact before (k + 1) (g ||| T (9 + 2 * k)) := by
  obtain ⟨h1, h2, h3, h4, h5⟩ := h
  refine ⟨fg_or_lt h1 (hok.2.2.1 k hk).2.1, fg_le_or1 _ _ _ h2, fg_le_tr h3 (fg_le_or1 _ _), fun g' g1 g2 => fg_or_le (h4 g' g1 g2) (g2 k hk (h4 g' g1 g2 _ hg) hb), fun he r hr => ?_⟩
  have hle : fg_le g before := by rw [← he]; exact fg_le_or1 _ _
  have e2 : g = before := fg_le_as hle h3
  rcases Nat.lt_or_ge r k with q | q
  · exact h5 e2 r q
  · have e3 : r = k := by omega
    subst e3
    intro _ _
    rw [← he]
    exact fg_le_or2 _ _
theorem fg_wR.step0 {T : Nat → Nat} {mind fact before k g : Nat} (h : fg_wR T mind fact before k g) (hn : ¬ g.testBit (T (8 + 2 * k)) = true ∨ ¬ fg_le (T (9 + 2 * k)) mind) : fg_wR T mind fact before (k + 1) g := by
  obtain ⟨h1, h2, h3, h4, h5⟩ := h
  refine ⟨h1, h2, h3, h4, fun he r hr => ?_⟩
  rcases Nat.lt_or_ge r k with q | q
  · exact h5 he r q
  · have e3 : r = k := by omega
    subst e3
    intro a b
    rcases hn with c | c
    · rw [he] at c; exact absurd a c
    · exact absurd b c
theorem fg_pc_bit {s f : Nat} (hs : s < 2 ^ 12) (h : s.testBit f = true) : 1 ≤ fg_pc s := by
  have hf : f < 12 := fg_bit_lt hs h
  have h1 : fg_pc (2 ^ f) ≤ fg_pc s := fg_pc_mono (fg_bit_le.mpr h)
  have h2 : ∀ f, f < 12 → fg_pc (2 ^ f) = 1 := by decide
  rw [h2 f hf] at h1
  exact h1
theorem fg_pc_lt2 {a b : Nat} (h : fg_le a b) (hb : b < 4096) (hne : a ≠ b) : fg_pc a < fg_pc b := by
  have h1 := fg_pc_mono h
  rcases Nat.lt_or_ge (fg_pc a) (fg_pc b) with g | g
  · exact g
  · exact absurd (fg_pc_eq h hb (Nat.le_antisymm h1 g)) hne
theorem ev_Town_forgetWhole {E : fg_E} {d : Nat} {μ : Nat → Nat → Int32} {R : fg_T4} {Q : Option Value → fg_M → Prop} {t : Nat} {T : Nat → Nat} (ht : fg_isT t) (hT : fg_TW μ t T) (hok : fg_ok T) {mind fact : Nat} (hm : mind < 2 ^ T 0) (hf : fact < T 0) (hQ : Q (some (.int (nI (fg_df mind (fg_wg T mind fact))))) (μ, fg_rho R, 304)) : fg_Ev E yy_Town_forgetWhole (d + 2) [.ref t, .int (nI mind), .int (nI fact)] (μ, fg_rho R, 304) 304 Q := by
  have hb0 := hok.1
  have hb1 := hok.2.1
  have hp := hok.p
  have hq := Nat.two_pow_pos (T 0)
  have inner : ∀ (rd b : Nat), rd < 10 → (∀ (g : Nat) (v7 : Value), fg_wR T mind fact b (T 1) g → fg_wp E yy_Town_forgetWhole (d + 2) 304 304 Q 81 [.ref t, .int (nI mind), .int (nI fact), .int (nI g), .int (nI rd), .int (nI b), .int (nI (T 1)), v7] [] (μ, fg_rho R, 304)) → ∀ (n k g : Nat), T 1 - k < n → k ≤ T 1 → fg_wR T mind fact b k g → ∀ v7 : Value, fg_wp E yy_Town_forgetWhole (d + 2) 304 304 Q 20 [.ref t, .int (nI mind), .int (nI fact), .int (nI g), .int (nI rd), .int (nI b), .int (nI k), v7] [] (μ, fg_rho R, 304) := by
    intro rd b hrd hend n
    induction n with
    | zero => intro k g h; exact absurd h (Nat.not_lt_zero _)
    | succ n ih =>
      intro k g hn hk hR v7
      have hgF : g < 2 ^ T 0 := hR.1
      refine fg_iload (fg_ft (pc := 20) tb_Town_forgetWhole 13 rfl) rfl ?_
      refine fg_aloadn (fg_ft (pc := 22) tb_Town_forgetWhole 14 rfl) rfl ?_
      refine fg_getR (fg_ft (pc := 23) tb_Town_forgetWhole 15 rfl) ff_Town_23 (tT_lay ht) rfl (fg_lt (tT_lay ht) (by decide)) (tT_r2 ht) ?_
      refine fg_getV (v := (nI (T 1))) (fg_ft (pc := 26) tb_Town_forgetWhole 16 rfl) ff_Town_46 ((tT_w2 (R := R) ht).1) rfl (fg_lt ((tT_w2 (R := R) ht).1) (by decide)) hT.2.1.2.1 ?_
      refine fg_icmp_geN (tgt := 81) (fg_ft (pc := 29) tb_Town_forgetWhole 17 rfl) (by decide) (by omega) (by omega) (fun c29 => ?_) (fun c29 => ?_)
      · rw [show k = T 1 by omega] at hR ⊢; exact hend g _ hR
      · refine fg_aloadn (fg_ft (pc := 32) tb_Town_forgetWhole 18 rfl) rfl ?_
        refine fg_getR (fg_ft (pc := 33) tb_Town_forgetWhole 19 rfl) ff_Town_23 (tT_lay ht) rfl (fg_lt (tT_lay ht) (by decide)) (tT_r2 ht) ?_
        refine fg_iload (fg_ft (pc := 36) tb_Town_forgetWhole 20 rfl) rfl ?_
        refine fg_iconst (fg_ft (pc := 38) tb_Town_forgetWhole 21 rfl) ic_1 ?_
        refine fg_callV (fg_ft (pc := 39) tb_Town_forgetWhole 22 rfl) cf_Town_63 (fg_isOf ((tT_w2 (R := R) ht).1) rfl (fg_lt ((tT_w2 (R := R) ht).1) (by decide))) (as := [.int (nI k), .int (nI 1)]) (st := []) rfl rfl (Nat.le_of_ble_eq_true rfl) (Nat.le_refl _) (Nat.le_refl _) (ev_Rows_cell (tT_w2 (R := R) ht) hT.2.1.1 hT.2.1.2.1 (by have := hok.2.1; omega) (by decide) (by have := hok.2.1; omega) (i := k) (j := 1) (by omega) (by decide) (hT.rule1 (by omega)) ?_)
        refine fg_istore (fg_ft (pc := 42) tb_Town_forgetWhole 23 rfl) (Nat.le_of_ble_eq_true rfl) ?_
        refine fg_iloadn (fg_ft (pc := 44) tb_Town_forgetWhole 24 rfl) rfl ?_
        refine fg_aloadn (fg_ft (pc := 45) tb_Town_forgetWhole 25 rfl) rfl ?_
        refine fg_getR (fg_ft (pc := 46) tb_Town_forgetWhole 26 rfl) ff_Town_23 (tT_lay ht) rfl (fg_lt (tT_lay ht) (by decide)) (tT_r2 ht) ?_
        refine fg_iload (fg_ft (pc := 49) tb_Town_forgetWhole 27 rfl) rfl ?_
        refine fg_iconst (fg_ft (pc := 51) tb_Town_forgetWhole 28 rfl) ic_0 ?_
        refine fg_callV (fg_ft (pc := 52) tb_Town_forgetWhole 29 rfl) cf_Town_63 (fg_isOf ((tT_w2 (R := R) ht).1) rfl (fg_lt ((tT_w2 (R := R) ht).1) (by decide))) (as := [.int (nI k), .int (nI 0)]) (st := [.int (nI g)]) rfl rfl (Nat.le_of_ble_eq_true rfl) (Nat.le_refl _) (Nat.le_refl _) (ev_Rows_cell (tT_w2 (R := R) ht) hT.2.1.1 hT.2.1.2.1 (by have := hok.2.1; omega) (by decide) (by have := hok.2.1; omega) (i := k) (j := 0) (by omega) (by decide) (hT.rule0 (by omega)) ?_)
        refine fg_callSN (fg_ft (pc := 55) tb_Town_forgetWhole 30 rfl) cf_Town_76 (as := [.int (nI g), .int (nI (T (8 + 2 * k)))]) (st := []) rfl rfl (Nat.le_of_ble_eq_true rfl) (Nat.le_refl _) (Nat.le_refl _) (ev_Fb_isIn (s := g) (k := (T (8 + 2 * k))) (by omega) (by have := (hok.2.2.1 k (by omega)).1; omega) ?_)
        refine fg_ifB_eq (tgt := 75) (fg_ft (pc := 58) tb_Town_forgetWhole 31 rfl) (by decide) (fun c58 => ?_) (fun c58 => ?_)
        · refine fg_iincN (fg_ft (pc := 75) tb_Town_forgetWhole 42 rfl) rfl ic_1 rfl ?_
          refine fg_goto (tgt := 20) (fg_ft (pc := 78) tb_Town_forgetWhole 43 rfl) (by decide) ?_
          exact ih (k + 1) g (by omega) (by omega) (hR.step0 (by first | exact Or.inl c58 | exact Or.inr (fun h => c67 (fg_df0.mpr h)))) _
        · refine fg_iload (fg_ft (pc := 61) tb_Town_forgetWhole 32 rfl) rfl ?_
          refine fg_iloadn (fg_ft (pc := 63) tb_Town_forgetWhole 33 rfl) rfl ?_
          refine fg_iconst (fg_ft (pc := 64) tb_Town_forgetWhole 34 rfl) ic_m1 ?_
          refine fg_ixor (fg_ft (pc := 65) tb_Town_forgetWhole 35 rfl) ?_
          refine fg_iandD (fg_ft (pc := 66) tb_Town_forgetWhole 36 rfl) ?_
          refine fg_if_neN (tgt := 75) (fg_ft (pc := 67) tb_Town_forgetWhole 37 rfl) (by decide) (fg_df_le31 (by have := (hok.2.2.1 k (by omega)).2.1; omega)) (fun c67 => ?_) (fun c67 => ?_)
          · refine fg_iincN (fg_ft (pc := 75) tb_Town_forgetWhole 42 rfl) rfl ic_1 rfl ?_
            refine fg_goto (tgt := 20) (fg_ft (pc := 78) tb_Town_forgetWhole 43 rfl) (by decide) ?_
            exact ih (k + 1) g (by omega) (by omega) (hR.step0 (by first | exact Or.inl c58 | exact Or.inr (fun h => c67 (fg_df0.mpr h)))) _
          · refine fg_iloadn (fg_ft (pc := 70) tb_Town_forgetWhole 38 rfl) rfl ?_
            refine fg_iload (fg_ft (pc := 71) tb_Town_forgetWhole 39 rfl) rfl ?_
            refine fg_iorN (fg_ft (pc := 73) tb_Town_forgetWhole 40 rfl) ?_
            refine fg_istoren (fg_ft (pc := 74) tb_Town_forgetWhole 41 rfl) (Nat.le_of_ble_eq_true rfl) ?_
            refine fg_iincN (fg_ft (pc := 75) tb_Town_forgetWhole 42 rfl) rfl ic_1 rfl ?_
            refine fg_goto (tgt := 20) (fg_ft (pc := 78) tb_Town_forgetWhole 43 rfl) (by decide) ?_
            exact ih (k + 1) _ (by omega) (by omega) (hR.step1 hok (by omega) c58 (fg_df0.mp c67)) _
  have outer : ∀ (n rd g : Nat), 10 - rd < n → rd ≤ 10 → g < 2 ^ T 0 → g.testBit fact = true → (∀ g', g'.testBit fact = true → (∀ r, r < T 1 → fg_wsat T mind r g') → fg_le g g') → rd + 1 ≤ fg_pc g → ∀ v5 v6 v7 : Value, fg_wp E yy_Town_forgetWhole (d + 2) 304 304 Q 7 [.ref t, .int (nI mind), .int (nI fact), .int (nI g), .int (nI rd), v5, v6, v7] [] (μ, fg_rho R, 304) := by
    intro n
    induction n with
    | zero => intro rd g h; exact absurd h (Nat.not_lt_zero _)
    | succ n ih =>
      intro rd g hn hrd hgF hfa hmin hpc v5 v6 v7
      have hg10 : g < 2 ^ 10 := fg_lt10 hgF hok.1.2
      refine fg_iload (fg_ft (pc := 7) tb_Town_forgetWhole 6 rfl) rfl ?_
      refine fg_bipush (fg_ft (pc := 9) tb_Town_forgetWhole 7 rfl) ib_10 ?_
      refine fg_icmp_geN (tgt := 96) (fg_ft (pc := 11) tb_Town_forgetWhole 8 rfl) (by decide) (by omega) (by decide) (fun c11 => (absurd hpc (by have := fg_pc10 hg10; omega))) (fun c11 => ?_)
      refine fg_iloadn (fg_ft (pc := 14) tb_Town_forgetWhole 9 rfl) rfl ?_
      refine fg_istore (fg_ft (pc := 15) tb_Town_forgetWhole 10 rfl) (Nat.le_of_ble_eq_true rfl) ?_
      refine fg_iconst (fg_ft (pc := 17) tb_Town_forgetWhole 11 rfl) ic_0 ?_
      refine fg_istore (fg_ft (pc := 18) tb_Town_forgetWhole 12 rfl) (Nat.le_of_ble_eq_true rfl) ?_
      refine inner rd g (by omega) (fun g2 w7 hR => ?_) (T 1 + 1) 0 g (by omega) (by omega) ⟨hgF, hfa, fg_le_rf _, hmin, fun _ r hr => absurd hr (Nat.not_lt_zero _)⟩ _
      have hg2F : g2 < 2 ^ T 0 := hR.1
      refine fg_iloadn (fg_ft (pc := 81) tb_Town_forgetWhole 44 rfl) rfl ?_
      refine fg_iload (fg_ft (pc := 82) tb_Town_forgetWhole 45 rfl) rfl ?_
      refine fg_icmp_neN (tgt := 90) (fg_ft (pc := 84) tb_Town_forgetWhole 46 rfl) (by decide) (by omega) (by omega) (fun c84 => ?_) (fun c84 => ?_)
      · refine fg_iincN (fg_ft (pc := 90) tb_Town_forgetWhole 48 rfl) rfl ic_1 rfl ?_
        refine fg_goto (tgt := 7) (fg_ft (pc := 93) tb_Town_forgetWhole 49 rfl) (by decide) ?_
        exact ih (rd + 1) g2 (by omega) (by omega) hR.1 hR.2.1 hR.2.2.2.1 (by have := fg_pc_lt2 hR.2.2.1 (by omega) (fun h => c84 h.symm); omega) _ _ _
      · refine fg_goto (tgt := 96) (fg_ft (pc := 87) tb_Town_forgetWhole 47 rfl) (by decide) ?_
        refine fg_iloadn (fg_ft (pc := 96) tb_Town_forgetWhole 50 rfl) rfl ?_
        refine fg_iloadn (fg_ft (pc := 97) tb_Town_forgetWhole 51 rfl) rfl ?_
        refine fg_iconst (fg_ft (pc := 98) tb_Town_forgetWhole 52 rfl) ic_m1 ?_
        refine fg_ixor (fg_ft (pc := 99) tb_Town_forgetWhole 53 rfl) ?_
        refine fg_iandD (fg_ft (pc := 100) tb_Town_forgetWhole 54 rfl) ?_
        exact fg_iret (fg_ft (pc := 101) tb_Town_forgetWhole 55 rfl) rfl rfl (by rw [show fg_wg T mind fact = g2 from fg_wg_of ⟨hR.2.1, by rw [c84]; exact hR.2.2.2.2 c84, hR.2.2.2.1⟩] at hQ; exact hQ)
  refine fg_intro (by decide +kernel) (Nat.le_of_ble_eq_true rfl) (fg_okAs rfl) (Nat.le_refl _) ?_
  refine fg_iconst (fg_ft (pc := 0) tb_Town_forgetWhole 0 rfl) ic_1 ?_
  refine fg_iloadn (fg_ft (pc := 1) tb_Town_forgetWhole 1 rfl) rfl ?_
  refine fg_ishl1 (fg_ft (pc := 2) tb_Town_forgetWhole 2 rfl) (by omega) ?_
  refine fg_istoren (fg_ft (pc := 3) tb_Town_forgetWhole 3 rfl) (Nat.le_of_ble_eq_true rfl) ?_
  refine fg_iconst (fg_ft (pc := 4) tb_Town_forgetWhole 4 rfl) ic_0 ?_
  refine fg_istore (fg_ft (pc := 5) tb_Town_forgetWhole 5 rfl) (Nat.le_of_ble_eq_true rfl) ?_
  exact outer 11 0 (2 ^ fact) (by omega) (by omega) (Nat.pow_lt_pow_right (by decide) hf) Nat.testBit_two_pow_self (fun g' h _ => fg_bit_le.mpr h) (by have := fg_pc_bit (s := 2 ^ fact) (f := fact) (Nat.pow_lt_pow_right (by decide) (by omega)) Nat.testBit_two_pow_self; omega) _ _ _
def fg_lfr (T : Nat → Nat) (mind left : Nat) : Nat → Nat
  | 0 => 0
  | n + 1 => if fg_lfr T mind left n = 0 then (if (fg_df mind left).testBit (T (8 + 2 * n)) = true ∧ fg_df (T (9 + 2 * n)) left = 0 then T (9 + 2 * n) else 0) else fg_lfr T mind left n
theorem fg_lfr_lt {T : Nat → Nat} (hok : fg_ok T) {mind left : Nat} : ∀ n, n ≤ T 1 → fg_lfr T mind left n < 2 ^ T 0 := by
  intro n
  induction n with
  | zero => intro _; exact Nat.two_pow_pos _
  | succ n ih =>
    intro h
    have h1 := ih (by omega)
    simp only [fg_lfr]
    split
    · split
      · exact (hok.2.2.1 n (by omega)).2.1
      · exact Nat.two_pow_pos _
    · exact h1
theorem fg_lfr_keep {T : Nat → Nat} {mind left : Nat} : ∀ n k, fg_lfr T mind left k ≠ 0 → fg_lfr T mind left (k + n) = fg_lfr T mind left k := by
  intro n
  induction n with
  | zero => intro k _; rfl
  | succ n ih =>
    intro k h
    show fg_lfr T mind left (k + n + 1) = _
    simp only [fg_lfr]
    rw [ih k h, if_neg h]
/-- the latest goes -/
def fg_ls (T : Nat → Nat) (mind left : Nat) : Nat := fg_df left (fg_tp (fg_lfr T mind left (T 1)) 10)
def fg_lsn (T : Nat → Nat) (mind : Nat) : Nat → Nat → Nat
  | 0, l => l
  | n + 1, l => fg_lsn T mind n (fg_ls T mind l)
def fg_fl (T : Nat → Nat) (mind fact : Nat) : Nat := fg_lsn T mind 10 (fg_df mind (2 ^ fact))
theorem fg_ls_lt {T : Nat → Nat} {mind left n : Nat} (h : left < 2 ^ n) : fg_ls T mind left < 2 ^ n := fg_df_lt h
theorem fg_lsn_succ (T : Nat → Nat) (mind : Nat) : ∀ n l, fg_lsn T mind (n + 1) l = fg_ls T mind (fg_lsn T mind n l) := by
  intro n
  induction n with
  | zero => intro l; rfl
  | succ n ih => intro l; exact ih (fg_ls T mind l)
theorem fg_lsn_lt {T : Nat → Nat} {mind w : Nat} : ∀ n l, l < 2 ^ w → fg_lsn T mind n l < 2 ^ w := by
  intro n
  induction n with
  | zero => intro l h; exact h
  | succ n ih => intro l h; exact ih _ (fg_ls_lt h)
theorem ev_Town_forgetLate {E : fg_E} {d : Nat} {μ : Nat → Nat → Int32} {R : fg_T4} {Q : Option Value → fg_M → Prop} {t : Nat} {T : Nat → Nat} (ht : fg_isT t) (hT : fg_TW μ t T) (hok : fg_ok T) {mind fact : Nat} (hm : mind < 2 ^ T 0) (hf : fact < T 0) (hQ : Q (some (.int (nI (fg_fl T mind fact)))) (μ, fg_rho R, 304)) : fg_Ev E yy_Town_forgetLate (d + 2) [.ref t, .int (nI mind), .int (nI fact)] (μ, fg_rho R, 304) 304 Q := by
  have hb0 := hok.1
  have hb1 := hok.2.1
  have hp := hok.p
  have hq := Nat.two_pow_pos (T 0)
  have inner : ∀ (rd left : Nat), rd < 10 → left < 2 ^ T 0 → (∀ (k : Nat) (v7 : Value) (fr : Nat), fr = fg_lfr T mind left (T 1) → fg_wp E yy_Town_forgetLate (d + 2) 304 304 Q 105 [.ref t, .int (nI mind), .int (nI fact), .int (nI left), .int (nI rd), .int (nI fr), .int (nI k), v7] [] (μ, fg_rho R, 304)) → ∀ (n k fr : Nat), T 1 - k < n → k ≤ T 1 → fr = fg_lfr T mind left k → ∀ v7 : Value, fg_wp E yy_Town_forgetLate (d + 2) 304 304 Q 24 [.ref t, .int (nI mind), .int (nI fact), .int (nI left), .int (nI rd), .int (nI fr), .int (nI k), v7] [] (μ, fg_rho R, 304) := by
    intro rd left hrd hlF hend n
    induction n with
    | zero => intro k fr h; exact absurd h (Nat.not_lt_zero _)
    | succ n ih =>
      intro k fr hn hk hfr v7
      have hfF : fr < 2 ^ T 0 := by rw [hfr]; exact fg_lfr_lt hok k hk
      refine fg_iload (fg_ft (pc := 24) tb_Town_forgetLate 17 rfl) rfl ?_
      refine fg_aloadn (fg_ft (pc := 26) tb_Town_forgetLate 18 rfl) rfl ?_
      refine fg_getR (fg_ft (pc := 27) tb_Town_forgetLate 19 rfl) ff_Town_23 (tT_lay ht) rfl (fg_lt (tT_lay ht) (by decide)) (tT_r2 ht) ?_
      refine fg_getV (v := (nI (T 1))) (fg_ft (pc := 30) tb_Town_forgetLate 20 rfl) ff_Town_46 ((tT_w2 (R := R) ht).1) rfl (fg_lt ((tT_w2 (R := R) ht).1) (by decide)) hT.2.1.2.1 ?_
      refine fg_icmp_geN (tgt := 105) (fg_ft (pc := 33) tb_Town_forgetLate 21 rfl) (by decide) (by omega) (by omega) (fun c33 => ?_) (fun c33 => ?_)
      · refine hend k _ fr ?_
        by_cases h9 : k < T 1
        · first
            | (exfalso; omega)
            | (rw [hfr] at c38 ⊢; have h8 := fg_lfr_keep (T := T) (mind := mind) (left := left) (T 1 - k) k c38; rw [show k + (T 1 - k) = T 1 by omega] at h8; exact h8.symm)
        · rw [hfr, show k = T 1 by omega]
      · refine fg_iload (fg_ft (pc := 36) tb_Town_forgetLate 22 rfl) rfl ?_
        refine fg_if_neN (tgt := 105) (fg_ft (pc := 38) tb_Town_forgetLate 23 rfl) (by decide) (by omega) (fun c38 => ?_) (fun c38 => ?_)
        · refine hend k _ fr ?_
          by_cases h9 : k < T 1
          · first
              | (exfalso; omega)
              | (rw [hfr] at c38 ⊢; have h8 := fg_lfr_keep (T := T) (mind := mind) (left := left) (T 1 - k) k c38; rw [show k + (T 1 - k) = T 1 by omega] at h8; exact h8.symm)
          · rw [hfr, show k = T 1 by omega]
        · refine fg_iloadn (fg_ft (pc := 41) tb_Town_forgetLate 24 rfl) rfl ?_
          refine fg_iloadn (fg_ft (pc := 42) tb_Town_forgetLate 25 rfl) rfl ?_
          refine fg_iconst (fg_ft (pc := 43) tb_Town_forgetLate 26 rfl) ic_m1 ?_
          refine fg_ixor (fg_ft (pc := 44) tb_Town_forgetLate 27 rfl) ?_
          refine fg_iandD (fg_ft (pc := 45) tb_Town_forgetLate 28 rfl) ?_
          refine fg_aloadn (fg_ft (pc := 46) tb_Town_forgetLate 29 rfl) rfl ?_
          refine fg_getR (fg_ft (pc := 47) tb_Town_forgetLate 30 rfl) ff_Town_23 (tT_lay ht) rfl (fg_lt (tT_lay ht) (by decide)) (tT_r2 ht) ?_
          refine fg_iload (fg_ft (pc := 50) tb_Town_forgetLate 31 rfl) rfl ?_
          refine fg_iconst (fg_ft (pc := 52) tb_Town_forgetLate 32 rfl) ic_0 ?_
          refine fg_callV (fg_ft (pc := 53) tb_Town_forgetLate 33 rfl) cf_Town_63 (fg_isOf ((tT_w2 (R := R) ht).1) rfl (fg_lt ((tT_w2 (R := R) ht).1) (by decide))) (as := [.int (nI k), .int (nI 0)]) (st := [.int (nI (fg_df mind left))]) rfl rfl (Nat.le_of_ble_eq_true rfl) (Nat.le_refl _) (Nat.le_refl _) (ev_Rows_cell (tT_w2 (R := R) ht) hT.2.1.1 hT.2.1.2.1 (by have := hok.2.1; omega) (by decide) (by have := hok.2.1; omega) (i := k) (j := 0) (by omega) (by decide) (hT.rule0 (by omega)) ?_)
          refine fg_callSN (fg_ft (pc := 56) tb_Town_forgetLate 34 rfl) cf_Town_76 (as := [.int (nI (fg_df mind left)), .int (nI (T (8 + 2 * k)))]) (st := []) rfl rfl (Nat.le_of_ble_eq_true rfl) (Nat.le_refl _) (Nat.le_refl _) (ev_Fb_isIn (s := (fg_df mind left)) (k := (T (8 + 2 * k))) (fg_df_le31 (by omega)) (by have := (hok.2.2.1 k (by omega)).1; omega) ?_)
          refine fg_istore (fg_ft (pc := 59) tb_Town_forgetLate 35 rfl) (Nat.le_of_ble_eq_true rfl) ?_
          refine fg_iload (fg_ft (pc := 61) tb_Town_forgetLate 36 rfl) rfl ?_
          refine fg_ifB_eq (tgt := 96) (fg_ft (pc := 63) tb_Town_forgetLate 37 rfl) (by decide) (fun c63 => ?_) (fun c63 => ?_)
          · refine fg_iconst (fg_ft (pc := 96) tb_Town_forgetLate 54 rfl) ic_0 ?_
            refine fg_istore (fg_ft (pc := 97) tb_Town_forgetLate 55 rfl) (Nat.le_of_ble_eq_true rfl) ?_
            refine fg_iincN (fg_ft (pc := 99) tb_Town_forgetLate 56 rfl) rfl ic_1 rfl ?_
            refine fg_goto (tgt := 24) (fg_ft (pc := 102) tb_Town_forgetLate 57 rfl) (by decide) ?_
            exact ih (k + 1) 0 (by omega) (by omega) (by simp only [fg_lfr]; rw [if_pos (by rw [← hfr]; exact c38), if_neg (fun h => by first | exact c63 h.1 | exact c80 h.2)]) _
          · refine fg_aloadn (fg_ft (pc := 66) tb_Town_forgetLate 38 rfl) rfl ?_
            refine fg_getR (fg_ft (pc := 67) tb_Town_forgetLate 39 rfl) ff_Town_23 (tT_lay ht) rfl (fg_lt (tT_lay ht) (by decide)) (tT_r2 ht) ?_
            refine fg_iload (fg_ft (pc := 70) tb_Town_forgetLate 40 rfl) rfl ?_
            refine fg_iconst (fg_ft (pc := 72) tb_Town_forgetLate 41 rfl) ic_1 ?_
            refine fg_callV (fg_ft (pc := 73) tb_Town_forgetLate 42 rfl) cf_Town_63 (fg_isOf ((tT_w2 (R := R) ht).1) rfl (fg_lt ((tT_w2 (R := R) ht).1) (by decide))) (as := [.int (nI k), .int (nI 1)]) (st := []) rfl rfl (Nat.le_of_ble_eq_true rfl) (Nat.le_refl _) (Nat.le_refl _) (ev_Rows_cell (tT_w2 (R := R) ht) hT.2.1.1 hT.2.1.2.1 (by have := hok.2.1; omega) (by decide) (by have := hok.2.1; omega) (i := k) (j := 1) (by omega) (by decide) (hT.rule1 (by omega)) ?_)
            refine fg_iloadn (fg_ft (pc := 76) tb_Town_forgetLate 43 rfl) rfl ?_
            refine fg_iconst (fg_ft (pc := 77) tb_Town_forgetLate 44 rfl) ic_m1 ?_
            refine fg_ixor (fg_ft (pc := 78) tb_Town_forgetLate 45 rfl) ?_
            refine fg_iandD (fg_ft (pc := 79) tb_Town_forgetLate 46 rfl) ?_
            refine fg_if_neN (tgt := 96) (fg_ft (pc := 80) tb_Town_forgetLate 47 rfl) (by decide) (fg_df_le31 (by have := (hok.2.2.1 k (by omega)).2.1; omega)) (fun c80 => ?_) (fun c80 => ?_)
            · refine fg_iconst (fg_ft (pc := 96) tb_Town_forgetLate 54 rfl) ic_0 ?_
              refine fg_istore (fg_ft (pc := 97) tb_Town_forgetLate 55 rfl) (Nat.le_of_ble_eq_true rfl) ?_
              refine fg_iincN (fg_ft (pc := 99) tb_Town_forgetLate 56 rfl) rfl ic_1 rfl ?_
              refine fg_goto (tgt := 24) (fg_ft (pc := 102) tb_Town_forgetLate 57 rfl) (by decide) ?_
              exact ih (k + 1) 0 (by omega) (by omega) (by simp only [fg_lfr]; rw [if_pos (by rw [← hfr]; exact c38), if_neg (fun h => by first | exact c63 h.1 | exact c80 h.2)]) _
            · refine fg_aloadn (fg_ft (pc := 83) tb_Town_forgetLate 48 rfl) rfl ?_
              refine fg_getR (fg_ft (pc := 84) tb_Town_forgetLate 49 rfl) ff_Town_23 (tT_lay ht) rfl (fg_lt (tT_lay ht) (by decide)) (tT_r2 ht) ?_
              refine fg_iload (fg_ft (pc := 87) tb_Town_forgetLate 50 rfl) rfl ?_
              refine fg_iconst (fg_ft (pc := 89) tb_Town_forgetLate 51 rfl) ic_1 ?_
              refine fg_callV (fg_ft (pc := 90) tb_Town_forgetLate 52 rfl) cf_Town_63 (fg_isOf ((tT_w2 (R := R) ht).1) rfl (fg_lt ((tT_w2 (R := R) ht).1) (by decide))) (as := [.int (nI k), .int (nI 1)]) (st := []) rfl rfl (Nat.le_of_ble_eq_true rfl) (Nat.le_refl _) (Nat.le_refl _) (ev_Rows_cell (tT_w2 (R := R) ht) hT.2.1.1 hT.2.1.2.1 (by have := hok.2.1; omega) (by decide) (by have := hok.2.1; omega) (i := k) (j := 1) (by omega) (by decide) (hT.rule1 (by omega)) ?_)
              refine fg_goto (tgt := 97) (fg_ft (pc := 93) tb_Town_forgetLate 53 rfl) (by decide) ?_
              refine fg_istore (fg_ft (pc := 97) tb_Town_forgetLate 55 rfl) (Nat.le_of_ble_eq_true rfl) ?_
              refine fg_iincN (fg_ft (pc := 99) tb_Town_forgetLate 56 rfl) rfl ic_1 rfl ?_
              refine fg_goto (tgt := 24) (fg_ft (pc := 102) tb_Town_forgetLate 57 rfl) (by decide) ?_
              exact ih (k + 1) _ (by omega) (by omega) (by simp only [fg_lfr]; rw [if_pos (by rw [← hfr]; exact c38), if_pos ⟨c63, c80⟩]) _
  have outer : ∀ (n rd left : Nat), 10 - rd < n → rd ≤ 10 → left < 2 ^ T 0 → left = fg_lsn T mind rd (fg_df mind (2 ^ fact)) → ∀ v5 v6 v7 : Value, fg_wp E yy_Town_forgetLate (d + 2) 304 304 Q 11 [.ref t, .int (nI mind), .int (nI fact), .int (nI left), .int (nI rd), v5, v6, v7] [] (μ, fg_rho R, 304) := by
    intro n
    induction n with
    | zero => intro rd left h; exact absurd h (Nat.not_lt_zero _)
    | succ n ih =>
      intro rd left hn hrd hlF hl v5 v6 v7
      refine fg_iload (fg_ft (pc := 11) tb_Town_forgetLate 10 rfl) rfl ?_
      refine fg_bipush (fg_ft (pc := 13) tb_Town_forgetLate 11 rfl) ib_10 ?_
      refine fg_icmp_geN (tgt := 121) (fg_ft (pc := 15) tb_Town_forgetLate 12 rfl) (by decide) (by omega) (by decide) (fun c15 => ?_) (fun c15 => ?_)
      · refine fg_iloadn (fg_ft (pc := 121) tb_Town_forgetLate 67 rfl) rfl ?_
        exact fg_iret (fg_ft (pc := 122) tb_Town_forgetLate 68 rfl) rfl rfl (by rw [show fg_fl T mind fact = left by rw [hl, show rd = 10 by omega]; rfl] at hQ; exact hQ)
      · refine fg_iconst (fg_ft (pc := 18) tb_Town_forgetLate 13 rfl) ic_0 ?_
        refine fg_istore (fg_ft (pc := 19) tb_Town_forgetLate 14 rfl) (Nat.le_of_ble_eq_true rfl) ?_
        refine fg_iconst (fg_ft (pc := 21) tb_Town_forgetLate 15 rfl) ic_0 ?_
        refine fg_istore (fg_ft (pc := 22) tb_Town_forgetLate 16 rfl) (Nat.le_of_ble_eq_true rfl) ?_
        refine inner rd left (by omega) hlF (fun k w7 fr hfr => ?_) (T 1 + 1) 0 0 (by omega) (by omega) rfl _
        have hfF : fr < 2 ^ T 0 := by rw [hfr]; exact fg_lfr_lt hok _ (Nat.le_refl _)
        refine fg_iloadn (fg_ft (pc := 105) tb_Town_forgetLate 58 rfl) rfl ?_
        refine fg_iload (fg_ft (pc := 106) tb_Town_forgetLate 59 rfl) rfl ?_
        refine fg_callS (fg_ft (pc := 108) tb_Town_forgetLate 60 rfl) cf_Town_90 (as := [.int (nI fr)]) (st := [.int (nI left)]) rfl rfl (Nat.le_of_ble_eq_true rfl) (Nat.le_refl _) (Nat.le_refl _) (ev_Town_greatestOf (s := fr) (by omega) ?_)
        refine fg_iconst (fg_ft (pc := 111) tb_Town_forgetLate 61 rfl) ic_m1 ?_
        refine fg_ixor (fg_ft (pc := 112) tb_Town_forgetLate 62 rfl) ?_
        refine fg_iandD (fg_ft (pc := 113) tb_Town_forgetLate 63 rfl) ?_
        refine fg_istoren (fg_ft (pc := 114) tb_Town_forgetLate 64 rfl) (Nat.le_of_ble_eq_true rfl) ?_
        refine fg_iincN (fg_ft (pc := 115) tb_Town_forgetLate 65 rfl) rfl ic_1 rfl ?_
        refine fg_goto (tgt := 11) (fg_ft (pc := 118) tb_Town_forgetLate 66 rfl) (by decide) ?_
        exact ih (rd + 1) _ (by omega) (by omega) (fg_df_lt hlF) (by rw [fg_lsn_succ, ← hl, hfr]; rfl) _ _ _
  refine fg_intro (by decide +kernel) (Nat.le_of_ble_eq_true rfl) (fg_okAs rfl) (Nat.le_refl _) ?_
  refine fg_iloadn (fg_ft (pc := 0) tb_Town_forgetLate 0 rfl) rfl ?_
  refine fg_iconst (fg_ft (pc := 1) tb_Town_forgetLate 1 rfl) ic_1 ?_
  refine fg_iloadn (fg_ft (pc := 2) tb_Town_forgetLate 2 rfl) rfl ?_
  refine fg_ishl1 (fg_ft (pc := 3) tb_Town_forgetLate 3 rfl) (by omega) ?_
  refine fg_iconst (fg_ft (pc := 4) tb_Town_forgetLate 4 rfl) ic_m1 ?_
  refine fg_ixor (fg_ft (pc := 5) tb_Town_forgetLate 5 rfl) ?_
  refine fg_iandD (fg_ft (pc := 6) tb_Town_forgetLate 6 rfl) ?_
  refine fg_istoren (fg_ft (pc := 7) tb_Town_forgetLate 7 rfl) (Nat.le_of_ble_eq_true rfl) ?_
  refine fg_iconst (fg_ft (pc := 8) tb_Town_forgetLate 8 rfl) ic_0 ?_
  refine fg_istore (fg_ft (pc := 9) tb_Town_forgetLate 9 rfl) (Nat.le_of_ble_eq_true rfl) ?_
  exact outer 11 0 _ (by omega) (by omega) (fg_df_lt hm) rfl _ _ _
