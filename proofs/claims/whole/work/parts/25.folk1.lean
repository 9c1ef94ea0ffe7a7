/-! the people of the class: Z = (minds, news, busy hours, loud meetings), o = (who stays in, in which hours, which meetings are not) -/
abbrev fg_Z : Type := (Nat → Nat) × Nat × Nat × Nat
def fg_isF (f : Nat) : Prop := f = 273 ∨ f = 277
def fg_FZ (μ : Nat → Nat → Int32) (f : Nat) (T : Nat → Nat) (h : Nat) (Z : fg_Z) (hv lv : Nat → Nat) (o : Option Nat × Nat × Nat) : Prop :=
  μ f 1 = nI (T 2) ∧ μ f 2 = nI h ∧ (∀ p, p < T 2 → μ (f + 1) p = nI (Z.1 p)) ∧ (∀ p, p < T 2 → μ (f + 2) p = nI (hv p)) ∧ (∀ p, p < T 2 → μ (f + 3) p = nI (lv p)) ∧
  (μ f 6 = fg_o o.1 ∧ μ f 7 = nI o.2.1 ∧ μ f 8 = nI o.2.2) ∧ (μ f 9 = nI Z.2.1 ∧ μ f 10 = nI Z.2.2.1 ∧ μ f 11 = nI Z.2.2.2)
def fg_zok (T : Nat → Nat) (h : Nat) (Z : fg_Z) (hv : Nat → Nat) : Prop := h ≤ 9 ∧ (∀ p, p < T 2 → Z.1 p < 2 ^ T 0 ∧ fg_clsd T (Z.1 p)) ∧ ∀ p, p < T 2 → hv p < 2 ^ T 0
def fg_agF (f : Nat) (μ μ' : Nat → Nat → Int32) : Prop := ∀ a, (a < f ∨ f + 4 ≤ a) → ∀ j, μ' a j = μ a j
theorem fg_agF_rf (f : Nat) (μ : Nat → Nat → Int32) : fg_agF f μ μ := fun _ _ _ => rfl
theorem fg_agF_tr {f : Nat} {μ μ' μ'' : Nat → Nat → Int32} (h1 : fg_agF f μ μ') (h2 : fg_agF f μ' μ'') : fg_agF f μ μ'' := fun a ha j => (h2 a ha j).trans (h1 a ha j)
theorem fF_b {f : Nat} (h : fg_isF f) : 273 ≤ f ∧ f ≤ 277 := by rcases h with rfl | rfl <;> decide
theorem fF_lay {f : Nat} (h : fg_isF f) : fg_lay f = (0, 12) := by rcases h with rfl | rfl; exact ly_273; exact ly_277
theorem fF_l1 {f : Nat} (h : fg_isF f) : fg_lay (f + 1) = (10, 5) := by rcases h with rfl | rfl; exact ly_274; exact ly_278
theorem fF_l2 {f : Nat} (h : fg_isF f) : fg_lay (f + 2) = (10, 5) := by rcases h with rfl | rfl; exact ly_275; exact ly_279
theorem fF_l3 {f : Nat} (h : fg_isF f) : fg_lay (f + 3) = (10, 5) := by rcases h with rfl | rfl; exact ly_276; exact ly_280
theorem fF_r1 {f : Nat} {R : fg_T4} (h : fg_isF f) : fg_rho R f 3 = some (f + 1) := by rcases h with rfl | rfl <;> rfl
theorem fF_r2 {f : Nat} {R : fg_T4} (h : fg_isF f) : fg_rho R f 4 = some (f + 2) := by rcases h with rfl | rfl <;> rfl
theorem fF_r3 {f : Nat} {R : fg_T4} (h : fg_isF f) : fg_rho R f 5 = some (f + 3) := by rcases h with rfl | rfl <;> rfl
theorem fg_TWp.agF {μ μ' : Nat → Nat → Int32} {t f : Nat} {T : Nat → Nat} (ht : fg_isT t) (hf : fg_isF f) (h : fg_TW μ t T) (ha : fg_agF f μ μ') : fg_TW μ' t T := fg_TWp.lo ht h (fun a h1 j => ha a (Or.inl (by have := fF_b hf; omega)) j)
theorem ev_Folk_isThere {E : fg_E} {d : Nat} {μ : Nat → Nat → Int32} {R : fg_T4} {Q : Option Value → fg_M → Prop} {t : Nat} {T : Nat → Nat} (ht : fg_isT t) (hT : fg_TW μ t T) (hok : fg_ok T) {f h : Nat} {Z : fg_Z} {hv lv : Nat → Nat} {o : Option Nat × Nat × Nat} (hf : fg_isF f) (hft : fg_rho R f 0 = some t) (hF : fg_FZ μ f T h Z hv lv o) (hz : fg_zok T h Z hv) {p : Nat} (hp31 : p < 2 ^ 31) (hQ : Q (some (.int (fg_bI (p < T 2)))) (μ, fg_rho R, 304)) : fg_Ev E yy_Folk_isThere (d + 1) [.ref f, .int (nI p)] (μ, fg_rho R, 304) 304 Q := by
  have hb0 := hok.1
  have hb1 := hok.2.1
  have hp := hok.p
  have hq := Nat.two_pow_pos (T 0)
  have hfb := fF_b hf
  have hz9 := hz.1
  refine fg_intro (by decide +kernel) (Nat.le_of_ble_eq_true rfl) (fg_okAs rfl) (Nat.le_refl _) ?_
  refine fg_aloadn (fg_ft (pc := 0) tb_Folk_isThere 0 rfl) rfl ?_
  refine fg_getR (fg_ft (pc := 1) tb_Folk_isThere 1 rfl) ff_Folk_9 (fF_lay hf) rfl (fg_lt (fF_lay hf) (by decide)) hft ?_
  refine fg_ifnull_r (fg_ft (pc := 4) tb_Folk_isThere 2 rfl) ?_
  refine fg_iloadn (fg_ft (pc := 7) tb_Folk_isThere 3 rfl) rfl ?_
  refine fg_if_ltN (tgt := 28) (fg_ft (pc := 8) tb_Folk_isThere 4 rfl) (by decide) (hp31) ?_
  refine fg_iloadn (fg_ft (pc := 11) tb_Folk_isThere 5 rfl) rfl ?_
  refine fg_aloadn (fg_ft (pc := 12) tb_Folk_isThere 6 rfl) rfl ?_
  refine fg_getV (v := (nI (T 2))) (fg_ft (pc := 13) tb_Folk_isThere 7 rfl) ff_Folk_46 (fF_lay hf) rfl (fg_lt (fF_lay hf) (by decide)) hF.1 ?_
  refine fg_icmp_geN (tgt := 28) (fg_ft (pc := 16) tb_Folk_isThere 8 rfl) (by decide) (hp31) (by omega) (fun c16 => ?_) (fun c16 => ?_)
  · refine fg_iconst (fg_ft (pc := 28) tb_Folk_isThere 14 rfl) ic_0 ?_
    exact fg_zret (fg_ft (pc := 29) tb_Folk_isThere 15 rfl) rfl (by decide) rfl (by rw [fg_bF (by omega)] at hQ; exact hQ)
  · refine fg_iloadn (fg_ft (pc := 19) tb_Folk_isThere 9 rfl) rfl ?_
    refine fg_iconst (fg_ft (pc := 20) tb_Folk_isThere 10 rfl) ic_5 ?_
    refine fg_icmp_geN (tgt := 28) (fg_ft (pc := 21) tb_Folk_isThere 11 rfl) (by decide) (hp31) (by decide) (fun c21 => ?_) (fun c21 => ?_)
    · refine fg_iconst (fg_ft (pc := 28) tb_Folk_isThere 14 rfl) ic_0 ?_
      exact fg_zret (fg_ft (pc := 29) tb_Folk_isThere 15 rfl) rfl (by decide) rfl (by rw [fg_bF (by omega)] at hQ; exact hQ)
    · refine fg_iconst (fg_ft (pc := 24) tb_Folk_isThere 12 rfl) ic_1 ?_
      refine fg_goto (tgt := 29) (fg_ft (pc := 25) tb_Folk_isThere 13 rfl) (by decide) ?_
      exact fg_zret (fg_ft (pc := 29) tb_Folk_isThere 15 rfl) rfl (by decide) rfl (by rw [fg_bT (by omega)] at hQ; exact hQ)
theorem ev_Folk_isThereNeg {E : fg_E} {d : Nat} {μ : Nat → Nat → Int32} {R : fg_T4} {Q : Option Value → fg_M → Prop} {t : Nat} {T : Nat → Nat} (ht : fg_isT t) (hT : fg_TW μ t T) (hok : fg_ok T) {f h : Nat} {Z : fg_Z} {hv lv : Nat → Nat} {o : Option Nat × Nat × Nat} (hf : fg_isF f) (hft : fg_rho R f 0 = some t) (hF : fg_FZ μ f T h Z hv lv o) (hz : fg_zok T h Z hv) (hQ : Q (some (.int (nI 0))) (μ, fg_rho R, 304)) : fg_Ev E yy_Folk_isThere (d + 1) [.ref f, .int (-1)] (μ, fg_rho R, 304) 304 Q := by
  have hb0 := hok.1
  have hb1 := hok.2.1
  have hp := hok.p
  have hq := Nat.two_pow_pos (T 0)
  have hfb := fF_b hf
  have hz9 := hz.1
  refine fg_intro (by decide +kernel) (Nat.le_of_ble_eq_true rfl) (fg_okAs rfl) (Nat.le_refl _) ?_
  refine fg_aloadn (fg_ft (pc := 0) tb_Folk_isThere 0 rfl) rfl ?_
  refine fg_getR (fg_ft (pc := 1) tb_Folk_isThere 1 rfl) ff_Folk_9 (fF_lay hf) rfl (fg_lt (fF_lay hf) (by decide)) hft ?_
  refine fg_ifnull_r (fg_ft (pc := 4) tb_Folk_isThere 2 rfl) ?_
  refine fg_iloadn (fg_ft (pc := 7) tb_Folk_isThere 3 rfl) rfl ?_
  refine fg_if_lt (tgt := 28) (fg_ft (pc := 8) tb_Folk_isThere 4 rfl) (by decide) (fun c8 => ?_) (fun c8 => (absurd (by decide) c8))
  refine fg_iconst (fg_ft (pc := 28) tb_Folk_isThere 14 rfl) ic_0 ?_
  exact fg_zret (fg_ft (pc := 29) tb_Folk_isThere 15 rfl) rfl (by decide) rfl (hQ)
theorem ev_Folk_mind {E : fg_E} {d : Nat} {μ : Nat → Nat → Int32} {R : fg_T4} {Q : Option Value → fg_M → Prop} {t : Nat} {T : Nat → Nat} (ht : fg_isT t) (hT : fg_TW μ t T) (hok : fg_ok T) {f h : Nat} {Z : fg_Z} {hv lv : Nat → Nat} {o : Option Nat × Nat × Nat} (hf : fg_isF f) (hft : fg_rho R f 0 = some t) (hF : fg_FZ μ f T h Z hv lv o) (hz : fg_zok T h Z hv) {p : Nat} (hpT : p < T 2) (hQ : Q (some (.int (nI (Z.1 p)))) (μ, fg_rho R, 304)) : fg_Ev E yy_Folk_mind (d + 2) [.ref f, .int (nI p)] (μ, fg_rho R, 304) 304 Q := by
  have hb0 := hok.1
  have hb1 := hok.2.1
  have hp := hok.p
  have hq := Nat.two_pow_pos (T 0)
  have hfb := fF_b hf
  have hz9 := hz.1
  refine fg_intro (by decide +kernel) (Nat.le_of_ble_eq_true rfl) (fg_okAs rfl) (Nat.le_refl _) ?_
  refine fg_aloadn (fg_ft (pc := 0) tb_Folk_mind 0 rfl) rfl ?_
  refine fg_iloadn (fg_ft (pc := 1) tb_Folk_mind 1 rfl) rfl ?_
  refine fg_callV (fg_ft (pc := 2) tb_Folk_mind 2 rfl) cf_Folk_80 (fg_isOf (fF_lay hf) rfl (fg_lt (fF_lay hf) (by decide))) (as := [.int (nI p)]) (st := []) rfl rfl (Nat.le_of_ble_eq_true rfl) (Nat.le_refl _) (Nat.le_refl _) (ev_Folk_isThere ht hT hok hf hft hF hz (p := p) (by omega) ?_)
  refine fg_ifB_eq (tgt := 17) (fg_ft (pc := 5) tb_Folk_mind 3 rfl) (by decide) (fun c5 => (absurd hpT c5)) (fun c5 => ?_)
  refine fg_aloadn (fg_ft (pc := 8) tb_Folk_mind 4 rfl) rfl ?_
  refine fg_getR (fg_ft (pc := 9) tb_Folk_mind 5 rfl) ff_Folk_15 (fF_lay hf) rfl (fg_lt (fF_lay hf) (by decide)) (fF_r1 hf) ?_
  refine fg_iloadn (fg_ft (pc := 12) tb_Folk_mind 6 rfl) rfl ?_
  refine fg_ialdV (v := (nI (Z.1 p))) (fg_ft (pc := 13) tb_Folk_mind 7 rfl) (fF_l1 hf) (fg_lt (fF_l1 hf) (by decide)) (by omega) (hF.2.2.1 _ (by omega)) ?_
  refine fg_goto (tgt := 18) (fg_ft (pc := 14) tb_Folk_mind 8 rfl) (by decide) ?_
  exact fg_iret (fg_ft (pc := 18) tb_Folk_mind 10 rfl) rfl rfl (hQ)
theorem ev_Folk_half {E : fg_E} {d : Nat} {μ : Nat → Nat → Int32} {R : fg_T4} {Q : Option Value → fg_M → Prop} {t : Nat} {T : Nat → Nat} (ht : fg_isT t) (hT : fg_TW μ t T) (hok : fg_ok T) {f h : Nat} {Z : fg_Z} {hv lv : Nat → Nat} {o : Option Nat × Nat × Nat} (hf : fg_isF f) (hft : fg_rho R f 0 = some t) (hF : fg_FZ μ f T h Z hv lv o) (hz : fg_zok T h Z hv) {p : Nat} (hpT : p < T 2) (hQ : Q (some (.int (nI (hv p)))) (μ, fg_rho R, 304)) : fg_Ev E yy_Folk_half (d + 2) [.ref f, .int (nI p)] (μ, fg_rho R, 304) 304 Q := by
  have hb0 := hok.1
  have hb1 := hok.2.1
  have hp := hok.p
  have hq := Nat.two_pow_pos (T 0)
  have hfb := fF_b hf
  have hz9 := hz.1
  refine fg_intro (by decide +kernel) (Nat.le_of_ble_eq_true rfl) (fg_okAs rfl) (Nat.le_refl _) ?_
  refine fg_aloadn (fg_ft (pc := 0) tb_Folk_half 0 rfl) rfl ?_
  refine fg_iloadn (fg_ft (pc := 1) tb_Folk_half 1 rfl) rfl ?_
  refine fg_callV (fg_ft (pc := 2) tb_Folk_half 2 rfl) cf_Folk_80 (fg_isOf (fF_lay hf) rfl (fg_lt (fF_lay hf) (by decide))) (as := [.int (nI p)]) (st := []) rfl rfl (Nat.le_of_ble_eq_true rfl) (Nat.le_refl _) (Nat.le_refl _) (ev_Folk_isThere ht hT hok hf hft hF hz (p := p) (by omega) ?_)
  refine fg_ifB_eq (tgt := 17) (fg_ft (pc := 5) tb_Folk_half 3 rfl) (by decide) (fun c5 => (absurd hpT c5)) (fun c5 => ?_)
  refine fg_aloadn (fg_ft (pc := 8) tb_Folk_half 4 rfl) rfl ?_
  refine fg_getR (fg_ft (pc := 9) tb_Folk_half 5 rfl) ff_Folk_19 (fF_lay hf) rfl (fg_lt (fF_lay hf) (by decide)) (fF_r2 hf) ?_
  refine fg_iloadn (fg_ft (pc := 12) tb_Folk_half 6 rfl) rfl ?_
  refine fg_ialdV (v := (nI (hv p))) (fg_ft (pc := 13) tb_Folk_half 7 rfl) (fF_l2 hf) (fg_lt (fF_l2 hf) (by decide)) (by omega) (hF.2.2.2.1 _ (by omega)) ?_
  refine fg_goto (tgt := 18) (fg_ft (pc := 14) tb_Folk_half 8 rfl) (by decide) ?_
  exact fg_iret (fg_ft (pc := 18) tb_Folk_half 10 rfl) rfl rfl (hQ)
theorem ev_Folk_mindOut {E : fg_E} {d : Nat} {μ : Nat → Nat → Int32} {R : fg_T4} {Q : Option Value → fg_M → Prop} {t : Nat} {T : Nat → Nat} (ht : fg_isT t) (hT : fg_TW μ t T) (hok : fg_ok T) {f h : Nat} {Z : fg_Z} {hv lv : Nat → Nat} {o : Option Nat × Nat × Nat} (hf : fg_isF f) (hft : fg_rho R f 0 = some t) (hF : fg_FZ μ f T h Z hv lv o) (hz : fg_zok T h Z hv) {p : Nat} (hp31 : p < 2 ^ 31) (hpT : ¬ p < T 2) (hQ : Q (some (.int (nI 0))) (μ, fg_rho R, 304)) : fg_Ev E yy_Folk_mind (d + 2) [.ref f, .int (nI p)] (μ, fg_rho R, 304) 304 Q := by
  have hb0 := hok.1
  have hb1 := hok.2.1
  have hp := hok.p
  have hq := Nat.two_pow_pos (T 0)
  have hfb := fF_b hf
  have hz9 := hz.1
  refine fg_intro (by decide +kernel) (Nat.le_of_ble_eq_true rfl) (fg_okAs rfl) (Nat.le_refl _) ?_
  refine fg_aloadn (fg_ft (pc := 0) tb_Folk_mind 0 rfl) rfl ?_
  refine fg_iloadn (fg_ft (pc := 1) tb_Folk_mind 1 rfl) rfl ?_
  refine fg_callV (fg_ft (pc := 2) tb_Folk_mind 2 rfl) cf_Folk_80 (fg_isOf (fF_lay hf) rfl (fg_lt (fF_lay hf) (by decide))) (as := [.int (nI p)]) (st := []) rfl rfl (Nat.le_of_ble_eq_true rfl) (Nat.le_refl _) (Nat.le_refl _) (ev_Folk_isThere ht hT hok hf hft hF hz (p := p) (hp31) ?_)
  refine fg_ifB_eq (tgt := 17) (fg_ft (pc := 5) tb_Folk_mind 3 rfl) (by decide) (fun c5 => ?_) (fun c5 => (absurd c5 hpT))
  refine fg_iconst (fg_ft (pc := 17) tb_Folk_mind 9 rfl) ic_0 ?_
  exact fg_iret (fg_ft (pc := 18) tb_Folk_mind 10 rfl) rfl rfl (hQ)
theorem ev_Folk_loavesOf {E : fg_E} {d : Nat} {μ : Nat → Nat → Int32} {R : fg_T4} {Q : Option Value → fg_M → Prop} {t : Nat} {T : Nat → Nat} (ht : fg_isT t) (hT : fg_TW μ t T) (hok : fg_ok T) {f h : Nat} {Z : fg_Z} {hv lv : Nat → Nat} {o : Option Nat × Nat × Nat} (hf : fg_isF f) (hft : fg_rho R f 0 = some t) (hF : fg_FZ μ f T h Z hv lv o) (hz : fg_zok T h Z hv) {p : Nat} (hp31 : p < 2 ^ 31) (hQ : Q (some (.int (nI (if p < T 2 then lv p else 0)))) (μ, fg_rho R, 304)) : fg_Ev E yy_Folk_loavesOf (d + 2) [.ref f, .int (nI p)] (μ, fg_rho R, 304) 304 Q := by
  have hb0 := hok.1
  have hb1 := hok.2.1
  have hp := hok.p
  have hq := Nat.two_pow_pos (T 0)
  have hfb := fF_b hf
  have hz9 := hz.1
  refine fg_intro (by decide +kernel) (Nat.le_of_ble_eq_true rfl) (fg_okAs rfl) (Nat.le_refl _) ?_
  refine fg_aloadn (fg_ft (pc := 0) tb_Folk_loavesOf 0 rfl) rfl ?_
  refine fg_iloadn (fg_ft (pc := 1) tb_Folk_loavesOf 1 rfl) rfl ?_
  refine fg_callV (fg_ft (pc := 2) tb_Folk_loavesOf 2 rfl) cf_Folk_80 (fg_isOf (fF_lay hf) rfl (fg_lt (fF_lay hf) (by decide))) (as := [.int (nI p)]) (st := []) rfl rfl (Nat.le_of_ble_eq_true rfl) (Nat.le_refl _) (Nat.le_refl _) (ev_Folk_isThere ht hT hok hf hft hF hz (p := p) (hp31) ?_)
  refine fg_ifB_eq (tgt := 17) (fg_ft (pc := 5) tb_Folk_loavesOf 3 rfl) (by decide) (fun c5 => ?_) (fun c5 => ?_)
  · refine fg_iconst (fg_ft (pc := 17) tb_Folk_loavesOf 9 rfl) ic_0 ?_
    exact fg_iret (fg_ft (pc := 18) tb_Folk_loavesOf 10 rfl) rfl rfl (by rw [if_neg c5] at hQ; exact hQ)
  · refine fg_aloadn (fg_ft (pc := 8) tb_Folk_loavesOf 4 rfl) rfl ?_
    refine fg_getR (fg_ft (pc := 9) tb_Folk_loavesOf 5 rfl) ff_Folk_22 (fF_lay hf) rfl (fg_lt (fF_lay hf) (by decide)) (fF_r3 hf) ?_
    refine fg_iloadn (fg_ft (pc := 12) tb_Folk_loavesOf 6 rfl) rfl ?_
    refine fg_ialdV (v := (nI (lv p))) (fg_ft (pc := 13) tb_Folk_loavesOf 7 rfl) (fF_l3 hf) (fg_lt (fF_l3 hf) (by decide)) (by omega) (hF.2.2.2.2.1 _ (by omega)) ?_
    refine fg_goto (tgt := 18) (fg_ft (pc := 14) tb_Folk_loavesOf 8 rfl) (by decide) ?_
    exact fg_iret (fg_ft (pc := 18) tb_Folk_loavesOf 10 rfl) rfl rfl (by rw [if_pos c5] at hQ; exact hQ)
theorem ev_Folk_has {E : fg_E} {d : Nat} {μ : Nat → Nat → Int32} {R : fg_T4} {Q : Option Value → fg_M → Prop} {t : Nat} {T : Nat → Nat} (ht : fg_isT t) (hT : fg_TW μ t T) (hok : fg_ok T) {f h : Nat} {Z : fg_Z} {hv lv : Nat → Nat} {o : Option Nat × Nat × Nat} (hf : fg_isF f) (hft : fg_rho R f 0 = some t) (hF : fg_FZ μ f T h Z hv lv o) (hz : fg_zok T h Z hv) {p k : Nat} (hp31 : p < 2 ^ 31) (hk31 : k < 2 ^ 31) (hQ : Q (some (.int (fg_bI (p < T 2 ∧ (Z.1 p).testBit k = true)))) (μ, fg_rho R, 304)) : fg_Ev E yy_Folk_has (d + 2) [.ref f, .int (nI p), .int (nI k)] (μ, fg_rho R, 304) 304 Q := by
  have hb0 := hok.1
  have hb1 := hok.2.1
  have hp := hok.p
  have hq := Nat.two_pow_pos (T 0)
  have hfb := fF_b hf
  have hz9 := hz.1
  refine fg_intro (by decide +kernel) (Nat.le_of_ble_eq_true rfl) (fg_okAs rfl) (Nat.le_refl _) ?_
  refine fg_aloadn (fg_ft (pc := 0) tb_Folk_has 0 rfl) rfl ?_
  refine fg_iloadn (fg_ft (pc := 1) tb_Folk_has 1 rfl) rfl ?_
  refine fg_callV (fg_ft (pc := 2) tb_Folk_has 2 rfl) cf_Folk_80 (fg_isOf (fF_lay hf) rfl (fg_lt (fF_lay hf) (by decide))) (as := [.int (nI p)]) (st := []) rfl rfl (Nat.le_of_ble_eq_true rfl) (Nat.le_refl _) (Nat.le_refl _) (ev_Folk_isThere ht hT hok hf hft hF hz (p := p) (hp31) ?_)
  refine fg_ifB_eq (tgt := 25) (fg_ft (pc := 5) tb_Folk_has 3 rfl) (by decide) (fun c5 => ?_) (fun c5 => ?_)
  · refine fg_iconst (fg_ft (pc := 25) tb_Folk_has 13 rfl) ic_0 ?_
    exact fg_zret (fg_ft (pc := 26) tb_Folk_has 14 rfl) rfl (by decide) rfl (by rw [fg_bF (fun hh => by first | exact c5 hh.1 | exact c18 hh.2)] at hQ; exact hQ)
  · refine fg_aloadn (fg_ft (pc := 8) tb_Folk_has 4 rfl) rfl ?_
    refine fg_getR (fg_ft (pc := 9) tb_Folk_has 5 rfl) ff_Folk_15 (fF_lay hf) rfl (fg_lt (fF_lay hf) (by decide)) (fF_r1 hf) ?_
    refine fg_iloadn (fg_ft (pc := 12) tb_Folk_has 6 rfl) rfl ?_
    refine fg_ialdV (v := (nI (Z.1 p))) (fg_ft (pc := 13) tb_Folk_has 7 rfl) (fF_l1 hf) (fg_lt (fF_l1 hf) (by decide)) (by omega) (hF.2.2.1 _ (by omega)) ?_
    refine fg_iloadn (fg_ft (pc := 14) tb_Folk_has 8 rfl) rfl ?_
    refine fg_callSN (fg_ft (pc := 15) tb_Folk_has 9 rfl) cf_Folk_90 (as := [.int (nI (Z.1 p)), .int (nI k)]) (st := []) rfl rfl (Nat.le_of_ble_eq_true rfl) (Nat.le_refl _) (Nat.le_refl _) (ev_Fb_isIn (s := (Z.1 p)) (k := k) (by have := (hz.2.1 p (by omega)).1; omega) (hk31) ?_)
    refine fg_ifB_eq (tgt := 25) (fg_ft (pc := 18) tb_Folk_has 10 rfl) (by decide) (fun c18 => ?_) (fun c18 => ?_)
    · refine fg_iconst (fg_ft (pc := 25) tb_Folk_has 13 rfl) ic_0 ?_
      exact fg_zret (fg_ft (pc := 26) tb_Folk_has 14 rfl) rfl (by decide) rfl (by rw [fg_bF (fun hh => by first | exact c5 hh.1 | exact c18 hh.2)] at hQ; exact hQ)
    · refine fg_iconst (fg_ft (pc := 21) tb_Folk_has 11 rfl) ic_1 ?_
      refine fg_goto (tgt := 26) (fg_ft (pc := 22) tb_Folk_has 12 rfl) (by decide) ?_
      exact fg_zret (fg_ft (pc := 26) tb_Folk_has 14 rfl) rfl (by decide) rfl (by rw [fg_bT ⟨c5, c18⟩] at hQ; exact hQ)
theorem ev_Folk_setMind {E : fg_E} {d : Nat} {μ : Nat → Nat → Int32} {R : fg_T4} {Q : Option Value → fg_M → Prop} {t : Nat} {T : Nat → Nat} (ht : fg_isT t) (hT : fg_TW μ t T) (hok : fg_ok T) {f h : Nat} {Z : fg_Z} {hv lv : Nat → Nat} {o : Option Nat × Nat × Nat} (hf : fg_isF f) (hft : fg_rho R f 0 = some t) (hF : fg_FZ μ f T h Z hv lv o) (hz : fg_zok T h Z hv) {p m : Nat} (hpT : p < T 2) (hQ : Q none (fg_u2 μ (f + 1) p (nI m), fg_rho R, 304)) : fg_Ev E yy_Folk_setMind (d + 2) [.ref f, .int (nI p), .int (nI m)] (μ, fg_rho R, 304) 304 Q := by
  have hb0 := hok.1
  have hb1 := hok.2.1
  have hp := hok.p
  have hq := Nat.two_pow_pos (T 0)
  have hfb := fF_b hf
  have hz9 := hz.1
  refine fg_intro (by decide +kernel) (Nat.le_of_ble_eq_true rfl) (fg_okAs rfl) (Nat.le_refl _) ?_
  refine fg_aloadn (fg_ft (pc := 0) tb_Folk_setMind 0 rfl) rfl ?_
  refine fg_iloadn (fg_ft (pc := 1) tb_Folk_setMind 1 rfl) rfl ?_
  refine fg_callV (fg_ft (pc := 2) tb_Folk_setMind 2 rfl) cf_Folk_80 (fg_isOf (fF_lay hf) rfl (fg_lt (fF_lay hf) (by decide))) (as := [.int (nI p)]) (st := []) rfl rfl (Nat.le_of_ble_eq_true rfl) (Nat.le_refl _) (Nat.le_refl _) (ev_Folk_isThere ht hT hok hf hft hF hz (p := p) (by omega) ?_)
  refine fg_ifB_eq (tgt := 15) (fg_ft (pc := 5) tb_Folk_setMind 3 rfl) (by decide) (fun c5 => (absurd hpT c5)) (fun c5 => ?_)
  refine fg_aloadn (fg_ft (pc := 8) tb_Folk_setMind 4 rfl) rfl ?_
  refine fg_getR (fg_ft (pc := 9) tb_Folk_setMind 5 rfl) ff_Folk_15 (fF_lay hf) rfl (fg_lt (fF_lay hf) (by decide)) (fF_r1 hf) ?_
  refine fg_iloadn (fg_ft (pc := 12) tb_Folk_setMind 6 rfl) rfl ?_
  refine fg_iloadn (fg_ft (pc := 13) tb_Folk_setMind 7 rfl) rfl ?_
  refine fg_iastN (fg_ft (pc := 14) tb_Folk_setMind 8 rfl) (fF_l1 hf) (fg_lt (fF_l1 hf) (by decide)) (by omega) ?_
  show fg_wp _ _ _ _ _ _ _ _ _ (fg_u2 μ (f + 1) p (nI m), fg_rho R, 304)
  exact fg_vret (fg_ft (pc := 15) tb_Folk_setMind 9 rfl) rfl rfl (hQ)
theorem ev_Folk_firstMind {E : fg_E} {d : Nat} {μ : Nat → Nat → Int32} {R : fg_T4} {Q : Option Value → fg_M → Prop} {t : Nat} {T : Nat → Nat} (ht : fg_isT t) (hT : fg_TW μ t T) (hok : fg_ok T) {f h : Nat} {Z : fg_Z} {hv lv : Nat → Nat} {o : Option Nat × Nat × Nat} (hf : fg_isF f) (hft : fg_rho R f 0 = some t) (hF : fg_FZ μ f T h Z hv lv o) (hz : fg_zok T h Z hv) {p : Nat} (hpT : p < T 2) (hQ : Q (some (.int (nI (fg_clo T (T (41 + 3 * p)))))) (μ, fg_rho R, 304)) : fg_Ev E yy_Folk_firstMind (d + 2) [.ref f, .int (nI p)] (μ, fg_rho R, 304) 304 Q := by
  have hb0 := hok.1
  have hb1 := hok.2.1
  have hp := hok.p
  have hq := Nat.two_pow_pos (T 0)
  have hfb := fF_b hf
  have hz9 := hz.1
  refine fg_intro (by decide +kernel) (Nat.le_of_ble_eq_true rfl) (fg_okAs rfl) (Nat.le_refl _) ?_
  refine fg_aloadn (fg_ft (pc := 0) tb_Folk_firstMind 0 rfl) rfl ?_
  refine fg_iloadn (fg_ft (pc := 1) tb_Folk_firstMind 1 rfl) rfl ?_
  refine fg_callV (fg_ft (pc := 2) tb_Folk_firstMind 2 rfl) cf_Folk_80 (fg_isOf (fF_lay hf) rfl (fg_lt (fF_lay hf) (by decide))) (as := [.int (nI p)]) (st := []) rfl rfl (Nat.le_of_ble_eq_true rfl) (Nat.le_refl _) (Nat.le_refl _) (ev_Folk_isThere ht hT hok hf hft hF hz (p := p) (by omega) ?_)
  refine fg_ifB_eq (tgt := 30) (fg_ft (pc := 5) tb_Folk_firstMind 3 rfl) (by decide) (fun c5 => (absurd hpT c5)) (fun c5 => ?_)
  refine fg_aloadn (fg_ft (pc := 8) tb_Folk_firstMind 4 rfl) rfl ?_
  refine fg_getR (fg_ft (pc := 9) tb_Folk_firstMind 5 rfl) ff_Folk_9 (fF_lay hf) rfl (fg_lt (fF_lay hf) (by decide)) hft ?_
  refine fg_aloadn (fg_ft (pc := 12) tb_Folk_firstMind 6 rfl) rfl ?_
  refine fg_getR (fg_ft (pc := 13) tb_Folk_firstMind 7 rfl) ff_Folk_9 (fF_lay hf) rfl (fg_lt (fF_lay hf) (by decide)) hft ?_
  refine fg_getR (fg_ft (pc := 16) tb_Folk_firstMind 8 rfl) ff_Folk_29 (tT_lay ht) rfl (fg_lt (tT_lay ht) (by decide)) (tT_r3 ht) ?_
  refine fg_iloadn (fg_ft (pc := 19) tb_Folk_firstMind 9 rfl) rfl ?_
  refine fg_iconst (fg_ft (pc := 20) tb_Folk_firstMind 10 rfl) ic_1 ?_
  refine fg_callV (fg_ft (pc := 21) tb_Folk_firstMind 11 rfl) cf_Folk_84 (fg_isOf ((tT_w3 (R := R) ht).1) rfl (fg_lt ((tT_w3 (R := R) ht).1) (by decide))) (as := [.int (nI p), .int (nI 1)]) (st := [.ref t]) rfl rfl (Nat.le_of_ble_eq_true rfl) (Nat.le_refl _) (Nat.le_refl _) (ev_Rows_cell (tT_w3 (R := R) ht) hT.2.2.1.1 hT.2.2.1.2.1 (by have := hok.2.1; omega) (by decide) (by have := hok.2.1; omega) (i := p) (j := 1) (by omega) (by decide) (hT.person1 (by omega)) ?_)
  refine fg_callV (fg_ft (pc := 24) tb_Folk_firstMind 12 rfl) cf_Folk_87 (fg_isOf (tT_lay ht) rfl (fg_lt (tT_lay ht) (by decide))) (as := [.int (nI (T (41 + 3 * p)))]) (st := []) rfl rfl (Nat.le_of_ble_eq_true rfl) (Nat.le_refl _) (Nat.le_refl _) (ev_Town_close ht hT hok (s := (T (41 + 3 * p))) ((hok.2.2.2.1 p hpT).2.1) ?_)
  refine fg_goto (tgt := 31) (fg_ft (pc := 27) tb_Folk_firstMind 13 rfl) (by decide) ?_
  exact fg_iret (fg_ft (pc := 31) tb_Folk_firstMind 15 rfl) rfl rfl (hQ)
theorem ev_Folk_firstMindOut {E : fg_E} {d : Nat} {μ : Nat → Nat → Int32} {R : fg_T4} {Q : Option Value → fg_M → Prop} {t : Nat} {T : Nat → Nat} (ht : fg_isT t) (hT : fg_TW μ t T) (hok : fg_ok T) {f h : Nat} {Z : fg_Z} {hv lv : Nat → Nat} {o : Option Nat × Nat × Nat} (hf : fg_isF f) (hft : fg_rho R f 0 = some t) (hF : fg_FZ μ f T h Z hv lv o) (hz : fg_zok T h Z hv) {p : Nat} (hp31 : p < 2 ^ 31) (hpT : ¬ p < T 2) (hQ : Q (some (.int (nI 0))) (μ, fg_rho R, 304)) : fg_Ev E yy_Folk_firstMind (d + 2) [.ref f, .int (nI p)] (μ, fg_rho R, 304) 304 Q := by
  have hb0 := hok.1
  have hb1 := hok.2.1
  have hp := hok.p
  have hq := Nat.two_pow_pos (T 0)
  have hfb := fF_b hf
  have hz9 := hz.1
  refine fg_intro (by decide +kernel) (Nat.le_of_ble_eq_true rfl) (fg_okAs rfl) (Nat.le_refl _) ?_
  refine fg_aloadn (fg_ft (pc := 0) tb_Folk_firstMind 0 rfl) rfl ?_
  refine fg_iloadn (fg_ft (pc := 1) tb_Folk_firstMind 1 rfl) rfl ?_
  refine fg_callV (fg_ft (pc := 2) tb_Folk_firstMind 2 rfl) cf_Folk_80 (fg_isOf (fF_lay hf) rfl (fg_lt (fF_lay hf) (by decide))) (as := [.int (nI p)]) (st := []) rfl rfl (Nat.le_of_ble_eq_true rfl) (Nat.le_refl _) (Nat.le_refl _) (ev_Folk_isThere ht hT hok hf hft hF hz (p := p) (hp31) ?_)
  refine fg_ifB_eq (tgt := 30) (fg_ft (pc := 5) tb_Folk_firstMind 3 rfl) (by decide) (fun c5 => ?_) (fun c5 => (absurd c5 hpT))
  refine fg_iconst (fg_ft (pc := 30) tb_Folk_firstMind 14 rfl) ic_0 ?_
  exact fg_iret (fg_ft (pc := 31) tb_Folk_firstMind 15 rfl) rfl rfl (hQ)
def fg_sumL (n2 : Nat) (lv : Nat → Nat) : Nat → Nat
  | 0 => 0
  | n + 1 => fg_sumL n2 lv n + (if n < n2 then lv n else 0)
theorem ev_Folk_allLoaves {E : fg_E} {d : Nat} {μ : Nat → Nat → Int32} {R : fg_T4} {Q : Option Value → fg_M → Prop} {t : Nat} {T : Nat → Nat} (ht : fg_isT t) (hT : fg_TW μ t T) (hok : fg_ok T) {f h : Nat} {Z : fg_Z} {hv lv : Nat → Nat} {o : Option Nat × Nat × Nat} (hf : fg_isF f) (hft : fg_rho R f 0 = some t) (hF : fg_FZ μ f T h Z hv lv o) (hz : fg_zok T h Z hv)  (hQ : Q (some (.int (nI (fg_sumL (T 2) lv 5)))) (μ, fg_rho R, 304)) : fg_Ev E yy_Folk_allLoaves (d + 3) [.ref f] (μ, fg_rho R, 304) 304 Q := by
  have hb0 := hok.1
  have hb1 := hok.2.1
  have hp := hok.p
  have hq := Nat.two_pow_pos (T 0)
  have hfb := fF_b hf
  have hz9 := hz.1
  have loop : ∀ (n k a : Nat), 5 - k < n → k ≤ 5 → a = fg_sumL (T 2) lv k → fg_wp E yy_Folk_allLoaves (d + 3) 304 304 Q 4 [.ref f, .int (nI a), .int (nI k)] [] (μ, fg_rho R, 304) := by
    intro n
    induction n with
    | zero => intro k a h; exact absurd h (Nat.not_lt_zero _)
    | succ n ih =>
      intro k a hn hk ha
      refine fg_iloadn (fg_ft (pc := 4) tb_Folk_allLoaves 4 rfl) rfl ?_
      refine fg_iconst (fg_ft (pc := 5) tb_Folk_allLoaves 5 rfl) ic_5 ?_
      refine fg_icmp_geN (tgt := 23) (fg_ft (pc := 6) tb_Folk_allLoaves 6 rfl) (by decide) (by omega) (by decide) (fun c6 => ?_) (fun c6 => ?_)
      · refine fg_iloadn (fg_ft (pc := 23) tb_Folk_allLoaves 15 rfl) rfl ?_
        exact fg_iret (fg_ft (pc := 24) tb_Folk_allLoaves 16 rfl) rfl rfl (by rw [ha, show k = 5 by omega]; exact hQ)
      · refine fg_iloadn (fg_ft (pc := 9) tb_Folk_allLoaves 7 rfl) rfl ?_
        refine fg_aloadn (fg_ft (pc := 10) tb_Folk_allLoaves 8 rfl) rfl ?_
        refine fg_iloadn (fg_ft (pc := 11) tb_Folk_allLoaves 9 rfl) rfl ?_
        refine fg_callV (fg_ft (pc := 12) tb_Folk_allLoaves 10 rfl) cf_Folk_94 (fg_isOf (fF_lay hf) rfl (fg_lt (fF_lay hf) (by decide))) (as := [.int (nI k)]) (st := [.int (nI a)]) rfl rfl (Nat.le_of_ble_eq_true rfl) (Nat.le_refl _) (Nat.le_refl _) (ev_Folk_loavesOf ht hT hok hf hft hF hz (p := k) (by omega) ?_)
        refine fg_iaddN (fg_ft (pc := 15) tb_Folk_allLoaves 11 rfl) ?_
        refine fg_istoren (fg_ft (pc := 16) tb_Folk_allLoaves 12 rfl) (Nat.le_of_ble_eq_true rfl) ?_
        refine fg_iincN (fg_ft (pc := 17) tb_Folk_allLoaves 13 rfl) rfl ic_1 rfl ?_
        refine fg_goto (tgt := 4) (fg_ft (pc := 20) tb_Folk_allLoaves 14 rfl) (by decide) ?_
        exact ih (k + 1) _ (by omega) (by omega) (by rw [ha]; rfl)
  refine fg_intro (by decide +kernel) (Nat.le_of_ble_eq_true rfl) (fg_okAs rfl) (Nat.le_refl _) ?_
  refine fg_iconst (fg_ft (pc := 0) tb_Folk_allLoaves 0 rfl) ic_0 ?_
  refine fg_istoren (fg_ft (pc := 1) tb_Folk_allLoaves 1 rfl) (Nat.le_of_ble_eq_true rfl) ?_
  refine fg_iconst (fg_ft (pc := 2) tb_Folk_allLoaves 2 rfl) ic_0 ?_
  refine fg_istoren (fg_ft (pc := 3) tb_Folk_allLoaves 3 rfl) (Nat.le_of_ble_eq_true rfl) ?_
  exact loop (5 + 1) 0 0 (by omega) (by omega) rfl
def fg_andL (T : Nat → Nat) (mv : Nat → Nat) : Nat → Nat
  | 0 => 2 ^ T 0 - 1
  | n + 1 => fg_andL T mv n &&& mv n
theorem ev_Folk_knownToAll {E : fg_E} {d : Nat} {μ : Nat → Nat → Int32} {R : fg_T4} {Q : Option Value → fg_M → Prop} {t : Nat} {T : Nat → Nat} (ht : fg_isT t) (hT : fg_TW μ t T) (hok : fg_ok T) {f h : Nat} {Z : fg_Z} {hv lv : Nat → Nat} {o : Option Nat × Nat × Nat} (hf : fg_isF f) (hft : fg_rho R f 0 = some t) (hF : fg_FZ μ f T h Z hv lv o) (hz : fg_zok T h Z hv)  (hQ : Q (some (.int (nI (fg_andL T Z.1 (T 2))))) (μ, fg_rho R, 304)) : fg_Ev E yy_Folk_knownToAll (d + 3) [.ref f] (μ, fg_rho R, 304) 304 Q := by
  have hb0 := hok.1
  have hb1 := hok.2.1
  have hp := hok.p
  have hq := Nat.two_pow_pos (T 0)
  have hfb := fF_b hf
  have hz9 := hz.1
  have loop : ∀ (n k a : Nat), T 2 - k < n → k ≤ T 2 → a = fg_andL T Z.1 k → fg_wp E yy_Folk_knownToAll (d + 3) 304 304 Q 21 [.ref f, .int (nI a), .int (nI k)] [] (μ, fg_rho R, 304) := by
    intro n
    induction n with
    | zero => intro k a h; exact absurd h (Nat.not_lt_zero _)
    | succ n ih =>
      intro k a hn hk ha
      refine fg_iloadn (fg_ft (pc := 21) tb_Folk_knownToAll 11 rfl) rfl ?_
      refine fg_aloadn (fg_ft (pc := 22) tb_Folk_knownToAll 12 rfl) rfl ?_
      refine fg_getV (v := (nI (T 2))) (fg_ft (pc := 23) tb_Folk_knownToAll 13 rfl) ff_Folk_46 (fF_lay hf) rfl (fg_lt (fF_lay hf) (by decide)) hF.1 ?_
      refine fg_icmp_geN (tgt := 43) (fg_ft (pc := 26) tb_Folk_knownToAll 14 rfl) (by decide) (by omega) (by omega) (fun c26 => ?_) (fun c26 => ?_)
      · refine fg_iloadn (fg_ft (pc := 43) tb_Folk_knownToAll 23 rfl) rfl ?_
        exact fg_iret (fg_ft (pc := 44) tb_Folk_knownToAll 24 rfl) rfl rfl (by rw [ha, show k = T 2 by omega]; exact hQ)
      · refine fg_iloadn (fg_ft (pc := 29) tb_Folk_knownToAll 15 rfl) rfl ?_
        refine fg_aloadn (fg_ft (pc := 30) tb_Folk_knownToAll 16 rfl) rfl ?_
        refine fg_iloadn (fg_ft (pc := 31) tb_Folk_knownToAll 17 rfl) rfl ?_
        refine fg_callV (fg_ft (pc := 32) tb_Folk_knownToAll 18 rfl) cf_Folk_101 (fg_isOf (fF_lay hf) rfl (fg_lt (fF_lay hf) (by decide))) (as := [.int (nI k)]) (st := [.int (nI a)]) rfl rfl (Nat.le_of_ble_eq_true rfl) (Nat.le_refl _) (Nat.le_refl _) (ev_Folk_mind ht hT hok hf hft hF hz (p := k) (by omega) ?_)
        refine fg_iandN (fg_ft (pc := 35) tb_Folk_knownToAll 19 rfl) ?_
        refine fg_istoren (fg_ft (pc := 36) tb_Folk_knownToAll 20 rfl) (Nat.le_of_ble_eq_true rfl) ?_
        refine fg_iincN (fg_ft (pc := 37) tb_Folk_knownToAll 21 rfl) rfl ic_1 rfl ?_
        refine fg_goto (tgt := 21) (fg_ft (pc := 40) tb_Folk_knownToAll 22 rfl) (by decide) ?_
        exact ih (k + 1) _ (by omega) (by omega) (by rw [ha]; rfl)
  refine fg_intro (by decide +kernel) (Nat.le_of_ble_eq_true rfl) (fg_okAs rfl) (Nat.le_refl _) ?_
  refine fg_aloadn (fg_ft (pc := 0) tb_Folk_knownToAll 0 rfl) rfl ?_
  refine fg_getR (fg_ft (pc := 1) tb_Folk_knownToAll 1 rfl) ff_Folk_9 (fF_lay hf) rfl (fg_lt (fF_lay hf) (by decide)) hft ?_
  refine fg_ifnonnull (tgt := 11) (fg_ft (pc := 4) tb_Folk_knownToAll 2 rfl) (by decide) ?_
  refine fg_aloadn (fg_ft (pc := 11) tb_Folk_knownToAll 5 rfl) rfl ?_
  refine fg_getR (fg_ft (pc := 12) tb_Folk_knownToAll 6 rfl) ff_Folk_9 (fF_lay hf) rfl (fg_lt (fF_lay hf) (by decide)) hft ?_
  refine fg_callV (fg_ft (pc := 15) tb_Folk_knownToAll 7 rfl) cf_Folk_97 (fg_isOf (tT_lay ht) rfl (fg_lt (tT_lay ht) (by decide))) (as := []) (st := []) rfl rfl (Nat.le_of_ble_eq_true rfl) (Nat.le_refl _) (Nat.le_refl _) (ev_Town_all ht hT hok ?_)
  refine fg_istoren (fg_ft (pc := 18) tb_Folk_knownToAll 8 rfl) (Nat.le_of_ble_eq_true rfl) ?_
  refine fg_iconst (fg_ft (pc := 19) tb_Folk_knownToAll 9 rfl) ic_0 ?_
  refine fg_istoren (fg_ft (pc := 20) tb_Folk_knownToAll 10 rfl) (Nat.le_of_ble_eq_true rfl) ?_
  exact loop (T 2 + 1) 0 (2 ^ T 0 - 1) (by omega) (by omega) rfl
def fg_orL (mv : Nat → Nat) (x : Int32) : Nat → Nat
  | 0 => 0
  | n + 1 => fg_orL mv x n ||| (if nI n = x then 0 else mv n)
theorem ev_Folk_knownToOthers {E : fg_E} {d : Nat} {μ : Nat → Nat → Int32} {R : fg_T4} {Q : Option Value → fg_M → Prop} {t : Nat} {T : Nat → Nat} (ht : fg_isT t) (hT : fg_TW μ t T) (hok : fg_ok T) {f h : Nat} {Z : fg_Z} {hv lv : Nat → Nat} {o : Option Nat × Nat × Nat} (hf : fg_isF f) (hft : fg_rho R f 0 = some t) (hF : fg_FZ μ f T h Z hv lv o) (hz : fg_zok T h Z hv) {x : Int32} (hQ : Q (some (.int (nI (fg_orL Z.1 x (T 2))))) (μ, fg_rho R, 304)) : fg_Ev E yy_Folk_knownToOthers (d + 3) [.ref f, .int x] (μ, fg_rho R, 304) 304 Q := by
  have hb0 := hok.1
  have hb1 := hok.2.1
  have hp := hok.p
  have hq := Nat.two_pow_pos (T 0)
  have hfb := fF_b hf
  have hz9 := hz.1
  have loop : ∀ (n k a : Nat), T 2 - k < n → k ≤ T 2 → a = fg_orL Z.1 x k → fg_wp E yy_Folk_knownToOthers (d + 3) 304 304 Q 4 [.ref f, .int x, .int (nI a), .int (nI k)] [] (μ, fg_rho R, 304) := by
    intro n
    induction n with
    | zero => intro k a h; exact absurd h (Nat.not_lt_zero _)
    | succ n ih =>
      intro k a hn hk ha
      refine fg_iloadn (fg_ft (pc := 4) tb_Folk_knownToOthers 4 rfl) rfl ?_
      refine fg_aloadn (fg_ft (pc := 5) tb_Folk_knownToOthers 5 rfl) rfl ?_
      refine fg_getV (v := (nI (T 2))) (fg_ft (pc := 6) tb_Folk_knownToOthers 6 rfl) ff_Folk_46 (fF_lay hf) rfl (fg_lt (fF_lay hf) (by decide)) hF.1 ?_
      refine fg_icmp_geN (tgt := 35) (fg_ft (pc := 9) tb_Folk_knownToOthers 7 rfl) (by decide) (by omega) (by omega) (fun c9 => ?_) (fun c9 => ?_)
      · refine fg_iloadn (fg_ft (pc := 35) tb_Folk_knownToOthers 21 rfl) rfl ?_
        exact fg_iret (fg_ft (pc := 36) tb_Folk_knownToOthers 22 rfl) rfl rfl (by rw [ha, show k = T 2 by omega]; exact hQ)
      · refine fg_iloadn (fg_ft (pc := 12) tb_Folk_knownToOthers 8 rfl) rfl ?_
        refine fg_iloadn (fg_ft (pc := 13) tb_Folk_knownToOthers 9 rfl) rfl ?_
        refine fg_iloadn (fg_ft (pc := 14) tb_Folk_knownToOthers 10 rfl) rfl ?_
        refine fg_icmp_ne (tgt := 22) (fg_ft (pc := 15) tb_Folk_knownToOthers 11 rfl) (by decide) (fun c15 => ?_) (fun c15 => ?_)
        · refine fg_aloadn (fg_ft (pc := 22) tb_Folk_knownToOthers 14 rfl) rfl ?_
          refine fg_iloadn (fg_ft (pc := 23) tb_Folk_knownToOthers 15 rfl) rfl ?_
          refine fg_callV (fg_ft (pc := 24) tb_Folk_knownToOthers 16 rfl) cf_Folk_101 (fg_isOf (fF_lay hf) rfl (fg_lt (fF_lay hf) (by decide))) (as := [.int (nI k)]) (st := [.int (nI a)]) rfl rfl (Nat.le_of_ble_eq_true rfl) (Nat.le_refl _) (Nat.le_refl _) (ev_Folk_mind ht hT hok hf hft hF hz (p := k) (by omega) ?_)
          refine fg_iorN (fg_ft (pc := 27) tb_Folk_knownToOthers 17 rfl) ?_
          refine fg_istoren (fg_ft (pc := 28) tb_Folk_knownToOthers 18 rfl) (Nat.le_of_ble_eq_true rfl) ?_
          refine fg_iincN (fg_ft (pc := 29) tb_Folk_knownToOthers 19 rfl) rfl ic_1 rfl ?_
          refine fg_goto (tgt := 4) (fg_ft (pc := 32) tb_Folk_knownToOthers 20 rfl) (by decide) ?_
          exact ih (k + 1) _ (by omega) (by omega) (by rw [ha]; show _ = fg_orL Z.1 x k ||| _; rw [if_neg c15])
        · refine fg_iconst (fg_ft (pc := 18) tb_Folk_knownToOthers 12 rfl) ic_0 ?_
          refine fg_goto (tgt := 27) (fg_ft (pc := 19) tb_Folk_knownToOthers 13 rfl) (by decide) ?_
          refine fg_iorN (fg_ft (pc := 27) tb_Folk_knownToOthers 17 rfl) ?_
          refine fg_istoren (fg_ft (pc := 28) tb_Folk_knownToOthers 18 rfl) (Nat.le_of_ble_eq_true rfl) ?_
          refine fg_iincN (fg_ft (pc := 29) tb_Folk_knownToOthers 19 rfl) rfl ic_1 rfl ?_
          refine fg_goto (tgt := 4) (fg_ft (pc := 32) tb_Folk_knownToOthers 20 rfl) (by decide) ?_
          exact ih (k + 1) _ (by omega) (by omega) (by rw [ha]; show _ = fg_orL Z.1 x k ||| _; rw [if_pos c15])
  refine fg_intro (by decide +kernel) (Nat.le_of_ble_eq_true rfl) (fg_okAs rfl) (Nat.le_refl _) ?_
  refine fg_iconst (fg_ft (pc := 0) tb_Folk_knownToOthers 0 rfl) ic_0 ?_
  refine fg_istoren (fg_ft (pc := 1) tb_Folk_knownToOthers 1 rfl) (Nat.le_of_ble_eq_true rfl) ?_
  refine fg_iconst (fg_ft (pc := 2) tb_Folk_knownToOthers 2 rfl) ic_0 ?_
  refine fg_istoren (fg_ft (pc := 3) tb_Folk_knownToOthers 3 rfl) (Nat.le_of_ble_eq_true rfl) ?_
  exact loop (T 2 + 1) 0 0 (by omega) (by omega) rfl
theorem ev_Folk_knownToAny {E : fg_E} {d : Nat} {μ : Nat → Nat → Int32} {R : fg_T4} {Q : Option Value → fg_M → Prop} {t : Nat} {T : Nat → Nat} (ht : fg_isT t) (hT : fg_TW μ t T) (hok : fg_ok T) {f h : Nat} {Z : fg_Z} {hv lv : Nat → Nat} {o : Option Nat × Nat × Nat} (hf : fg_isF f) (hft : fg_rho R f 0 = some t) (hF : fg_FZ μ f T h Z hv lv o) (hz : fg_zok T h Z hv) (hQ : Q (some (.int (nI (fg_orL Z.1 (-1) (T 2))))) (μ, fg_rho R, 304)) : fg_Ev E yy_Folk_knownToAny (d + 4) [.ref f] (μ, fg_rho R, 304) 304 Q := by
  have hb0 := hok.1
  have hb1 := hok.2.1
  have hp := hok.p
  have hq := Nat.two_pow_pos (T 0)
  have hfb := fF_b hf
  have hz9 := hz.1
  refine fg_intro (by decide +kernel) (Nat.le_of_ble_eq_true rfl) (fg_okAs rfl) (Nat.le_refl _) ?_
  refine fg_aloadn (fg_ft (pc := 0) tb_Folk_knownToAny 0 rfl) rfl ?_
  refine fg_iconst (fg_ft (pc := 1) tb_Folk_knownToAny 1 rfl) ic_m1 ?_
  refine fg_callV (fg_ft (pc := 2) tb_Folk_knownToAny 2 rfl) cf_Folk_104 (fg_isOf (fF_lay hf) rfl (fg_lt (fF_lay hf) (by decide))) (as := [.int (-1)]) (st := []) rfl rfl (Nat.le_of_ble_eq_true rfl) (Nat.le_refl _) (Nat.le_refl _) (ev_Folk_knownToOthers ht hT hok hf hft hF hz (x := (-1)) ?_)
  exact fg_iret (fg_ft (pc := 5) tb_Folk_knownToAny 3 rfl) rfl rfl (hQ)
noncomputable def fg_frL (T : Nat → Nat) : Nat → Nat
  | 0 => 0
  | n + 1 => fg_frL T n ||| fg_clo T (T (41 + 3 * n))
theorem ev_Folk_lost {E : fg_E} {d : Nat} {μ : Nat → Nat → Int32} {R : fg_T4} {Q : Option Value → fg_M → Prop} {t : Nat} {T : Nat → Nat} (ht : fg_isT t) (hT : fg_TW μ t T) (hok : fg_ok T) {f h : Nat} {Z : fg_Z} {hv lv : Nat → Nat} {o : Option Nat × Nat × Nat} (hf : fg_isF f) (hft : fg_rho R f 0 = some t) (hF : fg_FZ μ f T h Z hv lv o) (hz : fg_zok T h Z hv) (hQ : Q (some (.int (nI (fg_df (fg_frL T (T 2)) (fg_orL Z.1 (-1) (T 2)))))) (μ, fg_rho R, 304)) : fg_Ev E yy_Folk_lost (d + 5) [.ref f] (μ, fg_rho R, 304) 304 Q := by
  have hb0 := hok.1
  have hb1 := hok.2.1
  have hp := hok.p
  have hq := Nat.two_pow_pos (T 0)
  have hfb := fF_b hf
  have hz9 := hz.1
  have loop : ∀ (n k a : Nat), T 2 - k < n → k ≤ T 2 → a = fg_frL T k → fg_wp E yy_Folk_lost (d + 5) 304 304 Q 4 [.ref f, .int (nI a), .int (nI k)] [] (μ, fg_rho R, 304) := by
    intro n
    induction n with
    | zero => intro k a h; exact absurd h (Nat.not_lt_zero _)
    | succ n ih =>
      intro k a hn hk ha
      refine fg_iloadn (fg_ft (pc := 4) tb_Folk_lost 4 rfl) rfl ?_
      refine fg_aloadn (fg_ft (pc := 5) tb_Folk_lost 5 rfl) rfl ?_
      refine fg_getV (v := (nI (T 2))) (fg_ft (pc := 6) tb_Folk_lost 6 rfl) ff_Folk_46 (fF_lay hf) rfl (fg_lt (fF_lay hf) (by decide)) hF.1 ?_
      refine fg_icmp_geN (tgt := 26) (fg_ft (pc := 9) tb_Folk_lost 7 rfl) (by decide) (by omega) (by omega) (fun c9 => ?_) (fun c9 => ?_)
      · refine fg_iloadn (fg_ft (pc := 26) tb_Folk_lost 16 rfl) rfl ?_
        refine fg_aloadn (fg_ft (pc := 27) tb_Folk_lost 17 rfl) rfl ?_
        refine fg_callV (fg_ft (pc := 28) tb_Folk_lost 18 rfl) cf_Folk_107 (fg_isOf (fF_lay hf) rfl (fg_lt (fF_lay hf) (by decide))) (as := []) (st := [.int (nI a)]) rfl rfl (Nat.le_of_ble_eq_true rfl) (Nat.le_refl _) (Nat.le_refl _) (ev_Folk_knownToAny ht hT hok hf hft hF hz ?_)
        refine fg_iconst (fg_ft (pc := 31) tb_Folk_lost 19 rfl) ic_m1 ?_
        refine fg_ixor (fg_ft (pc := 32) tb_Folk_lost 20 rfl) ?_
        refine fg_iandD (fg_ft (pc := 33) tb_Folk_lost 21 rfl) ?_
        exact fg_iret (fg_ft (pc := 34) tb_Folk_lost 22 rfl) rfl rfl (by rw [ha, show k = T 2 by omega]; exact hQ)
      · refine fg_iloadn (fg_ft (pc := 12) tb_Folk_lost 8 rfl) rfl ?_
        refine fg_aloadn (fg_ft (pc := 13) tb_Folk_lost 9 rfl) rfl ?_
        refine fg_iloadn (fg_ft (pc := 14) tb_Folk_lost 10 rfl) rfl ?_
        refine fg_callV (fg_ft (pc := 15) tb_Folk_lost 11 rfl) cf_Folk_52 (fg_isOf (fF_lay hf) rfl (fg_lt (fF_lay hf) (by decide))) (as := [.int (nI k)]) (st := [.int (nI a)]) rfl rfl (Nat.le_of_ble_eq_true rfl) (Nat.le_refl _) (Nat.le_refl _) (ev_Folk_firstMind ht hT hok hf hft hF hz (p := k) (by omega) ?_)
        refine fg_iorN (fg_ft (pc := 18) tb_Folk_lost 12 rfl) ?_
        refine fg_istoren (fg_ft (pc := 19) tb_Folk_lost 13 rfl) (Nat.le_of_ble_eq_true rfl) ?_
        refine fg_iincN (fg_ft (pc := 20) tb_Folk_lost 14 rfl) rfl ic_1 rfl ?_
        refine fg_goto (tgt := 4) (fg_ft (pc := 23) tb_Folk_lost 15 rfl) (by decide) ?_
        exact ih (k + 1) _ (by omega) (by omega) (by rw [ha]; rfl)
  refine fg_intro (by decide +kernel) (Nat.le_of_ble_eq_true rfl) (fg_okAs rfl) (Nat.le_refl _) ?_
  refine fg_iconst (fg_ft (pc := 0) tb_Folk_lost 0 rfl) ic_0 ?_
  refine fg_istoren (fg_ft (pc := 1) tb_Folk_lost 1 rfl) (Nat.le_of_ble_eq_true rfl) ?_
  refine fg_iconst (fg_ft (pc := 2) tb_Folk_lost 2 rfl) ic_0 ?_
  refine fg_istoren (fg_ft (pc := 3) tb_Folk_lost 3 rfl) (Nat.le_of_ble_eq_true rfl) ?_
  exact loop (T 2 + 1) 0 0 (by omega) (by omega) rfl
def fg_secL (mv : Nat → Nat) : Nat → Nat × Nat
  | 0 => (0, 0)
  | n + 1 => ((fg_secL mv n).1 ||| mv n, (fg_secL mv n).2 ||| ((fg_secL mv n).1 &&& mv n))
theorem ev_Folk_secrets {E : fg_E} {d : Nat} {μ : Nat → Nat → Int32} {R : fg_T4} {Q : Option Value → fg_M → Prop} {t : Nat} {T : Nat → Nat} (ht : fg_isT t) (hT : fg_TW μ t T) (hok : fg_ok T) {f h : Nat} {Z : fg_Z} {hv lv : Nat → Nat} {o : Option Nat × Nat × Nat} (hf : fg_isF f) (hft : fg_rho R f 0 = some t) (hF : fg_FZ μ f T h Z hv lv o) (hz : fg_zok T h Z hv) (hQ : Q (some (.int (nI (fg_df (fg_secL Z.1 (T 2)).1 (fg_secL Z.1 (T 2)).2)))) (μ, fg_rho R, 304)) : fg_Ev E yy_Folk_secrets (d + 3) [.ref f] (μ, fg_rho R, 304) 304 Q := by
  have hb0 := hok.1
  have hb1 := hok.2.1
  have hp := hok.p
  have hq := Nat.two_pow_pos (T 0)
  have hfb := fF_b hf
  have hz9 := hz.1
  have loop : ∀ (n k a b : Nat), T 2 - k < n → k ≤ T 2 → a = (fg_secL Z.1 k).1 → b = (fg_secL Z.1 k).2 → fg_wp E yy_Folk_secrets (d + 3) 304 304 Q 6 [.ref f, .int (nI a), .int (nI b), .int (nI k)] [] (μ, fg_rho R, 304) := by
    intro n
    induction n with
    | zero => intro k a b h; exact absurd h (Nat.not_lt_zero _)
    | succ n ih =>
      intro k a b hn hk ha hb
      refine fg_iloadn (fg_ft (pc := 6) tb_Folk_secrets 6 rfl) rfl ?_
      refine fg_aloadn (fg_ft (pc := 7) tb_Folk_secrets 7 rfl) rfl ?_
      refine fg_getV (v := (nI (T 2))) (fg_ft (pc := 8) tb_Folk_secrets 8 rfl) ff_Folk_46 (fF_lay hf) rfl (fg_lt (fF_lay hf) (by decide)) hF.1 ?_
      refine fg_icmp_geN (tgt := 38) (fg_ft (pc := 11) tb_Folk_secrets 9 rfl) (by decide) (by omega) (by omega) (fun c11 => ?_) (fun c11 => ?_)
      · refine fg_iloadn (fg_ft (pc := 38) tb_Folk_secrets 26 rfl) rfl ?_
        refine fg_iloadn (fg_ft (pc := 39) tb_Folk_secrets 27 rfl) rfl ?_
        refine fg_iconst (fg_ft (pc := 40) tb_Folk_secrets 28 rfl) ic_m1 ?_
        refine fg_ixor (fg_ft (pc := 41) tb_Folk_secrets 29 rfl) ?_
        refine fg_iandD (fg_ft (pc := 42) tb_Folk_secrets 30 rfl) ?_
        exact fg_iret (fg_ft (pc := 43) tb_Folk_secrets 31 rfl) rfl rfl (by rw [ha, hb, show k = T 2 by omega]; exact hQ)
      · refine fg_iloadn (fg_ft (pc := 14) tb_Folk_secrets 10 rfl) rfl ?_
        refine fg_iloadn (fg_ft (pc := 15) tb_Folk_secrets 11 rfl) rfl ?_
        refine fg_aloadn (fg_ft (pc := 16) tb_Folk_secrets 12 rfl) rfl ?_
        refine fg_iloadn (fg_ft (pc := 17) tb_Folk_secrets 13 rfl) rfl ?_
        refine fg_callV (fg_ft (pc := 18) tb_Folk_secrets 14 rfl) cf_Folk_101 (fg_isOf (fF_lay hf) rfl (fg_lt (fF_lay hf) (by decide))) (as := [.int (nI k)]) (st := [.int (nI a), .int (nI b)]) rfl rfl (Nat.le_of_ble_eq_true rfl) (Nat.le_refl _) (Nat.le_refl _) (ev_Folk_mind ht hT hok hf hft hF hz (p := k) (by omega) ?_)
        refine fg_iandN (fg_ft (pc := 21) tb_Folk_secrets 15 rfl) ?_
        refine fg_iorN (fg_ft (pc := 22) tb_Folk_secrets 16 rfl) ?_
        refine fg_istoren (fg_ft (pc := 23) tb_Folk_secrets 17 rfl) (Nat.le_of_ble_eq_true rfl) ?_
        refine fg_iloadn (fg_ft (pc := 24) tb_Folk_secrets 18 rfl) rfl ?_
        refine fg_aloadn (fg_ft (pc := 25) tb_Folk_secrets 19 rfl) rfl ?_
        refine fg_iloadn (fg_ft (pc := 26) tb_Folk_secrets 20 rfl) rfl ?_
        refine fg_callV (fg_ft (pc := 27) tb_Folk_secrets 21 rfl) cf_Folk_101 (fg_isOf (fF_lay hf) rfl (fg_lt (fF_lay hf) (by decide))) (as := [.int (nI k)]) (st := [.int (nI a)]) rfl rfl (Nat.le_of_ble_eq_true rfl) (Nat.le_refl _) (Nat.le_refl _) (ev_Folk_mind ht hT hok hf hft hF hz (p := k) (by omega) ?_)
        refine fg_iorN (fg_ft (pc := 30) tb_Folk_secrets 22 rfl) ?_
        refine fg_istoren (fg_ft (pc := 31) tb_Folk_secrets 23 rfl) (Nat.le_of_ble_eq_true rfl) ?_
        refine fg_iincN (fg_ft (pc := 32) tb_Folk_secrets 24 rfl) rfl ic_1 rfl ?_
        refine fg_goto (tgt := 6) (fg_ft (pc := 35) tb_Folk_secrets 25 rfl) (by decide) ?_
        exact ih (k + 1) _ _ (by omega) (by omega) (by rw [ha]; rfl) (by rw [ha, hb]; rfl)
  refine fg_intro (by decide +kernel) (Nat.le_of_ble_eq_true rfl) (fg_okAs rfl) (Nat.le_refl _) ?_
  refine fg_iconst (fg_ft (pc := 0) tb_Folk_secrets 0 rfl) ic_0 ?_
  refine fg_istoren (fg_ft (pc := 1) tb_Folk_secrets 1 rfl) (Nat.le_of_ble_eq_true rfl) ?_
  refine fg_iconst (fg_ft (pc := 2) tb_Folk_secrets 2 rfl) ic_0 ?_
  refine fg_istoren (fg_ft (pc := 3) tb_Folk_secrets 3 rfl) (Nat.le_of_ble_eq_true rfl) ?_
  refine fg_iconst (fg_ft (pc := 4) tb_Folk_secrets 4 rfl) ic_0 ?_
  refine fg_istoren (fg_ft (pc := 5) tb_Folk_secrets 5 rfl) (Nat.le_of_ble_eq_true rfl) ?_
  exact loop (T 2 + 1) 0 0 0 (by omega) (by omega) rfl rfl
def fg_whoL (mv : Nat → Nat) (c : Nat) : Nat → Nat
  | 0 => 0
  | n + 1 => fg_whoL mv c n ||| (if (mv n).testBit c = true then 2 ^ n else 0)
theorem ev_Folk_whoHas {E : fg_E} {d : Nat} {μ : Nat → Nat → Int32} {R : fg_T4} {Q : Option Value → fg_M → Prop} {t : Nat} {T : Nat → Nat} (ht : fg_isT t) (hT : fg_TW μ t T) (hok : fg_ok T) {f h : Nat} {Z : fg_Z} {hv lv : Nat → Nat} {o : Option Nat × Nat × Nat} (hf : fg_isF f) (hft : fg_rho R f 0 = some t) (hF : fg_FZ μ f T h Z hv lv o) (hz : fg_zok T h Z hv) {c : Nat} (hc31 : c < 2 ^ 31) (hQ : Q (some (.int (nI (fg_whoL Z.1 c (T 2))))) (μ, fg_rho R, 304)) : fg_Ev E yy_Folk_whoHas (d + 3) [.ref f, .int (nI c)] (μ, fg_rho R, 304) 304 Q := by
  have hb0 := hok.1
  have hb1 := hok.2.1
  have hp := hok.p
  have hq := Nat.two_pow_pos (T 0)
  have hfb := fF_b hf
  have hz9 := hz.1
  have loop : ∀ (n k a : Nat), T 2 - k < n → k ≤ T 2 → a = fg_whoL Z.1 c k → fg_wp E yy_Folk_whoHas (d + 3) 304 304 Q 4 [.ref f, .int (nI c), .int (nI a), .int (nI k)] [] (μ, fg_rho R, 304) := by
    intro n
    induction n with
    | zero => intro k a h; exact absurd h (Nat.not_lt_zero _)
    | succ n ih =>
      intro k a hn hk ha
      refine fg_iloadn (fg_ft (pc := 4) tb_Folk_whoHas 4 rfl) rfl ?_
      refine fg_aloadn (fg_ft (pc := 5) tb_Folk_whoHas 5 rfl) rfl ?_
      refine fg_getV (v := (nI (T 2))) (fg_ft (pc := 6) tb_Folk_whoHas 6 rfl) ff_Folk_46 (fF_lay hf) rfl (fg_lt (fF_lay hf) (by decide)) hF.1 ?_
      refine fg_icmp_geN (tgt := 37) (fg_ft (pc := 9) tb_Folk_whoHas 7 rfl) (by decide) (by omega) (by omega) (fun c9 => ?_) (fun c9 => ?_)
      · refine fg_iloadn (fg_ft (pc := 37) tb_Folk_whoHas 23 rfl) rfl ?_
        exact fg_iret (fg_ft (pc := 38) tb_Folk_whoHas 24 rfl) rfl rfl (by rw [ha, show k = T 2 by omega]; exact hQ)
      · refine fg_iloadn (fg_ft (pc := 12) tb_Folk_whoHas 8 rfl) rfl ?_
        refine fg_aloadn (fg_ft (pc := 13) tb_Folk_whoHas 9 rfl) rfl ?_
        refine fg_iloadn (fg_ft (pc := 14) tb_Folk_whoHas 10 rfl) rfl ?_
        refine fg_iloadn (fg_ft (pc := 15) tb_Folk_whoHas 11 rfl) rfl ?_
        refine fg_callV (fg_ft (pc := 16) tb_Folk_whoHas 12 rfl) cf_Folk_110 (fg_isOf (fF_lay hf) rfl (fg_lt (fF_lay hf) (by decide))) (as := [.int (nI k), .int (nI c)]) (st := [.int (nI a)]) rfl rfl (Nat.le_of_ble_eq_true rfl) (Nat.le_refl _) (Nat.le_refl _) (ev_Folk_has ht hT hok hf hft hF hz (p := k) (k := c) (by omega) (hc31) ?_)
        refine fg_ifB_eq (tgt := 28) (fg_ft (pc := 19) tb_Folk_whoHas 13 rfl) (by decide) (fun c19 => ?_) (fun c19 => ?_)
        · refine fg_iconst (fg_ft (pc := 28) tb_Folk_whoHas 18 rfl) ic_0 ?_
          refine fg_iorN (fg_ft (pc := 29) tb_Folk_whoHas 19 rfl) ?_
          refine fg_istoren (fg_ft (pc := 30) tb_Folk_whoHas 20 rfl) (Nat.le_of_ble_eq_true rfl) ?_
          refine fg_iincN (fg_ft (pc := 31) tb_Folk_whoHas 21 rfl) rfl ic_1 rfl ?_
          refine fg_goto (tgt := 4) (fg_ft (pc := 34) tb_Folk_whoHas 22 rfl) (by decide) ?_
          exact ih (k + 1) _ (by omega) (by omega) (by rw [ha]; show _ = fg_whoL Z.1 c k ||| _; rw [if_neg (fun h => c19 ⟨by omega, h⟩)])
        · refine fg_iconst (fg_ft (pc := 22) tb_Folk_whoHas 14 rfl) ic_1 ?_
          refine fg_iloadn (fg_ft (pc := 23) tb_Folk_whoHas 15 rfl) rfl ?_
          refine fg_ishl1 (fg_ft (pc := 24) tb_Folk_whoHas 16 rfl) (by omega) ?_
          refine fg_goto (tgt := 29) (fg_ft (pc := 25) tb_Folk_whoHas 17 rfl) (by decide) ?_
          refine fg_iorN (fg_ft (pc := 29) tb_Folk_whoHas 19 rfl) ?_
          refine fg_istoren (fg_ft (pc := 30) tb_Folk_whoHas 20 rfl) (Nat.le_of_ble_eq_true rfl) ?_
          refine fg_iincN (fg_ft (pc := 31) tb_Folk_whoHas 21 rfl) rfl ic_1 rfl ?_
          refine fg_goto (tgt := 4) (fg_ft (pc := 34) tb_Folk_whoHas 22 rfl) (by decide) ?_
          exact ih (k + 1) _ (by omega) (by omega) (by rw [ha]; show _ = fg_whoL Z.1 c k ||| _; rw [if_pos c19.2])
  refine fg_intro (by decide +kernel) (Nat.le_of_ble_eq_true rfl) (fg_okAs rfl) (Nat.le_refl _) ?_
  refine fg_iconst (fg_ft (pc := 0) tb_Folk_whoHas 0 rfl) ic_0 ?_
  refine fg_istoren (fg_ft (pc := 1) tb_Folk_whoHas 1 rfl) (Nat.le_of_ble_eq_true rfl) ?_
  refine fg_iconst (fg_ft (pc := 2) tb_Folk_whoHas 2 rfl) ic_0 ?_
  refine fg_istoren (fg_ft (pc := 3) tb_Folk_whoHas 3 rfl) (Nat.le_of_ble_eq_true rfl) ?_
  exact loop (T 2 + 1) 0 0 (by omega) (by omega) rfl
def fg_lwL (mv : Nat → Nat) (p : Nat) (s : Nat) : Nat → Nat × Nat
  | 0 => (0, s)
  | n + 1 => if n ≠ p ∧ (fg_lwL mv p s n).2 &&& mv n ≠ 0 then ((fg_lwL mv p s n).1 ||| 2 ^ n, fg_df (fg_lwL mv p s n).2 (mv n)) else fg_lwL mv p s n
theorem ev_Folk_leastWhoHave {E : fg_E} {d : Nat} {μ : Nat → Nat → Int32} {R : fg_T4} {Q : Option Value → fg_M → Prop} {t : Nat} {T : Nat → Nat} (ht : fg_isT t) (hT : fg_TW μ t T) (hok : fg_ok T) {f h : Nat} {Z : fg_Z} {hv lv : Nat → Nat} {o : Option Nat × Nat × Nat} (hf : fg_isF f) (hft : fg_rho R f 0 = some t) (hF : fg_FZ μ f T h Z hv lv o) (hz : fg_zok T h Z hv) {p s : Nat} (hp31 : p < 2 ^ 31) (hQ : Q (some (.int (nI (fg_lwL Z.1 p s (T 2)).1))) (μ, fg_rho R, 304)) : fg_Ev E yy_Folk_leastWhoHave (d + 3) [.ref f, .int (nI s), .int (nI p)] (μ, fg_rho R, 304) 304 Q := by
  have hb0 := hok.1
  have hb1 := hok.2.1
  have hp := hok.p
  have hq := Nat.two_pow_pos (T 0)
  have hfb := fF_b hf
  have hz9 := hz.1
  have loop : ∀ (n k a b : Nat), T 2 - k < n → k ≤ T 2 → a = (fg_lwL Z.1 p s k).1 → b = (fg_lwL Z.1 p s k).2 → fg_wp E yy_Folk_leastWhoHave (d + 3) 304 304 Q 8 [.ref f, .int (nI s), .int (nI p), .int (nI a), .int (nI b), .int (nI k)] [] (μ, fg_rho R, 304) := by
    intro n
    induction n with
    | zero => intro k a b h; exact absurd h (Nat.not_lt_zero _)
    | succ n ih =>
      intro k a b hn hk ha hb
      refine fg_iload (fg_ft (pc := 8) tb_Folk_leastWhoHave 6 rfl) rfl ?_
      refine fg_aloadn (fg_ft (pc := 10) tb_Folk_leastWhoHave 7 rfl) rfl ?_
      refine fg_getV (v := (nI (T 2))) (fg_ft (pc := 11) tb_Folk_leastWhoHave 8 rfl) ff_Folk_46 (fF_lay hf) rfl (fg_lt (fF_lay hf) (by decide)) hF.1 ?_
      refine fg_icmp_geN (tgt := 61) (fg_ft (pc := 14) tb_Folk_leastWhoHave 9 rfl) (by decide) (by omega) (by omega) (fun c14 => ?_) (fun c14 => ?_)
      · refine fg_iloadn (fg_ft (pc := 61) tb_Folk_leastWhoHave 35 rfl) rfl ?_
        exact fg_iret (fg_ft (pc := 62) tb_Folk_leastWhoHave 36 rfl) rfl rfl (by rw [ha, show k = T 2 by omega]; exact hQ)
      · refine fg_iload (fg_ft (pc := 17) tb_Folk_leastWhoHave 10 rfl) rfl ?_
        refine fg_iloadn (fg_ft (pc := 19) tb_Folk_leastWhoHave 11 rfl) rfl ?_
        refine fg_icmp_eqN (tgt := 55) (fg_ft (pc := 20) tb_Folk_leastWhoHave 12 rfl) (by decide) (by omega) (hp31) (fun c20 => ?_) (fun c20 => ?_)
        · refine fg_iincN (fg_ft (pc := 55) tb_Folk_leastWhoHave 33 rfl) rfl ic_1 rfl ?_
          refine fg_goto (tgt := 8) (fg_ft (pc := 58) tb_Folk_leastWhoHave 34 rfl) (by decide) ?_
          exact ih (k + 1) _ _ (by omega) (by omega) (by simp only [fg_lwL]; rw [if_neg (fun h => by first | exact h.1 c20 | (rw [← hb] at h; exact h.2 c32)), ha]) (by simp only [fg_lwL]; rw [if_neg (fun h => by first | exact h.1 c20 | (rw [← hb] at h; exact h.2 c32)), hb])
        · refine fg_iload (fg_ft (pc := 23) tb_Folk_leastWhoHave 13 rfl) rfl ?_
          refine fg_aloadn (fg_ft (pc := 25) tb_Folk_leastWhoHave 14 rfl) rfl ?_
          refine fg_iload (fg_ft (pc := 26) tb_Folk_leastWhoHave 15 rfl) rfl ?_
          refine fg_callV (fg_ft (pc := 28) tb_Folk_leastWhoHave 16 rfl) cf_Folk_101 (fg_isOf (fF_lay hf) rfl (fg_lt (fF_lay hf) (by decide))) (as := [.int (nI k)]) (st := [.int (nI b)]) rfl rfl (Nat.le_of_ble_eq_true rfl) (Nat.le_refl _) (Nat.le_refl _) (ev_Folk_mind ht hT hok hf hft hF hz (p := k) (by omega) ?_)
          refine fg_iandN (fg_ft (pc := 31) tb_Folk_leastWhoHave 17 rfl) ?_
          refine fg_if_eqN (tgt := 55) (fg_ft (pc := 32) tb_Folk_leastWhoHave 18 rfl) (by decide) (Nat.lt_of_le_of_lt Nat.and_le_right (by have := (hz.2.1 k (by omega)).1; omega)) (fun c32 => ?_) (fun c32 => ?_)
          · refine fg_iincN (fg_ft (pc := 55) tb_Folk_leastWhoHave 33 rfl) rfl ic_1 rfl ?_
            refine fg_goto (tgt := 8) (fg_ft (pc := 58) tb_Folk_leastWhoHave 34 rfl) (by decide) ?_
            exact ih (k + 1) _ _ (by omega) (by omega) (by simp only [fg_lwL]; rw [if_neg (fun h => by first | exact h.1 c20 | (rw [← hb] at h; exact h.2 c32)), ha]) (by simp only [fg_lwL]; rw [if_neg (fun h => by first | exact h.1 c20 | (rw [← hb] at h; exact h.2 c32)), hb])
          · refine fg_iloadn (fg_ft (pc := 35) tb_Folk_leastWhoHave 19 rfl) rfl ?_
            refine fg_iconst (fg_ft (pc := 36) tb_Folk_leastWhoHave 20 rfl) ic_1 ?_
            refine fg_iload (fg_ft (pc := 37) tb_Folk_leastWhoHave 21 rfl) rfl ?_
            refine fg_ishl1 (fg_ft (pc := 39) tb_Folk_leastWhoHave 22 rfl) (by omega) ?_
            refine fg_iorN (fg_ft (pc := 40) tb_Folk_leastWhoHave 23 rfl) ?_
            refine fg_istoren (fg_ft (pc := 41) tb_Folk_leastWhoHave 24 rfl) (Nat.le_of_ble_eq_true rfl) ?_
            refine fg_iload (fg_ft (pc := 42) tb_Folk_leastWhoHave 25 rfl) rfl ?_
            refine fg_aloadn (fg_ft (pc := 44) tb_Folk_leastWhoHave 26 rfl) rfl ?_
            refine fg_iload (fg_ft (pc := 45) tb_Folk_leastWhoHave 27 rfl) rfl ?_
            refine fg_callV (fg_ft (pc := 47) tb_Folk_leastWhoHave 28 rfl) cf_Folk_101 (fg_isOf (fF_lay hf) rfl (fg_lt (fF_lay hf) (by decide))) (as := [.int (nI k)]) (st := [.int (nI b)]) rfl rfl (Nat.le_of_ble_eq_true rfl) (Nat.le_refl _) (Nat.le_refl _) (ev_Folk_mind ht hT hok hf hft hF hz (p := k) (by omega) ?_)
            refine fg_iconst (fg_ft (pc := 50) tb_Folk_leastWhoHave 29 rfl) ic_m1 ?_
            refine fg_ixor (fg_ft (pc := 51) tb_Folk_leastWhoHave 30 rfl) ?_
            refine fg_iandD (fg_ft (pc := 52) tb_Folk_leastWhoHave 31 rfl) ?_
            refine fg_istore (fg_ft (pc := 53) tb_Folk_leastWhoHave 32 rfl) (Nat.le_of_ble_eq_true rfl) ?_
            refine fg_iincN (fg_ft (pc := 55) tb_Folk_leastWhoHave 33 rfl) rfl ic_1 rfl ?_
            refine fg_goto (tgt := 8) (fg_ft (pc := 58) tb_Folk_leastWhoHave 34 rfl) (by decide) ?_
            exact ih (k + 1) _ _ (by omega) (by omega) (by simp only [fg_lwL]; rw [if_pos ⟨c20, by rw [← hb]; exact c32⟩, ha]) (by simp only [fg_lwL]; rw [if_pos ⟨c20, by rw [← hb]; exact c32⟩, hb])
  refine fg_intro (by decide +kernel) (Nat.le_of_ble_eq_true rfl) (fg_okAs rfl) (Nat.le_refl _) ?_
  refine fg_iconst (fg_ft (pc := 0) tb_Folk_leastWhoHave 0 rfl) ic_0 ?_
  refine fg_istoren (fg_ft (pc := 1) tb_Folk_leastWhoHave 1 rfl) (Nat.le_of_ble_eq_true rfl) ?_
  refine fg_iloadn (fg_ft (pc := 2) tb_Folk_leastWhoHave 2 rfl) rfl ?_
  refine fg_istore (fg_ft (pc := 3) tb_Folk_leastWhoHave 3 rfl) (Nat.le_of_ble_eq_true rfl) ?_
  refine fg_iconst (fg_ft (pc := 5) tb_Folk_leastWhoHave 4 rfl) ic_0 ?_
  refine fg_istore (fg_ft (pc := 6) tb_Folk_leastWhoHave 5 rfl) (Nat.le_of_ble_eq_true rfl) ?_
  exact loop (T 2 + 1) 0 0 s (by omega) (by omega) rfl rfl
def fg_mtc (T : Nat → Nat) (h : Nat) : Nat → Nat
  | 0 => 0
  | n + 1 => fg_mtc T h n ||| (if h < T (81 + 4 * n) then 2 ^ n else 0)
theorem ev_Folk_meetsToCome {E : fg_E} {d : Nat} {μ : Nat → Nat → Int32} {R : fg_T4} {Q : Option Value → fg_M → Prop} {t : Nat} {T : Nat → Nat} (ht : fg_isT t) (hT : fg_TW μ t T) (hok : fg_ok T) {f h : Nat} {Z : fg_Z} {hv lv : Nat → Nat} {o : Option Nat × Nat × Nat} (hf : fg_isF f) (hft : fg_rho R f 0 = some t) (hF : fg_FZ μ f T h Z hv lv o) (hz : fg_zok T h Z hv)  (hQ : Q (some (.int (nI (fg_mtc T h (T 4))))) (μ, fg_rho R, 304)) : fg_Ev E yy_Folk_meetsToCome (d + 2) [.ref f] (μ, fg_rho R, 304) 304 Q := by
  have hb0 := hok.1
  have hb1 := hok.2.1
  have hp := hok.p
  have hq := Nat.two_pow_pos (T 0)
  have hfb := fF_b hf
  have hz9 := hz.1
  have loop : ∀ (n k a : Nat), T 4 - k < n → k ≤ T 4 → a = fg_mtc T h k → fg_wp E yy_Folk_meetsToCome (d + 2) 304 304 Q 4 [.ref f, .int (nI a), .int (nI k)] [] (μ, fg_rho R, 304) := by
    intro n
    induction n with
    | zero => intro k a h; exact absurd h (Nat.not_lt_zero _)
    | succ n ih =>
      intro k a hn hk ha
      refine fg_aloadn (fg_ft (pc := 4) tb_Folk_meetsToCome 4 rfl) rfl ?_
      refine fg_getR (fg_ft (pc := 5) tb_Folk_meetsToCome 5 rfl) ff_Folk_9 (fF_lay hf) rfl (fg_lt (fF_lay hf) (by decide)) hft ?_
      refine fg_ifnull_r (fg_ft (pc := 8) tb_Folk_meetsToCome 6 rfl) ?_
      refine fg_iloadn (fg_ft (pc := 11) tb_Folk_meetsToCome 7 rfl) rfl ?_
      refine fg_aloadn (fg_ft (pc := 12) tb_Folk_meetsToCome 8 rfl) rfl ?_
      refine fg_getR (fg_ft (pc := 13) tb_Folk_meetsToCome 9 rfl) ff_Folk_9 (fF_lay hf) rfl (fg_lt (fF_lay hf) (by decide)) hft ?_
      refine fg_getR (fg_ft (pc := 16) tb_Folk_meetsToCome 10 rfl) ff_Folk_113 (tT_lay ht) rfl (fg_lt (tT_lay ht) (by decide)) (tT_r5 ht) ?_
      refine fg_getV (v := (nI (T 4))) (fg_ft (pc := 19) tb_Folk_meetsToCome 11 rfl) ff_Folk_35 ((tT_w5 (R := R) ht).1) rfl (fg_lt ((tT_w5 (R := R) ht).1) (by decide)) hT.2.2.2.2.1.2.1 ?_
      refine fg_icmp_geN (tgt := 56) (fg_ft (pc := 22) tb_Folk_meetsToCome 12 rfl) (by decide) (by omega) (by omega) (fun c22 => ?_) (fun c22 => ?_)
      · refine fg_iloadn (fg_ft (pc := 56) tb_Folk_meetsToCome 30 rfl) rfl ?_
        exact fg_iret (fg_ft (pc := 57) tb_Folk_meetsToCome 31 rfl) rfl rfl (by rw [ha, show k = T 4 by omega]; exact hQ)
      · refine fg_aloadn (fg_ft (pc := 25) tb_Folk_meetsToCome 13 rfl) rfl ?_
        refine fg_getR (fg_ft (pc := 26) tb_Folk_meetsToCome 14 rfl) ff_Folk_9 (fF_lay hf) rfl (fg_lt (fF_lay hf) (by decide)) hft ?_
        refine fg_getR (fg_ft (pc := 29) tb_Folk_meetsToCome 15 rfl) ff_Folk_113 (tT_lay ht) rfl (fg_lt (tT_lay ht) (by decide)) (tT_r5 ht) ?_
        refine fg_iloadn (fg_ft (pc := 32) tb_Folk_meetsToCome 16 rfl) rfl ?_
        refine fg_iconst (fg_ft (pc := 33) tb_Folk_meetsToCome 17 rfl) ic_2 ?_
        refine fg_callV (fg_ft (pc := 34) tb_Folk_meetsToCome 18 rfl) cf_Folk_84 (fg_isOf ((tT_w5 (R := R) ht).1) rfl (fg_lt ((tT_w5 (R := R) ht).1) (by decide))) (as := [.int (nI k), .int (nI 2)]) (st := []) rfl rfl (Nat.le_of_ble_eq_true rfl) (Nat.le_refl _) (Nat.le_refl _) (ev_Rows_cell (tT_w5 (R := R) ht) hT.2.2.2.2.1.1 hT.2.2.2.2.1.2.1 (by have := hok.2.1; omega) (by decide) (by have := hok.2.1; omega) (i := k) (j := 2) (by omega) (by decide) (hT.meet2 (by omega)) ?_)
        refine fg_aloadn (fg_ft (pc := 37) tb_Folk_meetsToCome 19 rfl) rfl ?_
        refine fg_getV (v := (nI h)) (fg_ft (pc := 38) tb_Folk_meetsToCome 20 rfl) ff_Folk_49 (fF_lay hf) rfl (fg_lt (fF_lay hf) (by decide)) hF.2.1 ?_
        refine fg_icmp_leN (tgt := 50) (fg_ft (pc := 41) tb_Folk_meetsToCome 21 rfl) (by decide) (by have := (hok.2.2.2.2.2.1 k (by omega)).2.2.1; omega) (by omega) (fun c41 => ?_) (fun c41 => ?_)
        · refine fg_iincN (fg_ft (pc := 50) tb_Folk_meetsToCome 28 rfl) rfl ic_1 rfl ?_
          refine fg_goto (tgt := 4) (fg_ft (pc := 53) tb_Folk_meetsToCome 29 rfl) (by decide) ?_
          exact ih (k + 1) _ (by omega) (by omega) (by rw [ha]; show _ = fg_mtc T h k ||| _; rw [if_neg (by omega), Nat.or_zero])
        · refine fg_iloadn (fg_ft (pc := 44) tb_Folk_meetsToCome 22 rfl) rfl ?_
          refine fg_iconst (fg_ft (pc := 45) tb_Folk_meetsToCome 23 rfl) ic_1 ?_
          refine fg_iloadn (fg_ft (pc := 46) tb_Folk_meetsToCome 24 rfl) rfl ?_
          refine fg_ishl1 (fg_ft (pc := 47) tb_Folk_meetsToCome 25 rfl) (by omega) ?_
          refine fg_iorN (fg_ft (pc := 48) tb_Folk_meetsToCome 26 rfl) ?_
          refine fg_istoren (fg_ft (pc := 49) tb_Folk_meetsToCome 27 rfl) (Nat.le_of_ble_eq_true rfl) ?_
          refine fg_iincN (fg_ft (pc := 50) tb_Folk_meetsToCome 28 rfl) rfl ic_1 rfl ?_
          refine fg_goto (tgt := 4) (fg_ft (pc := 53) tb_Folk_meetsToCome 29 rfl) (by decide) ?_
          exact ih (k + 1) _ (by omega) (by omega) (by rw [ha]; show _ = fg_mtc T h k ||| _; rw [if_pos c41])
  refine fg_intro (by decide +kernel) (Nat.le_of_ble_eq_true rfl) (fg_okAs rfl) (Nat.le_refl _) ?_
  refine fg_iconst (fg_ft (pc := 0) tb_Folk_meetsToCome 0 rfl) ic_0 ?_
  refine fg_istoren (fg_ft (pc := 1) tb_Folk_meetsToCome 1 rfl) (Nat.le_of_ble_eq_true rfl) ?_
  refine fg_iconst (fg_ft (pc := 2) tb_Folk_meetsToCome 2 rfl) ic_0 ?_
  refine fg_istoren (fg_ft (pc := 3) tb_Folk_meetsToCome 3 rfl) (Nat.le_of_ble_eq_true rfl) ?_
  exact loop (T 4 + 1) 0 0 (by omega) (by omega) rfl
