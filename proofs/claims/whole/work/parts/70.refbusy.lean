/-! the busy hours -/
def fg_bz (T : Nat → Nat) (h : Nat) (Z0 Z : fg_Z) : Prop := fg_ml T Z0.1 Z.1 ∧ ((Z.2.2.1 = Z0.2.2.1 ∧ ∀ p, p < T 2 → Z.1 p = Z0.1 p) ∨ (Z.2.2.1 = Z0.2.2.1 ||| 2 ^ h ∧ ∃ p, p < T 2 ∧ Z.1 p ≠ Z0.1 p))
theorem fg_bz_rf (T : Nat → Nat) (h : Nat) (Z : fg_Z) : fg_bz T h Z Z := ⟨fg_ml_rf _ _, Or.inl ⟨rfl, fun _ _ => rfl⟩⟩
theorem fg_or_id (a b : Nat) : a ||| b ||| b = a ||| b := fg_or_eq (fg_le_or2 a b)
theorem fg_bz_lz {T : Nat → Nat} (hok : fg_ok T) {h p s : Nat} {Z0 Z : fg_Z} {x y : Nat} {hv : Nat → Nat} (H : fg_zok T h Z hv) (hp : p < T 2) (hs : s < 2 ^ T 0) (hb : fg_bz T h Z0 Z) : fg_bz T h Z0 (fg_lz T h p s (Z.1, x, Z.2.2.1, y)) := by
  have H' : fg_zok T h (Z.1, x, Z.2.2.1, y) hv := fg_zok.news H
  have hgr : fg_ml T Z.1 (fg_lz T h p s (Z.1, x, Z.2.2.1, y)).1 := fg_lz_gr hok H' hp hs
  refine ⟨fg_ml_tr hb.1 hgr, ?_⟩
  unfold fg_lz at hgr ⊢
  by_cases c : fg_df s (Z.1 p) = 0
  · rw [if_pos c]; exact hb.2
  · rw [if_neg c]
    rw [if_neg c] at hgr
    right
    have hgrow : fg_clo T (Z.1 p ||| s) ≠ Z0.1 p := by
      intro e
      refine c (fg_df0.mpr (fun i hi => ?_))
      have h1 : fg_le (Z.1 p ||| s) (fg_clo T (Z.1 p ||| s)) := (fg_clo_is hok (fg_or_lt (H.2.1 p hp).1 hs)).1
      have h2 := h1 i (fg_le_or2 _ _ i hi)
      rw [e] at h2
      exact hb.1 p hp i h2
    refine ⟨?_, p, hp, ?_⟩
    · show Z.2.2.1 ||| 2 ^ h = _
      rcases hb.2 with ⟨b1, _⟩ | ⟨b1, _⟩
      · rw [b1]
      · rw [b1, fg_or_id]
    · show fg_up1 Z.1 p _ p ≠ _
      rw [fg_up1_eq]; exact hgrow
theorem fg_bz_sz {T : Nat → Nat} (hok : fg_ok T) {h p : Nat} {Z0 Z : fg_Z} {hv : Nat → Nat} (H : fg_zok T h Z hv) (hp : p < T 2) (hb : fg_bz T h Z0 Z) : ∀ n, n ≤ T 3 → fg_bz T h Z0 (fg_sz T h p Z n) := by
  intro n
  induction n with
  | zero => intro _; exact hb
  | succ n ih =>
    intro hn
    have im := ih (by omega)
    simp only [fg_sz]
    split
    · exact fg_bz_lz hok (fg_zok.sz hok H hp n (by omega)) hp (Nat.pow_lt_pow_right (by decide) (hok.2.2.2.2.1 n (by omega)).2) im
    · exact im
theorem fg_bz_mz {T : Nat → Nat} (hok : fg_ok T) {h sh : Nat} {Z0 Z : fg_Z} {hv : Nat → Nat} (H : fg_zok T h Z hv) (hb : fg_bz T h Z0 Z) : ∀ n, n ≤ T 4 → fg_bz T h Z0 (fg_mz T h sh Z n) := by
  intro n
  induction n with
  | zero => intro _; exact hb
  | succ n ih =>
    intro hn
    have im := ih (by omega)
    obtain ⟨g1, g2, g3, g4⟩ := hok.2.2.2.2.2.1 n (by omega)
    simp only [fg_mz]
    split
    · exact fg_bz_lz hok (fg_zok.mz hok H n (by omega)) g2 (Nat.pow_lt_pow_right (by decide) g4) im
    · exact im
theorem fg_bz_oz {T : Nat → Nat} (hok : fg_ok T) {h : Nat} {o : Option Nat × Nat × Nat} {Z0 Z : fg_Z} {hv : Nat → Nat} (H : fg_zok T h Z hv) (hb : fg_bz T h Z0 Z) : ∀ n, n ≤ T 2 → fg_bz T h Z0 (fg_oz T h o Z n) := by
  intro n
  induction n with
  | zero => intro _; exact hb
  | succ n ih =>
    intro hn
    have im := ih (by omega)
    simp only [fg_oz]
    by_cases hc : (fg_df (T (42 + 3 * n)) (if nI n = fg_o o.1 then o.2.1 else 0)).testBit h = true
    · rw [if_pos hc]; exact fg_bz_sz hok (fg_zok.oz hok H n (by omega)) (by omega) im _ (Nat.le_refl _)
    · rw [if_neg hc]; exact im
theorem fg_bz_hz {T : Nat → Nat} (hok : fg_ok T) {Z0 Z : fg_Z} {hv : Nat → Nat} (H : fg_zok T 9 Z hv) (hb : fg_bz T 9 Z0 Z) : ∀ n, n ≤ T 2 → fg_bz T 9 Z0 (fg_hz T hv Z n) := by
  intro n
  induction n with
  | zero => intro _; exact hb
  | succ n ih =>
    intro hn
    exact fg_bz_lz hok (fg_zok.hz hok H n (by omega)) (by omega) (H.2.2 n (by omega)) (ih (by omega))
theorem fg_ph_bz {T : Nat → Nat} (hok : fg_ok T) {o : Option Nat × Nat × Nat} {S : fg_H3} (H : fg_zs T S) (h9 : S.1 < 9) : fg_bz T (S.1 + 1) S.2.1 (fg_ph T o S).2.1 := by
  have H1 : fg_zok T (S.1 + 1) S.2.1 S.2.2 := ⟨by omega, H.2⟩
  have q1 := fg_bz_mz hok (sh := o.2.2) (fg_zok.oz hok H1 (o := o) _ (Nat.le_refl _)) (fg_bz_oz hok H1 (fg_bz_rf T (S.1 + 1) S.2.1) (o := o) _ (Nat.le_refl _)) _ (Nat.le_refl _)
  rw [fg_ph9 h9]
  by_cases e : S.1 + 1 = 9
  · show fg_bz T (S.1 + 1) S.2.1 (if S.1 + 1 = 9 then _ else _)
    rw [if_pos e]
    have q2 := fg_zok.mz hok (sh := o.2.2) (fg_zok.oz hok H1 (o := o) _ (Nat.le_refl _)) _ (Nat.le_refl _)
    have q3 : fg_zok T 9 (fg_Zm T o (S.1 + 1) S.2.1) S.2.2 := ⟨Nat.le_refl _, q2.2⟩
    have q4 : fg_bz T 9 S.2.1 (fg_Zm T o (S.1 + 1) S.2.1) := by rw [← e]; exact q1
    have q5 := fg_bz_hz hok q3 q4 _ (Nat.le_refl (T 2))
    rw [e] at q5 ⊢
    exact q5
  · show fg_bz T (S.1 + 1) S.2.1 (if S.1 + 1 = 9 then _ else _)
    rw [if_neg e]
    exact q1
theorem fg_pc_ne {a b : Nat} (h : fg_le a b) (hb : b < 4096) : fg_pc a < fg_pc b ↔ a ≠ b := ⟨fun g e => by rw [e] at g; exact absurd g (Nat.lt_irrefl _), fun g => fg_pc_lt2 h hb g⟩
def fg_agK (μ μ' : Nat → Nat → Int32) : Prop := ∀ a, a ≠ 300 → a ≠ 301 → ∀ j, μ' a j = μ a j
theorem fg_agR_K {μ μ' : Nat → Nat → Int32} (h : fg_agK μ μ') : fg_agR μ μ' := ⟨fun a ha j => h a (by omega) (by omega) j, h 287 (by decide) (by decide) 17, h 287 (by decide) (by decide) 19⟩
theorem fg_MS.agK {μ μ' : Nat → Nat → Int32} {T : Nat → Nat} {S : fg_H3} {lv : Nat → Nat} {o : Option Nat × Nat × Nat} {n0 y : Int32} (H : fg_MS μ T S lv o n0 y) (e : fg_agK μ μ') : fg_MS μ' T S lv o n0 y := by
  obtain ⟨h1, h2, h3, h4, h5, h6, h7, h8, h9⟩ := H
  have e7 := e 287 (by decide) (by decide)
  exact ⟨(e7 _).trans h1, fun q hq => (e 292 (by decide) (by decide) _).trans (h2 q hq), fun q hq => (e 293 (by decide) (by decide) _).trans (h3 q hq), fun q hq => (e 294 (by decide) (by decide) _).trans (h4 q hq), (e7 _).trans h5, (e7 _).trans h6, (e7 _).trans h7, h8.elim Or.inl (fun z => Or.inr ((e7 _).trans z)), (e7 _).trans h9⟩
theorem ev_Mo_keepsState {E : fg_E} {d : Nat} {μ : Nat → Nat → Int32} {R : fg_T4} {Q : Option Value → fg_M → Prop} {v : Nat} {T : Nat → Nat} (hM : fg_MT (μ 288) v T) (hok : fg_ok T) {n0 y : Int32} {o : Option Nat × Nat × Nat} {h : Nat} {Z : fg_Z} {hv lv : Nat → Nat} (hS : fg_MS μ T (h, Z, hv) lv o n0 y) (hz : fg_zok T h Z hv) (hQ : ∀ μ' : Nat → Nat → Int32, fg_agK μ μ' → (∀ p, p < T 2 → μ' 300 p = nI (Z.1 p)) → (∀ p, p < T 2 → μ' 301 p = nI (hv p)) → Q none (μ', fg_rho R, 304)) : fg_Ev E yy_Mo_keepsState (d + 1) [.ref 287, .int (nI v)] (μ, fg_rho R, 304) 304 Q := by
  have hv0 := hM.1
  have hb0 := hok.1
  have hb1 := hok.2.1
  have hp := hok.p
  have hq := Nat.two_pow_pos (T 0)
  have loop : ∀ (m p : Nat) (ν : Nat → Nat → Int32), T 2 - p < m → p ≤ T 2 → fg_agK μ ν → (∀ q, q < p → ν 300 q = nI (Z.1 q)) → (∀ q, q < p → ν 301 q = nI (hv q)) → fg_wp E yy_Mo_keepsState (d + 1) 304 304 Q 2 [.ref 287, .int (nI v), .int (nI p)] [] (ν, fg_rho R, 304) := by
    intro m
    induction m with
    | zero => intro p ν h; exact absurd h (Nat.not_lt_zero _)
    | succ m ih =>
      intro p ν hm hp2 hag k1 k2
      have hMn := hM.ag (hag 288 (by decide) (by decide))
      have hSn := hS.agK hag
      refine fg_iloadn (fg_ft (pc := 2) tb_Mo_keepsState 2 rfl) rfl ?_
      refine fg_aloadn (fg_ft (pc := 3) tb_Mo_keepsState 3 rfl) rfl ?_
      refine fg_getR (fg_ft (pc := 4) tb_Mo_keepsState 4 rfl) ff_Mo_7 ly_287 rfl (fg_lt ly_287 (by decide)) (rh_287_0 R) ?_
      refine fg_iloadn (fg_ft (pc := 7) tb_Mo_keepsState 5 rfl) rfl ?_
      refine fg_iconst (fg_ft (pc := 8) tb_Mo_keepsState 6 rfl) ic_2 ?_
      refine fg_iaddN (fg_ft (pc := 9) tb_Mo_keepsState 7 rfl) ?_
      refine fg_ialdV (v := (nI (T 2))) (fg_ft (pc := 10) tb_Mo_keepsState 8 rfl) ly_288 (fg_lt ly_288 (by decide)) (by omega) (fg_MTat hMn (i := v + 2) (k := 2) (by omega) (by omega)) ?_
      refine fg_icmp_geN (tgt := 44) (fg_ft (pc := 11) tb_Mo_keepsState 9 rfl) (by decide) (by omega) (by omega) (fun c11 => ?_) (fun c11 => ?_)
      · exact fg_vret (fg_ft (pc := 44) tb_Mo_keepsState 28 rfl) rfl rfl (hQ ν hag (fun q hq => k1 q (by omega)) (fun q hq => k2 q (by omega)))
      · refine fg_aloadn (fg_ft (pc := 14) tb_Mo_keepsState 10 rfl) rfl ?_
        refine fg_getR (fg_ft (pc := 15) tb_Mo_keepsState 11 rfl) ff_Mo_51 ly_287 rfl (fg_lt ly_287 (by decide)) (rh_287_27 R) ?_
        refine fg_iloadn (fg_ft (pc := 18) tb_Mo_keepsState 12 rfl) rfl ?_
        refine fg_aloadn (fg_ft (pc := 19) tb_Mo_keepsState 13 rfl) rfl ?_
        refine fg_getR (fg_ft (pc := 20) tb_Mo_keepsState 14 rfl) ff_Mo_23 ly_287 rfl (fg_lt ly_287 (by decide)) (rh_287_12 R) ?_
        refine fg_iloadn (fg_ft (pc := 23) tb_Mo_keepsState 15 rfl) rfl ?_
        refine fg_ialdV (v := (nI (Z.1 p))) (fg_ft (pc := 24) tb_Mo_keepsState 16 rfl) ly_292 (fg_lt ly_292 (by decide)) (by omega) (hSn.2.1 _ (by omega)) ?_
        refine fg_iastN (fg_ft (pc := 25) tb_Mo_keepsState 17 rfl) ly_300 (fg_lt ly_300 (by decide)) (by omega) ?_
        show fg_wp _ _ _ _ _ _ _ _ _ (fg_u2 ν 300 p (nI (Z.1 p)), fg_rho R, 304)
        refine fg_aloadn (fg_ft (pc := 26) tb_Mo_keepsState 18 rfl) rfl ?_
        refine fg_getR (fg_ft (pc := 27) tb_Mo_keepsState 19 rfl) ff_Mo_54 ly_287 rfl (fg_lt ly_287 (by decide)) (rh_287_28 R) ?_
        refine fg_iloadn (fg_ft (pc := 30) tb_Mo_keepsState 20 rfl) rfl ?_
        refine fg_aloadn (fg_ft (pc := 31) tb_Mo_keepsState 21 rfl) rfl ?_
        refine fg_getR (fg_ft (pc := 32) tb_Mo_keepsState 22 rfl) ff_Mo_26 ly_287 rfl (fg_lt ly_287 (by decide)) (rh_287_13 R) ?_
        refine fg_iloadn (fg_ft (pc := 35) tb_Mo_keepsState 23 rfl) rfl ?_
        refine fg_ialdV (v := (nI (hv p))) (fg_ft (pc := 36) tb_Mo_keepsState 24 rfl) ly_293 (fg_lt ly_293 (by decide)) (by omega) ((fg_u2ne (f := ν) (a := 300) (k := p) (b := 293) (j := p) (x := (nI (Z.1 p))) (by decide)).trans (hSn.2.2.1 _ (by omega))) ?_
        refine fg_iastN (fg_ft (pc := 37) tb_Mo_keepsState 25 rfl) ly_301 (fg_lt ly_301 (by decide)) (by omega) ?_
        show fg_wp _ _ _ _ _ _ _ _ _ (fg_u2 (fg_u2 ν 300 p (nI (Z.1 p))) 301 p (nI (hv p)), fg_rho R, 304)
        refine fg_iincN (fg_ft (pc := 38) tb_Mo_keepsState 26 rfl) rfl ic_1 rfl ?_
        refine fg_goto (tgt := 2) (fg_ft (pc := 41) tb_Mo_keepsState 27 rfl) (by decide) ?_
        refine ih (p + 1) _ (by omega) (by omega) (fun a h1 h2 j => (fg_u2ne h2).trans ((fg_u2ne h1).trans (hag a h1 h2 j))) (fun q hq => ?_) (fun q hq => ?_)
        · refine (fg_u2ne (by decide)).trans ?_
          rcases Nat.decEq q p with z | z
          · exact (fg_u2ns z).trans (k1 q (by omega))
          · rw [z]; exact fg_u2eq
        · rcases Nat.decEq q p with z | z
          · exact (fg_u2ns z).trans ((fg_u2ne (by decide)).trans (k2 q (by omega)))
          · rw [z]; exact fg_u2eq
  refine fg_intro (by decide +kernel) (Nat.le_of_ble_eq_true rfl) (fg_okAs rfl) (Nat.le_refl _) ?_
  refine fg_iconst (fg_ft (pc := 0) tb_Mo_keepsState 0 rfl) ic_0 ?_
  refine fg_istoren (fg_ft (pc := 1) tb_Mo_keepsState 1 rfl) (Nat.le_of_ble_eq_true rfl) ?_
  exact loop (T 2 + 1) 0 μ (by omega) (by omega) (fun _ _ _ _ => rfl) (fun q hq => absurd hq (Nat.not_lt_zero _)) (fun q hq => absurd hq (Nat.not_lt_zero _))
theorem ev_Mo_asItWas {E : fg_E} {d : Nat} {μ : Nat → Nat → Int32} {R : fg_T4} {Q : Option Value → fg_M → Prop} {v : Nat} {T : Nat → Nat} (hM : fg_MT (μ 288) v T) (hok : fg_ok T) {h : Nat} {M hv lv : Nat → Nat} (h300 : ∀ p, p < T 2 → μ 300 p = nI (M p)) (h301 : ∀ p, p < T 2 → μ 301 p = nI (hv p)) (h294 : ∀ p, p < T 2 → μ 294 p = nI (lv p)) (hQ : ∀ μ' : Nat → Nat → Int32, fg_agP μ μ' → μ' 287 15 = nI h → (∀ p, p < T 2 → μ' 292 p = nI (M p)) → (∀ p, p < T 2 → μ' 293 p = nI (hv p)) → (∀ p, p < T 2 → μ' 294 p = nI (lv p)) → Q none (μ', fg_rho R, 304)) : fg_Ev E yy_Mo_asItWas (d + 1) [.ref 287, .int (nI v), .int (nI h)] (μ, fg_rho R, 304) 304 Q := by
  have hv0 := hM.1
  have hb0 := hok.1
  have hb1 := hok.2.1
  have hp := hok.p
  have hq := Nat.two_pow_pos (T 0)
  have loop : ∀ (m p : Nat) (ν : Nat → Nat → Int32), T 2 - p < m → p ≤ T 2 → fg_agP μ ν → ν 287 15 = nI h → (∀ q, q < p → ν 292 q = nI (M q)) → (∀ q, q < p → ν 293 q = nI (hv q)) → (∀ q, q < T 2 → ν 294 q = nI (lv q)) → fg_wp E yy_Mo_asItWas (d + 1) 304 304 Q 7 [.ref 287, .int (nI v), .int (nI h), .int (nI p)] [] (ν, fg_rho R, 304) := by
    intro m
    induction m with
    | zero => intro p ν h; exact absurd h (Nat.not_lt_zero _)
    | succ m ih =>
      intro p ν hm hp2 hag k0 k1 k2 k3
      have hMn := hM.agP hag
      refine fg_iloadn (fg_ft (pc := 7) tb_Mo_asItWas 5 rfl) rfl ?_
      refine fg_aloadn (fg_ft (pc := 8) tb_Mo_asItWas 6 rfl) rfl ?_
      refine fg_getR (fg_ft (pc := 9) tb_Mo_asItWas 7 rfl) ff_Mo_7 ly_287 rfl (fg_lt ly_287 (by decide)) (rh_287_0 R) ?_
      refine fg_iloadn (fg_ft (pc := 12) tb_Mo_asItWas 8 rfl) rfl ?_
      refine fg_iconst (fg_ft (pc := 13) tb_Mo_asItWas 9 rfl) ic_2 ?_
      refine fg_iaddN (fg_ft (pc := 14) tb_Mo_asItWas 10 rfl) ?_
      refine fg_ialdV (v := (nI (T 2))) (fg_ft (pc := 15) tb_Mo_asItWas 11 rfl) ly_288 (fg_lt ly_288 (by decide)) (by omega) (fg_MTat hMn (i := v + 2) (k := 2) (by omega) (by omega)) ?_
      refine fg_icmp_geN (tgt := 49) (fg_ft (pc := 16) tb_Mo_asItWas 12 rfl) (by decide) (by omega) (by omega) (fun c16 => ?_) (fun c16 => ?_)
      · exact fg_vret (fg_ft (pc := 49) tb_Mo_asItWas 31 rfl) rfl rfl (hQ ν hag k0 (fun q hq => k1 q (by omega)) (fun q hq => k2 q (by omega)) k3)
      · refine fg_aloadn (fg_ft (pc := 19) tb_Mo_asItWas 13 rfl) rfl ?_
        refine fg_getR (fg_ft (pc := 20) tb_Mo_asItWas 14 rfl) ff_Mo_23 ly_287 rfl (fg_lt ly_287 (by decide)) (rh_287_12 R) ?_
        refine fg_iloadn (fg_ft (pc := 23) tb_Mo_asItWas 15 rfl) rfl ?_
        refine fg_aloadn (fg_ft (pc := 24) tb_Mo_asItWas 16 rfl) rfl ?_
        refine fg_getR (fg_ft (pc := 25) tb_Mo_asItWas 17 rfl) ff_Mo_51 ly_287 rfl (fg_lt ly_287 (by decide)) (rh_287_27 R) ?_
        refine fg_iloadn (fg_ft (pc := 28) tb_Mo_asItWas 18 rfl) rfl ?_
        refine fg_ialdV (v := (nI (M p))) (fg_ft (pc := 29) tb_Mo_asItWas 19 rfl) ly_300 (fg_lt ly_300 (by decide)) (by omega) ((hag.1 300 (by decide) (by decide) (by decide) (by decide) _).trans (h300 _ (by omega))) ?_
        refine fg_iastN (fg_ft (pc := 30) tb_Mo_asItWas 20 rfl) ly_292 (fg_lt ly_292 (by decide)) (by omega) ?_
        show fg_wp _ _ _ _ _ _ _ _ _ (fg_u2 ν 292 p (nI (M p)), fg_rho R, 304)
        refine fg_aloadn (fg_ft (pc := 31) tb_Mo_asItWas 21 rfl) rfl ?_
        refine fg_getR (fg_ft (pc := 32) tb_Mo_asItWas 22 rfl) ff_Mo_26 ly_287 rfl (fg_lt ly_287 (by decide)) (rh_287_13 R) ?_
        refine fg_iloadn (fg_ft (pc := 35) tb_Mo_asItWas 23 rfl) rfl ?_
        refine fg_aloadn (fg_ft (pc := 36) tb_Mo_asItWas 24 rfl) rfl ?_
        refine fg_getR (fg_ft (pc := 37) tb_Mo_asItWas 25 rfl) ff_Mo_54 ly_287 rfl (fg_lt ly_287 (by decide)) (rh_287_28 R) ?_
        refine fg_iloadn (fg_ft (pc := 40) tb_Mo_asItWas 26 rfl) rfl ?_
        refine fg_ialdV (v := (nI (hv p))) (fg_ft (pc := 41) tb_Mo_asItWas 27 rfl) ly_301 (fg_lt ly_301 (by decide)) (by omega) ((fg_u2ne (f := ν) (a := 292) (k := p) (b := 301) (j := p) (x := (nI (M p))) (by decide)).trans ((hag.1 301 (by decide) (by decide) (by decide) (by decide) _).trans (h301 _ (by omega)))) ?_
        refine fg_iastN (fg_ft (pc := 42) tb_Mo_asItWas 28 rfl) ly_293 (fg_lt ly_293 (by decide)) (by omega) ?_
        show fg_wp _ _ _ _ _ _ _ _ _ (fg_u2 (fg_u2 ν 292 p (nI (M p))) 293 p (nI (hv p)), fg_rho R, 304)
        refine fg_iincN (fg_ft (pc := 43) tb_Mo_asItWas 29 rfl) rfl ic_1 rfl ?_
        refine fg_goto (tgt := 7) (fg_ft (pc := 46) tb_Mo_asItWas 30 rfl) (by decide) ?_
        refine ih (p + 1) _ (by omega) (by omega) (fg_agP_tr hag (fg_agP_tr (fg_agP_u (Or.inl rfl)) (fg_agP_u (Or.inr (Or.inl rfl))))) ((fg_u2ne (by decide)).trans ((fg_u2ne (by decide)).trans k0)) (fun q hq => ?_) (fun q hq => ?_) (fun q hq => (fg_u2ne (by decide)).trans ((fg_u2ne (by decide)).trans (k3 q hq)))
        · refine (fg_u2ne (by decide)).trans ?_
          rcases Nat.decEq q p with z | z
          · exact (fg_u2ns z).trans (k1 q (by omega))
          · rw [z]; exact fg_u2eq
        · rcases Nat.decEq q p with z | z
          · exact (fg_u2ns z).trans ((fg_u2ne (by decide)).trans (k2 q (by omega)))
          · rw [z]; exact fg_u2eq
  refine fg_intro (by decide +kernel) (Nat.le_of_ble_eq_true rfl) (fg_okAs rfl) (Nat.le_refl _) ?_
  refine fg_aloadn (fg_ft (pc := 0) tb_Mo_asItWas 0 rfl) rfl ?_
  refine fg_iloadn (fg_ft (pc := 1) tb_Mo_asItWas 1 rfl) rfl ?_
  refine fg_putI (fg_ft (pc := 2) tb_Mo_asItWas 2 rfl) ff_Mo_200 ly_287 rfl (fg_lt ly_287 (by decide)) (fg_nokI _) (fun _ _ h => by cases h; rfl) ?_
  show fg_wp _ _ _ _ _ _ _ _ _ (fg_u2 μ 287 15 (nI h), fg_rho R, 304)
  refine fg_iconst (fg_ft (pc := 5) tb_Mo_asItWas 3 rfl) ic_0 ?_
  refine fg_istoren (fg_ft (pc := 6) tb_Mo_asItWas 4 rfl) (Nat.le_of_ble_eq_true rfl) ?_
  exact loop (T 2 + 1) 0 _ (by omega) (by omega) (fg_agP_u (Or.inr (Or.inr (Or.inr ⟨rfl, Or.inl rfl⟩)))) fg_u2eq (fun q hq => absurd hq (Nat.not_lt_zero _)) (fun q hq => absurd hq (Nat.not_lt_zero _)) (fun q hq => (fg_u2ne (by decide)).trans (h294 q hq))
theorem fg_bz_b {T : Nat → Nat} {h : Nat} {Z0 Z : fg_Z} (hb : fg_bz T h Z0 Z) : Z.2.2.1 = Z0.2.2.1 ||| (fg_ifP (∃ p, p < T 2 ∧ Z.1 p ≠ Z0.1 p) (2 ^ h) 0) := by
  rcases hb.2 with ⟨b1, b2⟩ | ⟨b1, b2⟩
  · rw [fg_ifF (fun ⟨p, h1, h2⟩ => h2 (b2 p h1)), Nat.or_zero, b1]
  · rw [fg_ifT b2, b1]
def fg_agX2 (μ μ' : Nat → Nat → Int32) : Prop := (∀ a, (a < 287 ∨ (287 < a ∧ a < 292)) → ∀ j, μ' a j = μ a j) ∧ ∀ j, (j = 17 ∨ j = 18 ∨ j = 19) → μ' 287 j = μ 287 j
theorem fg_agX2_rf (μ : Nat → Nat → Int32) : fg_agX2 μ μ := ⟨fun _ _ _ => rfl, fun _ _ => rfl⟩
theorem fg_agX2_tr {μ μ' μ'' : Nat → Nat → Int32} (h1 : fg_agX2 μ μ') (h2 : fg_agX2 μ' μ'') : fg_agX2 μ μ'' := ⟨fun a ha j => (h2.1 a ha j).trans (h1.1 a ha j), fun j hj => (h2.2 j hj).trans (h1.2 j hj)⟩
theorem fg_agX2_P {μ μ' : Nat → Nat → Int32} (h : fg_agP μ μ') : fg_agX2 μ μ' := ⟨fun a ha j => h.1 a (by omega) (by omega) (by omega) (by omega) j, fun j hj => h.2 j (by omega) (by omega) (by omega)⟩
theorem fg_agX2_K {μ μ' : Nat → Nat → Int32} (h : fg_agK μ μ') : fg_agX2 μ μ' := ⟨fun a ha j => h a (by omega) (by omega) j, fun j hj => h 287 (by decide) (by decide) j⟩
theorem fg_agR_X2 {μ μ' : Nat → Nat → Int32} (h : fg_agX2 μ μ') : fg_agR μ μ' := ⟨fun a ha j => h.1 a (by omega) j, h.2 17 (Or.inl rfl), h.2 19 (Or.inr (Or.inr rfl))⟩
theorem ev_Mo_busy {E : fg_E} {d : Nat} {μ : Nat → Nat → Int32} {R : fg_T4} {Q : Option Value → fg_M → Prop} {v : Nat} {T : Nat → Nat} (hM : fg_MT (μ 288) v T) (hok : fg_ok T) (hC : fg_MC μ T) {n0 y : Int32} {h : Nat} {Z : fg_Z} {hv lv : Nat → Nat} (hS : fg_MS μ T (h, Z, hv) lv ((none : Option Nat), 0, 0) n0 y) (hz : fg_zok T h Z hv) (hb0b : Z.2.2.1 = 0) (hQ : ∀ μ' : Nat → Nat → Int32, fg_agX2 μ μ' → Q (some (.int (nI (fg_pn T (none, 0, 0) (9 - h) (h, Z, hv)).2.1.2.2.1))) (μ', fg_rho R, 304)) : fg_Ev E yy_Mo_busy (d + 5) [.ref 287, .int (nI v)] (μ, fg_rho R, 304) 304 Q := by
  have hv0 := hM.1
  have hb0 := hok.1
  have hb1 := hok.2.1
  have hp := hok.p
  have hq := Nat.two_pow_pos (T 0)
  have inner : ∀ (S : fg_H3) (μk : Nat → Nat → Int32) (B : Nat), fg_zs T S → S.1 < 9 → fg_MT (μk 288) v T → fg_MS μk T (fg_ph T (none, 0, 0) S) lv ((none : Option Nat), 0, 0) n0 y → (∀ p, p < T 2 → μk 300 p = nI (S.2.1.1 p)) → (∀ v3 : Value, fg_wp E yy_Mo_busy (d + 5) 304 304 Q 2 [.ref 287, .int (nI v), .int (nI (B ||| (fg_ifP (∃ q, q < T 2 ∧ (fg_ph T (none, 0, 0) S).2.1.1 q ≠ S.2.1.1 q) (2 ^ (S.1 + 1)) 0))), v3] [] (μk, fg_rho R, 304)) → ∀ (m p b : Nat), T 2 - p < m → p ≤ T 2 → b = B ||| (fg_ifP (∃ q, q < p ∧ (fg_ph T (none, 0, 0) S).2.1.1 q ≠ S.2.1.1 q) (2 ^ (S.1 + 1)) 0) → fg_wp E yy_Mo_busy (d + 5) 304 304 Q 23 [.ref 287, .int (nI v), .int (nI b), .int (nI p)] [] (μk, fg_rho R, 304) := by
    intro S μk B hzS h9 hMk hSk h3 hk m
    have hzk := fg_zok.ph hok (o := (none, 0, 0)) hzS
    have hkh := fg_ph_h (T := T) (o := (none, 0, 0)) h9
    have hgrw := fg_ph_gr hok (o := (none, 0, 0)) hzS
    induction m with
    | zero => intro p b h; exact absurd h (Nat.not_lt_zero _)
    | succ m ih =>
      intro p b hm hp2 hb
      refine fg_iloadn (fg_ft (pc := 23) tb_Mo_busy 14 rfl) rfl ?_
      refine fg_aloadn (fg_ft (pc := 24) tb_Mo_busy 15 rfl) rfl ?_
      refine fg_getR (fg_ft (pc := 25) tb_Mo_busy 16 rfl) ff_Mo_7 ly_287 rfl (fg_lt ly_287 (by decide)) (rh_287_0 R) ?_
      refine fg_iloadn (fg_ft (pc := 28) tb_Mo_busy 17 rfl) rfl ?_
      refine fg_iconst (fg_ft (pc := 29) tb_Mo_busy 18 rfl) ic_2 ?_
      refine fg_iaddN (fg_ft (pc := 30) tb_Mo_busy 19 rfl) ?_
      refine fg_ialdV (v := (nI (T 2))) (fg_ft (pc := 31) tb_Mo_busy 20 rfl) ly_288 (fg_lt ly_288 (by decide)) (by omega) (fg_MTat hMk (i := v + 2) (k := 2) (by omega) (by omega)) ?_
      refine fg_icmp_geN (tgt := 75) (fg_ft (pc := 32) tb_Mo_busy 21 rfl) (by decide) (by omega) (by omega) (fun c32 => ?_) (fun c32 => ?_)
      · refine fg_goto (tgt := 2) (fg_ft (pc := 75) tb_Mo_busy 44 rfl) (by decide) ?_
        have q9 := hk (.int (nI p))
        rw [show T 2 = p by omega, ← hb] at q9
        exact q9
      · have hmp := hzk.2.1 p (by omega)
        have hmq := hzS.2.1 p (by omega)
        have hmp1 := hmp.1
        have hmq1 := hmq.1
        refine fg_iloadn (fg_ft (pc := 35) tb_Mo_busy 22 rfl) rfl ?_
        refine fg_aloadn (fg_ft (pc := 36) tb_Mo_busy 23 rfl) rfl ?_
        refine fg_getR (fg_ft (pc := 37) tb_Mo_busy 24 rfl) ff_Mo_23 ly_287 rfl (fg_lt ly_287 (by decide)) (rh_287_12 R) ?_
        refine fg_iloadn (fg_ft (pc := 40) tb_Mo_busy 25 rfl) rfl ?_
        refine fg_ialdV (v := (nI ((fg_ph T (none, 0, 0) S).2.1.1 p))) (fg_ft (pc := 41) tb_Mo_busy 26 rfl) ly_292 (fg_lt ly_292 (by decide)) (by omega) (hSk.2.1 _ (by omega)) ?_
        refine fg_callS (fg_ft (pc := 42) tb_Mo_busy 27 rfl) cf_Mo_185 (as := [.int (nI ((fg_ph T (none, 0, 0) S).2.1.1 p))]) (st := [.int (nI b)]) rfl rfl (Nat.le_of_ble_eq_true rfl) (Nat.le_refl _) (Nat.le_refl _) (ev_Mo_many (s := ((fg_ph T (none, 0, 0) S).2.1.1 p)) (by omega) ?_)
        refine fg_aloadn (fg_ft (pc := 45) tb_Mo_busy 28 rfl) rfl ?_
        refine fg_getR (fg_ft (pc := 46) tb_Mo_busy 29 rfl) ff_Mo_51 ly_287 rfl (fg_lt ly_287 (by decide)) (rh_287_27 R) ?_
        refine fg_iloadn (fg_ft (pc := 49) tb_Mo_busy 30 rfl) rfl ?_
        refine fg_ialdV (v := (nI (S.2.1.1 p))) (fg_ft (pc := 50) tb_Mo_busy 31 rfl) ly_300 (fg_lt ly_300 (by decide)) (by omega) (h3 _ (by omega)) ?_
        refine fg_callS (fg_ft (pc := 51) tb_Mo_busy 32 rfl) cf_Mo_185 (as := [.int (nI (S.2.1.1 p))]) (st := [.int (nI (fg_pc ((fg_ph T (none, 0, 0) S).2.1.1 p))), .int (nI b)]) rfl rfl (Nat.le_of_ble_eq_true rfl) (Nat.le_refl _) (Nat.le_refl _) (ev_Mo_many (s := (S.2.1.1 p)) (by omega) ?_)
        refine fg_icmp_leN (tgt := 66) (fg_ft (pc := 54) tb_Mo_busy 33 rfl) (by decide) (by have := fg_pc_le ((fg_ph T (none, 0, 0) S).2.1.1 p); omega) (by have := fg_pc_le (S.2.1.1 p); omega) (fun c54 => ?_) (fun c54 => ?_)
        · refine fg_iconst (fg_ft (pc := 66) tb_Mo_busy 39 rfl) ic_0 ?_
          refine fg_iorN (fg_ft (pc := 67) tb_Mo_busy 40 rfl) ?_
          refine fg_istoren (fg_ft (pc := 68) tb_Mo_busy 41 rfl) (Nat.le_of_ble_eq_true rfl) ?_
          refine fg_iincN (fg_ft (pc := 69) tb_Mo_busy 42 rfl) rfl ic_1 rfl ?_
          refine fg_goto (tgt := 23) (fg_ft (pc := 72) tb_Mo_busy 43 rfl) (by decide) ?_
          exact ih (p + 1) _ (by omega) (by omega) (by
            rw [Nat.or_zero, hb]
            have epq : (fg_ph T (none, 0, 0) S).2.1.1 p = S.2.1.1 p := by
              refine Classical.byContradiction (fun hh => ?_)
              have := fg_pc_lt2 (hgrw p (by omega)) (by omega) (fun ee => hh ee.symm)
              omega
            congr 2
            exact propext ⟨fun ⟨q, h1, h2⟩ => ⟨q, by omega, h2⟩, fun ⟨q, h1, h2⟩ => ⟨q, by
              rcases Nat.decEq q p with z | z
              · omega
              · subst z; exact absurd epq h2, h2⟩⟩)
        · refine fg_iconst (fg_ft (pc := 57) tb_Mo_busy 34 rfl) ic_1 ?_
          refine fg_aloadn (fg_ft (pc := 58) tb_Mo_busy 35 rfl) rfl ?_
          refine fg_getV (v := (nI ((fg_ph T (none, 0, 0) S).1))) (fg_ft (pc := 59) tb_Mo_busy 36 rfl) ff_Mo_200 ly_287 rfl (fg_lt ly_287 (by decide)) hSk.1 ?_
          refine fg_ishl1 (fg_ft (pc := 62) tb_Mo_busy 37 rfl) (by omega) ?_
          refine fg_goto (tgt := 67) (fg_ft (pc := 63) tb_Mo_busy 38 rfl) (by decide) ?_
          refine fg_iorN (fg_ft (pc := 67) tb_Mo_busy 40 rfl) ?_
          refine fg_istoren (fg_ft (pc := 68) tb_Mo_busy 41 rfl) (Nat.le_of_ble_eq_true rfl) ?_
          refine fg_iincN (fg_ft (pc := 69) tb_Mo_busy 42 rfl) rfl ic_1 rfl ?_
          refine fg_goto (tgt := 23) (fg_ft (pc := 72) tb_Mo_busy 43 rfl) (by decide) ?_
          exact ih (p + 1) _ (by omega) (by omega) (by
            rw [hb, hkh]
            rw [fg_ifT (⟨p, by omega, fun ee => by rw [ee] at c54; exact absurd c54 (Nat.lt_irrefl _)⟩ : ∃ q, q < p + 1 ∧ (fg_ph T (none, 0, 0) S).2.1.1 q ≠ S.2.1.1 q)]
            rcases Classical.em (∃ q, q < p ∧ (fg_ph T (none, 0, 0) S).2.1.1 q ≠ S.2.1.1 q) with g | g
            · rw [fg_ifT g, fg_or_id]
            · rw [fg_ifF g, Nat.or_zero])
  have outer : ∀ (m B : Nat) (S : fg_H3) (ν : Nat → Nat → Int32) (v3 : Value), 9 - S.1 < m → fg_zs T S → fg_agX2 μ ν → fg_MS ν T S lv ((none : Option Nat), 0, 0) n0 y → B = S.2.1.2.2.1 → fg_pn T (none, 0, 0) (9 - S.1) S = fg_pn T (none, 0, 0) (9 - h) (h, Z, hv) → fg_wp E yy_Mo_busy (d + 5) 304 304 Q 2 [.ref 287, .int (nI v), .int (nI B), v3] [] (ν, fg_rho R, 304) := by
    intro m
    induction m with
    | zero => intro B S ν v3 h; exact absurd h (Nat.not_lt_zero _)
    | succ m ih =>
      intro B S ν v3 hm hzS hag hSn hB he
      have hMn := hM.ag (hag.1 288 (by decide))
      have hCn := hC.ag (hag.1 291 (by decide))
      have hz9 := hzS.1
      refine fg_aloadn (fg_ft (pc := 2) tb_Mo_busy 2 rfl) rfl ?_
      refine fg_getV (v := (nI (S.1))) (fg_ft (pc := 3) tb_Mo_busy 3 rfl) ff_Mo_200 ly_287 rfl (fg_lt ly_287 (by decide)) hSn.1 ?_
      refine fg_bipush (fg_ft (pc := 6) tb_Mo_busy 4 rfl) ib_9 ?_
      refine fg_icmp_geN (tgt := 78) (fg_ft (pc := 8) tb_Mo_busy 5 rfl) (by decide) (by omega) (by decide) (fun c8 => ?_) (fun c8 => ?_)
      · refine fg_iloadn (fg_ft (pc := 78) tb_Mo_busy 45 rfl) rfl ?_
        exact fg_iret (fg_ft (pc := 79) tb_Mo_busy 46 rfl) rfl rfl (by have q9 := hQ ν hag; rw [← he, show 9 - S.1 = 0 by omega] at q9; rw [hB]; exact q9)
      · refine fg_aloadn (fg_ft (pc := 11) tb_Mo_busy 6 rfl) rfl ?_
        refine fg_iloadn (fg_ft (pc := 12) tb_Mo_busy 7 rfl) rfl ?_
        refine fg_callV (fg_ft (pc := 13) tb_Mo_busy 8 rfl) cf_Mo_288 (fg_isOf ly_287 rfl (fg_lt ly_287 (by decide))) (as := [.int (nI v)]) (st := []) rfl rfl (Nat.le_of_ble_eq_true rfl) (Nat.le_refl _) (Nat.le_refl _) (ev_Mo_keepsState hMn hok (h := S.1) (Z := S.2.1) (hv := S.2.2) (lv := lv) (o := ((none : Option Nat), 0, 0)) (n0 := n0) (y := y) hSn hzS ?_)
        intro μ1 hk1 h300 h301
        have hM1 := hMn.ag (hk1 288 (by decide) (by decide))
        have hC1 := hCn.ag (hk1 291 (by decide) (by decide))
        have hS1 := hSn.agK hk1
        show fg_wp _ _ _ _ _ _ _ _ _ (μ1, fg_rho R, 304)
        refine fg_aloadn (fg_ft (pc := 16) tb_Mo_busy 9 rfl) rfl ?_
        refine fg_iloadn (fg_ft (pc := 17) tb_Mo_busy 10 rfl) rfl ?_
        refine fg_callV (fg_ft (pc := 18) tb_Mo_busy 11 rfl) cf_Mo_227 (fg_isOf ly_287 rfl (fg_lt ly_287 (by decide))) (as := [.int (nI v)]) (st := []) rfl rfl (Nat.le_of_ble_eq_true rfl) (Nat.le_refl _) (Nat.le_refl _) (ev_Mo_passHour hM1 hok hC1 (h := S.1) (Z := S.2.1) (hv := S.2.2) (lv := lv) (o := ((none : Option Nat), 0, 0)) (n0 := n0) (y := y) hS1 hzS (fun q hq => by cases hq) (by decide) (by decide) (by omega) ?_)
        intro μ2 hag2 hS2
        have h3k : ∀ p, p < T 2 → μ2 300 p = nI (S.2.1.1 p) := fun p hp => (hag2.1 300 (by decide) (by decide) (by decide) (by decide) _).trans (h300 p hp)
        have hM2 := hM1.agP hag2
        show fg_wp _ _ _ _ _ _ _ _ _ (μ2, fg_rho R, 304)
        refine fg_iconst (fg_ft (pc := 21) tb_Mo_busy 12 rfl) ic_0 ?_
        refine fg_istoren (fg_ft (pc := 22) tb_Mo_busy 13 rfl) (Nat.le_of_ble_eq_true rfl) ?_
        exact inner S μ2 B hzS (by omega) hM2 hS2 h3k (fun v3' => ih _ (fg_ph T (none, 0, 0) S) μ2 v3' (by rw [fg_ph_h (by omega)]; omega) (fg_zok.ph hok hzS) (fg_agX2_tr hag (fg_agX2_tr (fg_agX2_K hk1) (fg_agX2_P hag2))) hS2 (by rw [hB]; exact (fg_bz_b (fg_ph_bz hok hzS (by omega))).symm) (by rw [fg_pn_9 (by omega)]; exact he)) (T 2 + 1) 0 B (by omega) (by omega) (by rw [fg_ifF (fun ⟨q, h1, _⟩ => absurd h1 (Nat.not_lt_zero _)), Nat.or_zero])
  refine fg_intro (by decide +kernel) (Nat.le_of_ble_eq_true rfl) (fg_okAs rfl) (Nat.le_refl _) ?_
  refine fg_iconst (fg_ft (pc := 0) tb_Mo_busy 0 rfl) ic_0 ?_
  refine fg_istoren (fg_ft (pc := 1) tb_Mo_busy 1 rfl) (Nat.le_of_ble_eq_true rfl) ?_
  exact outer 10 0 (h, Z, hv) μ _ (by show 9 - h < 10; omega) hz (fg_agX2_rf μ) hS hb0b.symm rfl
