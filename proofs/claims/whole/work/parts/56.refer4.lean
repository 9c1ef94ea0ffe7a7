/-! a state of the reference -/
def fg_MS (μ : Nat → Nat → Int32) (T : Nat → Nat) (S : fg_H3) (lv : Nat → Nat) (o : Option Nat × Nat × Nat) (n0 y : Int32) : Prop := μ 287 15 = nI S.1 ∧ (∀ p, p < T 2 → μ 292 p = nI (S.2.1.1 p)) ∧ (∀ p, p < T 2 → μ 293 p = nI (S.2.2 p)) ∧ (∀ p, p < T 2 → μ 294 p = nI (lv p)) ∧ μ 287 16 = n0 + nI S.2.1.2.1 ∧ μ 287 20 = y ||| nI S.2.1.2.2.2 ∧ (μ 287 17 = fg_o o.1 ∧ (o.1 = none ∨ μ 287 18 = nI o.2.1) ∧ μ 287 19 = nI o.2.2)
def fg_agP (μ μ' : Nat → Nat → Int32) : Prop := (∀ a, a ≠ 287 → a ≠ 292 → a ≠ 293 → a ≠ 294 → ∀ j, μ' a j = μ a j) ∧ ∀ j, j ≠ 15 → j ≠ 16 → j ≠ 20 → μ' 287 j = μ 287 j
theorem fg_agP_rf (μ : Nat → Nat → Int32) : fg_agP μ μ := ⟨fun _ _ _ _ _ _ => rfl, fun _ _ _ _ => rfl⟩
theorem fg_agP_tr {μ μ' μ'' : Nat → Nat → Int32} (h1 : fg_agP μ μ') (h2 : fg_agP μ' μ'') : fg_agP μ μ'' := ⟨fun a a1 a2 a3 a4 j => (h2.1 a a1 a2 a3 a4 j).trans (h1.1 a a1 a2 a3 a4 j), fun j j1 j2 j3 => (h2.2 j j1 j2 j3).trans (h1.2 j j1 j2 j3)⟩
theorem fg_agP_u {μ : Nat → Nat → Int32} {a k : Nat} {x : Int32} (h : a = 292 ∨ a = 293 ∨ a = 294 ∨ (a = 287 ∧ (k = 15 ∨ k = 16 ∨ k = 20))) : fg_agP μ (fg_u2 μ a k x) := ⟨fun b b1 b2 b3 b4 j => fg_u2ne (by omega), fun j j1 j2 j3 => fg_u2nx (by omega)⟩
theorem fg_MT.agP {μ μ' : Nat → Nat → Int32} {v : Nat} {T : Nat → Nat} (h : fg_MT (μ 288) v T) (e : fg_agP μ μ') : fg_MT (μ' 288) v T := h.ag (e.1 288 (by decide) (by decide) (by decide) (by decide))
theorem fg_MC.agP {μ μ' : Nat → Nat → Int32} {T : Nat → Nat} (h : fg_MC μ T) (e : fg_agP μ μ') : fg_MC μ' T := fun s hs => (e.1 291 (by decide) (by decide) (by decide) (by decide) s).trans (h s hs)
theorem fg_km {T : Nat → Nat} (hok : fg_ok T) {h : Nat} {Z : fg_Z} {hv : Nat → Nat} (H : fg_zok T h Z hv) {p : Nat} (hp : p < T 2) : Z.1 p < 2 ^ 31 ∧ p < 5 := by
  have h1 := (H.2.1 p hp).1
  have h2 := hok.p
  have h3 := hok.2.1.2.1
  omega
theorem fg_nw1 (x : Int32) (a : Nat) : x + nI a + nI 1 = x + nI (a + 1) := by rw [Int32.add_assoc, nI_add]
theorem fg_nw0 (x : Int32) (a : Nat) : x + nI a + nI 0 = x + nI a := by rw [Int32.add_assoc, nI_add]; rfl
theorem fg_hd (y : Int32) (a b : Nat) : y ||| nI a ||| nI b = y ||| nI (a ||| b) := by rw [Int32.or_assoc, nI_or]
/-- learning a fact, counted if it is new -/
noncomputable def fg_lr (T : Nat → Nat) (h p f : Nat) (Z : fg_Z) : fg_Z := if (Z.1 p).testBit f = true then Z else fg_lz T h p (2 ^ f) (Z.1, Z.2.1 + 1, Z.2.2.1, Z.2.2.2)
theorem fg_lr_m {T : Nat → Nat} {h p f : Nat} {Z : fg_Z} (hc : fg_clsd T (Z.1 p)) : (fg_lr T h p f Z).1 = fg_up1 Z.1 p (fg_clo T (Z.1 p ||| 2 ^ f)) := by
  unfold fg_lr
  by_cases b : (Z.1 p).testBit f = true
  · rw [if_pos b, fg_or_eq (fg_bit_le.mpr b), fg_clo_cl hc, fg_up1_id rfl]
  · rw [if_neg b]
    exact fg_lz_val (Z := (Z.1, Z.2.1 + 1, Z.2.2.1, Z.2.2.2)) hc
theorem fg_lz_n {T : Nat → Nat} {h p s : Nat} {Z : fg_Z} : (fg_lz T h p s Z).2.1 = Z.2.1 ∧ (fg_lz T h p s Z).2.2.2 = Z.2.2.2 := by
  unfold fg_lz
  split
  · exact ⟨rfl, rfl⟩
  · exact ⟨rfl, rfl⟩
theorem fg_lr_n {T : Nat → Nat} {h p f : Nat} {Z : fg_Z} : (fg_lr T h p f Z).2.1 = (if (Z.1 p).testBit f = true then Z.2.1 else Z.2.1 + 1) ∧ (fg_lr T h p f Z).2.2.2 = Z.2.2.2 := by
  unfold fg_lr
  by_cases b : (Z.1 p).testBit f = true
  · rw [if_pos b, if_pos b]; exact ⟨rfl, rfl⟩
  · rw [if_neg b, if_neg b]; exact fg_lz_n
theorem fg_zok.lr {T : Nat → Nat} (hok : fg_ok T) {h p f : Nat} {Z : fg_Z} {hv : Nat → Nat} (H : fg_zok T h Z hv) (hp : p < T 2) (hf : f < T 0) : fg_zok T h (fg_lr T h p f Z) hv := by
  unfold fg_lr
  split
  · exact H
  · exact fg_zok.lz hok (fg_zok.news H) hp (Nat.pow_lt_pow_right (by decide) hf)
theorem fg_MS.minds {μ : Nat → Nat → Int32} {T : Nat → Nat} {S : fg_H3} {lv : Nat → Nat} {o : Option Nat × Nat × Nat} {n0 y : Int32} (H : fg_MS μ T S lv o n0 y) {p m : Nat} : fg_MS (fg_u2 μ 292 p (nI m)) T (S.1, (fg_up1 S.2.1.1 p m, S.2.1.2), S.2.2) lv o n0 y := by
  obtain ⟨h1, h2, h3, h4, h5, h6, h7, h8, h9⟩ := H
  have e : ∀ j, fg_u2 μ 292 p (nI m) 287 j = μ 287 j := fun j => fg_u2ne (by decide)
  refine ⟨(e _).trans h1, fun q hq => ?_, fun q hq => (fg_u2ne (by decide)).trans (h3 q hq), fun q hq => (fg_u2ne (by decide)).trans (h4 q hq), (e _).trans h5, (e _).trans h6, (e _).trans h7, h8.elim Or.inl (fun z => Or.inr ((e _).trans z)), (e _).trans h9⟩
  show fg_u2 μ 292 p (nI m) 292 q = nI (fg_up1 S.2.1.1 p m q)
  rcases Nat.decEq q p with z | z
  · rw [fg_up1_ne z]; exact (fg_u2ns z).trans (h2 q hq)
  · rw [z, fg_up1_eq]; exact fg_u2eq
theorem fg_MS.halves {μ : Nat → Nat → Int32} {T : Nat → Nat} {S : fg_H3} {lv : Nat → Nat} {o : Option Nat × Nat × Nat} {n0 y : Int32} (H : fg_MS μ T S lv o n0 y) {p m : Nat} : fg_MS (fg_u2 μ 293 p (nI m)) T (S.1, S.2.1, fg_up1 S.2.2 p m) lv o n0 y := by
  obtain ⟨h1, h2, h3, h4, h5, h6, h7, h8, h9⟩ := H
  have e : ∀ j, fg_u2 μ 293 p (nI m) 287 j = μ 287 j := fun j => fg_u2ne (by decide)
  refine ⟨(e _).trans h1, fun q hq => (fg_u2ne (by decide)).trans (h2 q hq), fun q hq => ?_, fun q hq => (fg_u2ne (by decide)).trans (h4 q hq), (e _).trans h5, (e _).trans h6, (e _).trans h7, h8.elim Or.inl (fun z => Or.inr ((e _).trans z)), (e _).trans h9⟩
  show fg_u2 μ 293 p (nI m) 293 q = nI (fg_up1 S.2.2 p m q)
  rcases Nat.decEq q p with z | z
  · rw [fg_up1_ne z]; exact (fg_u2ns z).trans (h3 q hq)
  · rw [z, fg_up1_eq]; exact fg_u2eq
theorem fg_MS.loaves {μ : Nat → Nat → Int32} {T : Nat → Nat} {S : fg_H3} {lv : Nat → Nat} {o : Option Nat × Nat × Nat} {n0 y : Int32} (H : fg_MS μ T S lv o n0 y) {p m : Nat} : fg_MS (fg_u2 μ 294 p (nI m)) T S (fg_up1 lv p m) o n0 y := by
  obtain ⟨h1, h2, h3, h4, h5, h6, h7, h8, h9⟩ := H
  have e : ∀ j, fg_u2 μ 294 p (nI m) 287 j = μ 287 j := fun j => fg_u2ne (by decide)
  refine ⟨(e _).trans h1, fun q hq => (fg_u2ne (by decide)).trans (h2 q hq), fun q hq => (fg_u2ne (by decide)).trans (h3 q hq), fun q hq => ?_, (e _).trans h5, (e _).trans h6, (e _).trans h7, h8.elim Or.inl (fun z => Or.inr ((e _).trans z)), (e _).trans h9⟩
  show fg_u2 μ 294 p (nI m) 294 q = nI (fg_up1 lv p m q)
  rcases Nat.decEq q p with z | z
  · rw [fg_up1_ne z]; exact (fg_u2ns z).trans (h4 q hq)
  · rw [z, fg_up1_eq]; exact fg_u2eq
theorem fg_MS.slot {μ : Nat → Nat → Int32} {T : Nat → Nat} {S : fg_H3} {lv : Nat → Nat} {o : Option Nat × Nat × Nat} {n0 y : Int32} (H : fg_MS μ T S lv o n0 y) {k : Nat} {x : Int32} {S' : fg_H3} (e1 : S'.2.1.1 = S.2.1.1) (e2 : S'.2.2 = S.2.2) (hk : (k = 15 ∧ x = nI S'.1 ∧ S'.2.1.2.1 = S.2.1.2.1 ∧ S'.2.1.2.2.2 = S.2.1.2.2.2) ∨ (k = 16 ∧ S'.1 = S.1 ∧ x = n0 + nI S'.2.1.2.1 ∧ S'.2.1.2.2.2 = S.2.1.2.2.2) ∨ (k = 20 ∧ S'.1 = S.1 ∧ S'.2.1.2.1 = S.2.1.2.1 ∧ x = y ||| nI S'.2.1.2.2.2)) : fg_MS (fg_u2 μ 287 k x) T S' lv o n0 y := by
  obtain ⟨h1, h2, h3, h4, h5, h6, h7, h8, h9⟩ := H
  have e : ∀ j, j ≠ k → fg_u2 μ 287 k x 287 j = μ 287 j := fun j hj => fg_u2ns hj
  have ea : ∀ a j, a ≠ 287 → fg_u2 μ 287 k x a j = μ a j := fun a j ha => fg_u2ne ha
  refine ⟨?_, fun q hq => (ea _ _ (by decide)).trans (by rw [e1]; exact h2 q hq), fun q hq => (ea _ _ (by decide)).trans (by rw [e2]; exact h3 q hq), fun q hq => (ea _ _ (by decide)).trans (h4 q hq), ?_, ?_, ?_⟩
  · rcases hk with ⟨rfl, a, b, c⟩ | ⟨rfl, a, b, c⟩ | ⟨rfl, a, b, c⟩
    · rw [a]; exact fg_u2eq
    · rw [a]; exact (e _ (by decide)).trans h1
    · rw [a]; exact (e _ (by decide)).trans h1
  · rcases hk with ⟨rfl, a, b, c⟩ | ⟨rfl, a, b, c⟩ | ⟨rfl, a, b, c⟩
    · rw [b]; exact (e _ (by decide)).trans h5
    · rw [b]; exact fg_u2eq
    · rw [b]; exact (e _ (by decide)).trans h5
  · rcases hk with ⟨rfl, a, b, c⟩ | ⟨rfl, a, b, c⟩ | ⟨rfl, a, b, c⟩
    · rw [c]; exact (e _ (by decide)).trans h6
    · rw [c]; exact (e _ (by decide)).trans h6
    · rw [c]; exact fg_u2eq
  · have hk2 : k = 15 ∨ k = 16 ∨ k = 20 := by rcases hk with ⟨a, _⟩ | ⟨a, _⟩ | ⟨a, _⟩ <;> omega
    exact ⟨(e _ (by omega)).trans h7, h8.elim Or.inl (fun z => Or.inr ((e _ (by omega)).trans z)), (e _ (by omega)).trans h9⟩
theorem fg_MS.cg {μ : Nat → Nat → Int32} {T : Nat → Nat} {S S' : fg_H3} {lv : Nat → Nat} {o : Option Nat × Nat × Nat} {n0 y : Int32} (H : fg_MS μ T S lv o n0 y) (e1 : S'.1 = S.1) (e2 : S'.2.1.1 = S.2.1.1) (e3 : S'.2.2 = S.2.2) (e4 : S'.2.1.2.1 = S.2.1.2.1) (e5 : S'.2.1.2.2.2 = S.2.1.2.2.2) : fg_MS μ T S' lv o n0 y := by
  obtain ⟨h1, h2, h3, h4, h5, h6, h7⟩ := H
  exact ⟨by rw [e1]; exact h1, fun p hp => by rw [e2]; exact h2 p hp, fun p hp => by rw [e3]; exact h3 p hp, h4, by rw [e4]; exact h5, by rw [e5]; exact h6, h7⟩
theorem fg_MS.learn {μ : Nat → Nat → Int32} {T : Nat → Nat} {h p f : Nat} {Z : fg_Z} {hv lv : Nat → Nat} {o : Option Nat × Nat × Nat} {n0 y : Int32} (H : fg_MS μ T (h, Z, hv) lv o n0 y) (hc : fg_clsd T (Z.1 p)) {x : Int32} (hx : x = n0 + nI (fg_lr T h p f Z).2.1) : fg_MS (fg_u2 (fg_u2 μ 287 16 x) 292 p (nI (fg_clo T (Z.1 p ||| 2 ^ f)))) T (h, fg_lr T h p f Z, hv) lv o n0 y := by
  have q1 : fg_MS (fg_u2 μ 287 16 x) T (h, (Z.1, (fg_lr T h p f Z).2.1, Z.2.2.1, Z.2.2.2), hv) lv o n0 y := fg_MS.slot H rfl rfl (Or.inr (Or.inl ⟨rfl, rfl, hx, rfl⟩))
  exact fg_MS.cg (fg_MS.minds q1) rfl (fg_lr_m hc) rfl rfl fg_lr_n.2
theorem ev_Mo_learn {E : fg_E} {d : Nat} {μ : Nat → Nat → Int32} {R : fg_T4} {Q : Option Value → fg_M → Prop} {v : Nat} {T : Nat → Nat} (hM : fg_MT (μ 288) v T) (hok : fg_ok T) (hC : fg_MC μ T) {n0 y : Int32} {o : Option Nat × Nat × Nat} {h : Nat} {Z : fg_Z} {hv lv : Nat → Nat} (hS : fg_MS μ T (h, Z, hv) lv o n0 y) (hz : fg_zok T h Z hv) {p f : Nat} (hpT : p < T 2) (hfT : f < T 0) (hQ : ∀ μ' : Nat → Nat → Int32, fg_agP μ μ' → fg_MS μ' T (h, fg_lr T h p f Z, hv) lv o n0 y → Q none (μ', fg_rho R, 304))  : fg_Ev E yy_Mo_learn (d + 3) [.ref 287, .int (nI v), .int (nI p), .int (nI f)] (μ, fg_rho R, 304) 304 Q := by
  have hv0 := hM.1
  have hb0 := hok.1
  have hb1 := hok.2.1
  have hp := hok.p
  have hq := Nat.two_pow_pos (T 0)
  refine fg_intro (by decide +kernel) (Nat.le_of_ble_eq_true rfl) (fg_okAs rfl) (Nat.le_refl _) ?_
  refine fg_aloadn (fg_ft (pc := 0) tb_Mo_learn 0 rfl) rfl ?_
  refine fg_dup (fg_ft (pc := 1) tb_Mo_learn 1 rfl) rfl ?_
  refine fg_getV (v := (n0 + nI Z.2.1)) (fg_ft (pc := 2) tb_Mo_learn 2 rfl) ff_Mo_209 ly_287 rfl (fg_lt ly_287 (by decide)) hS.2.2.2.2.1 ?_
  refine fg_aloadn (fg_ft (pc := 5) tb_Mo_learn 3 rfl) rfl ?_
  refine fg_iloadn (fg_ft (pc := 6) tb_Mo_learn 4 rfl) rfl ?_
  refine fg_iloadn (fg_ft (pc := 7) tb_Mo_learn 5 rfl) rfl ?_
  refine fg_callV (fg_ft (pc := 8) tb_Mo_learn 6 rfl) cf_Mo_212 (fg_isOf ly_287 rfl (fg_lt ly_287 (by decide))) (as := [.int (nI p), .int (nI f)]) (st := [.int (n0 + nI Z.2.1), .ref 287]) rfl rfl (Nat.le_of_ble_eq_true rfl) (Nat.le_refl _) (Nat.le_refl _) (ev_Mo_knows (Mv := Z.1) (T := T) (hS.2.1) (p := p) (f := f) (hpT) (by omega) (fg_km hok hz (hpT)) ?_)
  refine fg_ifB_eq (tgt := 18) (fg_ft (pc := 11) tb_Mo_learn 7 rfl) (by decide) (fun c11 => ?_) (fun c11 => ?_)
  · refine fg_iconst (fg_ft (pc := 18) tb_Mo_learn 10 rfl) ic_1 ?_
    refine fg_iadd (fg_ft (pc := 19) tb_Mo_learn 11 rfl) ?_
    refine fg_putI (fg_ft (pc := 20) tb_Mo_learn 12 rfl) ff_Mo_209 ly_287 rfl (fg_lt ly_287 (by decide)) (fg_nokI _) (fun _ _ h => by cases h; rfl) ?_
    show fg_wp _ _ _ _ _ _ _ _ _ (fg_u2 μ 287 16 ((n0 + nI Z.2.1) + (nI 1)), fg_rho R, 304)
    refine fg_aloadn (fg_ft (pc := 23) tb_Mo_learn 13 rfl) rfl ?_
    refine fg_getR (fg_ft (pc := 24) tb_Mo_learn 14 rfl) ff_Mo_23 ly_287 rfl (fg_lt ly_287 (by decide)) (rh_287_12 R) ?_
    refine fg_iloadn (fg_ft (pc := 27) tb_Mo_learn 15 rfl) rfl ?_
    refine fg_aloadn (fg_ft (pc := 28) tb_Mo_learn 16 rfl) rfl ?_
    refine fg_iloadn (fg_ft (pc := 29) tb_Mo_learn 17 rfl) rfl ?_
    refine fg_aloadn (fg_ft (pc := 30) tb_Mo_learn 18 rfl) rfl ?_
    refine fg_getR (fg_ft (pc := 31) tb_Mo_learn 19 rfl) ff_Mo_23 ly_287 rfl (fg_lt ly_287 (by decide)) (rh_287_12 R) ?_
    refine fg_iloadn (fg_ft (pc := 34) tb_Mo_learn 20 rfl) rfl ?_
    refine fg_ialdV (v := (nI (Z.1 p))) (fg_ft (pc := 35) tb_Mo_learn 21 rfl) ly_292 (fg_lt ly_292 (by decide)) (by omega) ((fg_u2ne (f := μ) (a := 287) (k := 16) (b := 292) (j := p) (x := ((n0 + nI Z.2.1) + (nI 1))) (by decide)).trans (hS.2.1 _ (by omega))) ?_
    refine fg_iconst (fg_ft (pc := 36) tb_Mo_learn 22 rfl) ic_1 ?_
    refine fg_iloadn (fg_ft (pc := 37) tb_Mo_learn 23 rfl) rfl ?_
    refine fg_ishl1 (fg_ft (pc := 38) tb_Mo_learn 24 rfl) (by omega) ?_
    refine fg_iorN (fg_ft (pc := 39) tb_Mo_learn 25 rfl) ?_
    refine fg_callV (fg_ft (pc := 40) tb_Mo_learn 26 rfl) cf_Mo_206 (fg_isOf ly_287 rfl (fg_lt ly_287 (by decide))) (as := [.int (nI v), .int (nI ((Z.1 p) ||| (2 ^ f)))]) (st := [.int (nI p), .ref 292]) rfl rfl (Nat.le_of_ble_eq_true rfl) (Nat.le_refl _) (Nat.le_refl _) (ev_Mo_follow (hM.agP (fg_agP_u (Or.inr (Or.inr (Or.inr ⟨rfl, Or.inr (Or.inl rfl)⟩))))) hok (fg_MC.agP hC (fg_agP_u (Or.inr (Or.inr (Or.inr ⟨rfl, Or.inr (Or.inl rfl)⟩))))) (s := ((Z.1 p) ||| (2 ^ f))) (fg_or_lt (hz.2.1 p hpT).1 (Nat.pow_lt_pow_right (by decide) hfT)) ?_)
    refine fg_iastN (fg_ft (pc := 43) tb_Mo_learn 27 rfl) ly_292 (fg_lt ly_292 (by decide)) (by omega) ?_
    show fg_wp _ _ _ _ _ _ _ _ _ (fg_u2 (fg_u2 μ 287 16 ((n0 + nI Z.2.1) + (nI 1))) 292 p (nI (fg_clo T ((Z.1 p) ||| (2 ^ f)))), fg_rho R, 304)
    exact fg_vret (fg_ft (pc := 44) tb_Mo_learn 28 rfl) rfl rfl (hQ _ (fg_agP_tr (fg_agP_u (Or.inr (Or.inr (Or.inr ⟨rfl, Or.inr (Or.inl rfl)⟩)))) (fg_agP_u (Or.inl rfl))) (fg_MS.learn hS (hz.2.1 p hpT).2 (by rw [fg_lr_n.1]; first | (rw [if_pos c11]; exact fg_nw0 _ _) | (rw [if_neg c11]; exact fg_nw1 _ _))))
  · refine fg_iconst (fg_ft (pc := 14) tb_Mo_learn 8 rfl) ic_0 ?_
    refine fg_goto (tgt := 19) (fg_ft (pc := 15) tb_Mo_learn 9 rfl) (by decide) ?_
    refine fg_iadd (fg_ft (pc := 19) tb_Mo_learn 11 rfl) ?_
    refine fg_putI (fg_ft (pc := 20) tb_Mo_learn 12 rfl) ff_Mo_209 ly_287 rfl (fg_lt ly_287 (by decide)) (fg_nokI _) (fun _ _ h => by cases h; rfl) ?_
    show fg_wp _ _ _ _ _ _ _ _ _ (fg_u2 μ 287 16 ((n0 + nI Z.2.1) + (nI 0)), fg_rho R, 304)
    refine fg_aloadn (fg_ft (pc := 23) tb_Mo_learn 13 rfl) rfl ?_
    refine fg_getR (fg_ft (pc := 24) tb_Mo_learn 14 rfl) ff_Mo_23 ly_287 rfl (fg_lt ly_287 (by decide)) (rh_287_12 R) ?_
    refine fg_iloadn (fg_ft (pc := 27) tb_Mo_learn 15 rfl) rfl ?_
    refine fg_aloadn (fg_ft (pc := 28) tb_Mo_learn 16 rfl) rfl ?_
    refine fg_iloadn (fg_ft (pc := 29) tb_Mo_learn 17 rfl) rfl ?_
    refine fg_aloadn (fg_ft (pc := 30) tb_Mo_learn 18 rfl) rfl ?_
    refine fg_getR (fg_ft (pc := 31) tb_Mo_learn 19 rfl) ff_Mo_23 ly_287 rfl (fg_lt ly_287 (by decide)) (rh_287_12 R) ?_
    refine fg_iloadn (fg_ft (pc := 34) tb_Mo_learn 20 rfl) rfl ?_
    refine fg_ialdV (v := (nI (Z.1 p))) (fg_ft (pc := 35) tb_Mo_learn 21 rfl) ly_292 (fg_lt ly_292 (by decide)) (by omega) ((fg_u2ne (f := μ) (a := 287) (k := 16) (b := 292) (j := p) (x := ((n0 + nI Z.2.1) + (nI 0))) (by decide)).trans (hS.2.1 _ (by omega))) ?_
    refine fg_iconst (fg_ft (pc := 36) tb_Mo_learn 22 rfl) ic_1 ?_
    refine fg_iloadn (fg_ft (pc := 37) tb_Mo_learn 23 rfl) rfl ?_
    refine fg_ishl1 (fg_ft (pc := 38) tb_Mo_learn 24 rfl) (by omega) ?_
    refine fg_iorN (fg_ft (pc := 39) tb_Mo_learn 25 rfl) ?_
    refine fg_callV (fg_ft (pc := 40) tb_Mo_learn 26 rfl) cf_Mo_206 (fg_isOf ly_287 rfl (fg_lt ly_287 (by decide))) (as := [.int (nI v), .int (nI ((Z.1 p) ||| (2 ^ f)))]) (st := [.int (nI p), .ref 292]) rfl rfl (Nat.le_of_ble_eq_true rfl) (Nat.le_refl _) (Nat.le_refl _) (ev_Mo_follow (hM.agP (fg_agP_u (Or.inr (Or.inr (Or.inr ⟨rfl, Or.inr (Or.inl rfl)⟩))))) hok (fg_MC.agP hC (fg_agP_u (Or.inr (Or.inr (Or.inr ⟨rfl, Or.inr (Or.inl rfl)⟩))))) (s := ((Z.1 p) ||| (2 ^ f))) (fg_or_lt (hz.2.1 p hpT).1 (Nat.pow_lt_pow_right (by decide) hfT)) ?_)
    refine fg_iastN (fg_ft (pc := 43) tb_Mo_learn 27 rfl) ly_292 (fg_lt ly_292 (by decide)) (by omega) ?_
    show fg_wp _ _ _ _ _ _ _ _ _ (fg_u2 (fg_u2 μ 287 16 ((n0 + nI Z.2.1) + (nI 0))) 292 p (nI (fg_clo T ((Z.1 p) ||| (2 ^ f)))), fg_rho R, 304)
    exact fg_vret (fg_ft (pc := 44) tb_Mo_learn 28 rfl) rfl rfl (hQ _ (fg_agP_tr (fg_agP_u (Or.inr (Or.inr (Or.inr ⟨rfl, Or.inr (Or.inl rfl)⟩)))) (fg_agP_u (Or.inl rfl))) (fg_MS.learn hS (hz.2.1 p hpT).2 (by rw [fg_lr_n.1]; first | (rw [if_pos c11]; exact fg_nw0 _ _) | (rw [if_neg c11]; exact fg_nw1 _ _))))
