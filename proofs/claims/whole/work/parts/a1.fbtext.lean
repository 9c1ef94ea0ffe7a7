/-! a text is told: the class -/
def fg_Tl.hd (A : fg_Tl) (l k : Nat) (p : Int32) : fg_Tl := (l, A.tape, k, p, A.tc, A.dc, A.ts, A.ds, A.nd)
def fg_Tl.tput (A : fg_Tl) (p : Nat) (C : Nat → Nat) : fg_Tl := (0, A.tape, 0, -1, max A.tc (p + 1), A.dc, fun k => if k = p then C else A.ts k, A.ds, A.nd)
def fg_Tl.dput (A : fg_Tl) (p : Nat) (C : Nat → Nat) : fg_Tl := (0, A.tape, 0, -1, A.tc, max A.dc (p + 1), A.ts, fun k => if k = p then fun i => nI (C i) else A.ds k, fun k => if k = p then C 0 else A.nd k)
noncomputable def an_tx1 (A : fg_Tl) (s p : Nat) (r : Nat × Nat × (Nat → Nat)) : Int32 × fg_Tl := if r.1 = 0 then (nI p, if s = 0 then A.tput p r.2.2 else A.dput p r.2.2) else (-1, A.hd 0 r.1 (pz_pl r.1 r.2.1))
/-- what is told after a text, and what is answered -/
noncomputable def an_text (A : fg_Tl) (s a : Nat) : Int32 × fg_Tl :=
  match fg_plf A s a with
  | none => (-2, A.hd 0 0 (-1))
  | some p => an_tx1 A s p (pz_rd (pz_b A.tape) A.len s)
theorem an_text_n {A : fg_Tl} {s a : Nat} (h : fg_plf A s a = none) : an_text A s a = (-2, A.hd 0 0 (-1)) := by
  unfold an_text; rw [h]
theorem an_text_s {A : fg_Tl} {s a p : Nat} (h : fg_plf A s a = some p) : an_text A s a = an_tx1 A s p (pz_rd (pz_b A.tape) A.len s) := by
  unfold an_text; rw [h]
theorem fg_plf_b {A : fg_Tl} {s a p : Nat} (ht : A.tc ≤ 2) (hd : A.dc ≤ 3) (h : fg_plf A s a = some p) : s < 2 ∧ (s = 0 → p < 2 ∧ p ≤ A.tc) ∧ (s = 1 → p < 3 ∧ p ≤ A.dc) := by
  unfold fg_plf at h
  by_cases c0 : s = 0
  · rw [if_pos c0] at h
    refine ⟨by omega, fun _ => ?_, fun g => by omega⟩
    by_cases c1 : a = 4294967295
    · rw [if_pos c1] at h
      by_cases c2 : A.tc < 2
      · rw [if_pos c2] at h; cases h; exact ⟨c2, Nat.le_refl _⟩
      · rw [if_neg c2] at h; cases h
    · rw [if_neg c1] at h
      by_cases c2 : a < A.tc
      · rw [if_pos c2] at h; cases h; omega
      · rw [if_neg c2] at h; cases h
  · rw [if_neg c0] at h
    by_cases c3 : s = 1
    · rw [if_pos c3] at h
      refine ⟨by omega, fun g => absurd g c0, fun _ => ?_⟩
      by_cases c1 : a = 4294967295
      · rw [if_pos c1] at h
        by_cases c2 : A.dc < 3
        · rw [if_pos c2] at h; cases h; exact ⟨c2, Nat.le_refl _⟩
        · rw [if_neg c2] at h; cases h
      · rw [if_neg c1] at h
        by_cases c2 : a < A.dc
        · rw [if_pos c2] at h; cases h; omega
        · rw [if_neg c2] at h; cases h
    · rw [if_neg c3] at h; cases h
theorem fg_TWp.fr14 {μ μ' : Nat → Nat → Int32} {t : Nat} {T : Nat → Nat} (h : fg_TW μ t T) (ha : ∀ a, t ≤ a → a < t + 14 → ∀ j, μ' a j = μ a j) : fg_TW μ' t T := fg_TWp.frame h (fun a h1 h2 j => ha a h1 (by omega) j) (fun s hs => (ha (t + 13) (by omega) (by omega) s).trans (h.2.2.2.2.2.2.2 s hs))
theorem fg_DW.fr2 {μ μ' : Nat → Nat → Int32} {r nd : Nat} {D : Nat → Int32} (h : fg_DW μ r D nd) (h0 : ∀ j, μ' r j = μ r j) (h1 : ∀ j, μ' (r + 1) j = μ (r + 1) j) : fg_DW μ' r D nd := ⟨(h0 _).trans h.1, (h0 _).trans h.2.1, h.2.2.1, fun i hi => (h1 _).trans (h.2.2.2 i hi)⟩
theorem fg_TL.hd9 {μ μ' : Nat → Nat → Int32} {b : Nat} {A : fg_Tl} (h : fg_TL μ b A) {l k : Nat} {p : Int32} (hf : ∀ a, b < a → a < b + 38 → ∀ j, μ' a j = μ a j) (h4 : μ' b 4 = μ b 4) (h5 : μ' b 5 = μ b 5) (h1 : μ' b 1 = nI l) (hl : l ≤ 600) (h2 : μ' b 2 = nI k) (h3 : μ' b 3 = p) : fg_TL μ' b (A.hd l k p) := by
  obtain ⟨g1, g2, g3, g4, g5, g6, g7, g8, g9⟩ := h
  have t2 : A.tc ≤ 2 := g4.2
  have d3 : A.dc ≤ 3 := g5.2
  refine ⟨⟨h1, hl⟩, fun j hj => (hf (b + 1) (by omega) (by omega) j).trans (g2 j hj), ⟨h2, h3⟩, ⟨h4.trans g4.1, g4.2⟩, ⟨h5.trans g5.1, g5.2⟩, fun i hi => ?_, fun i hi => ?_, fun i hi => ?_, fun i hi => (hf _ (by omega) (by omega) 0).trans (g9 i hi)⟩
  · have hi2 : i < A.tc := hi
    exact ⟨fg_TWp.fr14 (g6 i hi2).1 (fun a a1 a2 j => hf a (by omega) (by omega) j), (g6 i hi2).2⟩
  · have hi2 : i < A.dc := hi
    exact ⟨(g7 i hi2).1.fr2 (fun j => hf _ (by omega) (by omega) j) (fun j => hf _ (by omega) (by omega) j), (g7 i hi2).2⟩
  · exact (g8 i hi).fr2 (fun a a1 a2 j => hf a (by omega) (by omega) j)
theorem fg_TL.tput9 {μ μ' : Nat → Nat → Int32} {b : Nat} {A : fg_Tl} {p : Nat} {C : Nat → Nat} (h : fg_TL μ b (A.hd 0 0 (-1))) (hp : p < 2) (hpt : p ≤ A.tc) (hf : ∀ a, b < a → a < b + 38 → (a < b + 3 + 14 * p ∨ b + 3 + 14 * p + 14 ≤ a) → ∀ j, μ' a j = μ a j) (h1 : μ' b 1 = μ b 1) (h2 : μ' b 2 = μ b 2) (h3 : μ' b 3 = μ b 3) (h5 : μ' b 5 = μ b 5) (h4 : μ' b 4 = nI (max A.tc (p + 1))) (hT : fg_TW μ' (b + 3 + 14 * p) C) (hok : fg_ok C) (hw : fg_wdT μ' (b + 3 + 14 * p)) : fg_TL μ' b (A.tput p C) := by
  obtain ⟨g1, g2, g3, g4, g5, g6, g7, g8, g9⟩ := h
  have t2 : A.tc ≤ 2 := g4.2
  have d3 : A.dc ≤ 3 := g5.2
  refine ⟨⟨h1.trans g1.1, Nat.zero_le _⟩, fun j hj => (hf (b + 1) (by omega) (by omega) (by omega) j).trans (g2 j hj), ⟨h2.trans g3.1, h3.trans g3.2⟩, ⟨h4, by show max A.tc (p + 1) ≤ 2; omega⟩, ⟨h5.trans g5.1, g5.2⟩, fun i hi => ?_, fun i hi => ?_, fun i hi => ?_, fun i hi => (hf _ (by omega) (by omega) (by omega) 0).trans (g9 i hi)⟩
  · have hi2 : i < max A.tc (p + 1) := hi
    show fg_TW μ' (b + 3 + 14 * i) (if i = p then C else A.ts i) ∧ fg_ok (if i = p then C else A.ts i)
    by_cases c : i = p
    · rw [if_pos c, c]; exact ⟨hT, hok⟩
    · rw [if_neg c]
      have hi3 : i < A.tc := by omega
      exact ⟨fg_TWp.fr14 (g6 i hi3).1 (fun a a1 a2 j => hf a (by omega) (by omega) (by omega) j), (g6 i hi3).2⟩
  · have hi2 : i < A.dc := hi
    exact ⟨(g7 i hi2).1.fr2 (fun j => hf _ (by omega) (by omega) (by omega) j) (fun j => hf _ (by omega) (by omega) (by omega) j), (g7 i hi2).2⟩
  · by_cases c : i = p
    · rw [c]; exact hw
    · exact (g8 i hi).fr2 (fun a a1 a2 j => hf a (by omega) (by omega) (by omega) j)
theorem fg_TL.dput9 {μ μ' : Nat → Nat → Int32} {b : Nat} {A : fg_Tl} {p : Nat} {C : Nat → Nat} (h : fg_TL μ b (A.hd 0 0 (-1))) (hp : p < 3) (hpt : p ≤ A.dc) (hf : ∀ a, b < a → a < b + 38 → a ≠ b + 32 + 2 * p → a ≠ b + 32 + 2 * p + 1 → ∀ j, μ' a j = μ a j) (h1 : μ' b 1 = μ b 1) (h2 : μ' b 2 = μ b 2) (h3 : μ' b 3 = μ b 3) (h4 : μ' b 4 = μ b 4) (h5 : μ' b 5 = nI (max A.dc (p + 1))) (hD : fg_DW μ' (b + 32 + 2 * p) (fun i => nI (C i)) (C 0)) (hok : fg_dok (fun i => nI (C i)) (C 0)) : fg_TL μ' b (A.dput p C) := by
  obtain ⟨g1, g2, g3, g4, g5, g6, g7, g8, g9⟩ := h
  have t2 : A.tc ≤ 2 := g4.2
  have d3 : A.dc ≤ 3 := g5.2
  refine ⟨⟨h1.trans g1.1, Nat.zero_le _⟩, fun j hj => (hf (b + 1) (by omega) (by omega) (by omega) (by omega) j).trans (g2 j hj), ⟨h2.trans g3.1, h3.trans g3.2⟩, ⟨h4.trans g4.1, g4.2⟩, ⟨h5, by show max A.dc (p + 1) ≤ 3; omega⟩, fun i hi => ?_, fun i hi => ?_, fun i hi => ?_, fun i hi => ?_⟩
  · have hi2 : i < A.tc := hi
    exact ⟨fg_TWp.fr14 (g6 i hi2).1 (fun a a1 a2 j => hf a (by omega) (by omega) (by omega) (by omega) j), (g6 i hi2).2⟩
  · have hi2 : i < max A.dc (p + 1) := hi
    show fg_DW μ' (b + 32 + 2 * i) (if i = p then fun i => nI (C i) else A.ds i) (if i = p then C 0 else A.nd i) ∧ fg_dok (if i = p then fun i => nI (C i) else A.ds i) (if i = p then C 0 else A.nd i)
    by_cases c : i = p
    · rw [if_pos c, if_pos c, c]; exact ⟨hD, hok⟩
    · rw [if_neg c, if_neg c]
      have hi3 : i < A.dc := by omega
      exact ⟨(g7 i hi3).1.fr2 (fun j => hf _ (by omega) (by omega) (by omega) (by omega) j) (fun j => hf _ (by omega) (by omega) (by omega) (by omega) j), (g7 i hi3).2⟩
  · exact (g8 i hi).fr2 (fun a a1 a2 j => hf a (by omega) (by omega) (by omega) (by omega) j)
  · by_cases c : i = p
    · rw [c]; exact hD.1
    · exact (hf _ (by omega) (by omega) (by omega) (by omega) 0).trans (g9 i hi)
def fg_agTx (μ μ' : Nat → Nat → Int32) : Prop := ∀ a, (a < 101 ∨ (138 < a ∧ a < 255) ∨ 271 < a) → ∀ j, μ' a j = μ a j
theorem an_tx1_n {A : fg_Tl} {s p : Nat} {r : Nat × Nat × (Nat → Nat)} (h : ¬ r.1 = 0) : an_tx1 A s p r = (-1, A.hd 0 r.1 (pz_pl r.1 r.2.1)) := if_neg h
theorem an_tx1_t {A : fg_Tl} {s p : Nat} {r : Nat × Nat × (Nat → Nat)} (h : r.1 = 0) (hs : s = 0) : an_tx1 A s p r = (nI p, A.tput p r.2.2) := by
  unfold an_tx1; rw [if_pos h, if_pos hs]
theorem an_tx1_d {A : fg_Tl} {s p : Nat} {r : Nat × Nat × (Nat → Nat)} (h : r.1 = 0) (hs : ¬ s = 0) : an_tx1 A s p r = (nI p, A.dput p r.2.2) := by
  unfold an_tx1; rw [if_pos h, if_neg hs]
theorem pz_ff_5 {sg i v n lf fi : Nat} : pz_ff sg i v n lf fi < 5 := by
  by_cases c : pz_can sg v n lf fi
  · rw [pz_ffT c]; split <;> decide
  · rw [pz_ffF c]; decide
theorem pz_nl_5 {K V S : Nat → Nat} {w r q : Nat} : ∀ f i (Y : pz_Y), Y.1 < 5 → (pz_nl K V S w r q f i Y).2.1 < 5 := by
  intro f
  induction f with
  | zero => intro i Y h; exact h
  | succ f ih =>
    intro i Y h
    by_cases c : K (q + i) = 1 ∧ pz_sg w i ≠ 32
    · rw [pz_nl_s c.1 c.2]
      refine ih _ _ ?_
      show (if Y.1 = 0 then pz_ff (pz_sg w i) i (V (q + i)) (Y.2.2.1 2) Y.2.2.2.2.1 Y.2.2.2.2.2 else Y.1) < 5
      split
      · exact pz_ff_5
      · exact h
    · rw [pz_nl_e c]; exact h
theorem pz_ow_5 {w s : Nat} {X : pz_X} (h : X.1 < 5) : (pz_ow w s X).1 < 5 := by
  unfold pz_ow
  split
  · split
    · exact h
    · show (if X.1 = 0 then 3 else X.1) < 5
      split
      · decide
      · exact h
  · exact h
theorem pz_ln_5 {K V S : Nat → Nat} {len w j : Nat} {X : pz_X} (h : X.1 < 5) : (pz_ln K V S len w j X).2.1 < 5 := by
  have h2 := pz_nl_5 (K := K) (V := V) (S := S) (w := w) (r := X.2.2.1 (pz_ci (pz_rt w))) (q := j + 1) len 0 _ (pz_ow_5 (w := w) (s := S j) h)
  show (pz_le K S w j (pz_nl K V S w (X.2.2.1 (pz_ci (pz_rt w))) (j + 1) len 0 (pz_ow w (S j) X))).2.1 < 5
  unfold pz_le
  split
  · exact h2
  · show 1 < 5; decide
theorem pz_pa_5 {K V S : Nat → Nat} {len sort : Nat} : ∀ f (s : Nat × pz_X), s.2.1 < 5 → (pz_pa K V S len sort f s).2.1 < 5 := by
  intro f
  induction f with
  | zero => intro s h; exact h
  | succ f ih =>
    intro s h
    show (if s.2.1 = 1 ∨ K s.1 = 0 then s else pz_pa K V S len sort f (pz_l1 K V S len sort s)).2.1 < 5
    split
    · exact h
    · refine ih _ ?_
      unfold pz_l1
      split
      · exact pz_ln_5 h
      · show 1 < 5; decide
theorem pz_rd_5 {b : Nat → Nat} {len sort : Nat} : (pz_rd b len sort).1 < 2 ^ 31 := by
  rw [pz_rd_e]
  have h : (pz_rs (pz_K b len) (pz_V b len) (pz_S b len) len sort).2.1 < 5 := pz_pa_5 len _ (by show 0 < 5; decide)
  unfold pz_re
  split
  · show 4 < 2 ^ 31; decide
  · show (pz_rs (pz_K b len) (pz_V b len) (pz_S b len) len sort).2.1 < 2 ^ 31; omega
theorem ev_Fb_text {E : fg_E} {d : Nat} {μ : Nat → Nat → Int32} {R : fg_T4} {Q : Option Value → fg_M → Prop} {A : fg_Tl} {s a : Nat} (hA : fg_TL μ 101 A) (hs : s < 2 ^ 32) (ha : a < 2 ^ 32) (hfit : pz_fit A.tape) (hwd : fg_wdT μ 256) (h270 : μ 270 0 = nI 4) (hQ : ∀ (μ' : Nat → Nat → Int32) (R' : fg_T4), fg_agTx μ μ' → fg_wdT μ' 256 → μ' 270 0 = nI 4 → fg_TL μ' 101 (an_text A s a).2 → Q (some (.int (an_text A s a).1)) (μ', fg_rho R', 304)) : fg_Ev E yy_Fb_text (d + 12) [.ref 100, .int (nI s), .int (nI a)] (μ, fg_rho R, 304) 304 Q := by
  refine fg_intro (by decide +kernel) (Nat.le_of_ble_eq_true rfl) (fg_okAs rfl) (Nat.le_refl _) ?_
  refine fg_aloadn (fg_ft (pc := 0) tb_Fb_text 0 rfl) rfl ?_
  refine fg_getR (fg_ft (pc := 1) tb_Fb_text 1 rfl) ff_Fb_12 ly_100 rfl (fg_lt ly_100 (by decide)) (rh_100_0 R) ?_
  refine fg_getV (v := (nI (A.len))) (fg_ft (pc := 4) tb_Fb_text 2 rfl) ff_Fb_52 ly_101 rfl (fg_lt ly_101 (by decide)) hA.1.1 ?_
  refine fg_istoren (fg_ft (pc := 7) tb_Fb_text 3 rfl) (Nat.le_of_ble_eq_true rfl) ?_
  refine fg_aloadn (fg_ft (pc := 8) tb_Fb_text 4 rfl) rfl ?_
  refine fg_getR (fg_ft (pc := 9) tb_Fb_text 5 rfl) ff_Fb_12 ly_100 rfl (fg_lt ly_100 (by decide)) (rh_100_0 R) ?_
  refine fg_iconst (fg_ft (pc := 12) tb_Fb_text 6 rfl) ic_0 ?_
  refine fg_putI (fg_ft (pc := 13) tb_Fb_text 7 rfl) ff_Fb_52 ly_101 rfl (fg_lt ly_101 (by decide)) (fg_nokI _) (fun _ _ h => by cases h; rfl) ?_
  show fg_wp _ _ _ _ _ _ _ _ _ (fg_u2 μ 101 1 (nI 0), fg_rho R, 304)
  refine fg_aloadn (fg_ft (pc := 16) tb_Fb_text 8 rfl) rfl ?_
  refine fg_getR (fg_ft (pc := 17) tb_Fb_text 9 rfl) ff_Fb_12 ly_100 rfl (fg_lt ly_100 (by decide)) (rh_100_0 R) ?_
  refine fg_iconst (fg_ft (pc := 20) tb_Fb_text 10 rfl) ic_0 ?_
  refine fg_putI (fg_ft (pc := 21) tb_Fb_text 11 rfl) ff_Fb_60 ly_101 rfl (fg_lt ly_101 (by decide)) (fg_nokI _) (fun _ _ h => by cases h; rfl) ?_
  show fg_wp _ _ _ _ _ _ _ _ _ (fg_u2 (fg_u2 μ 101 1 (nI 0)) 101 2 (nI 0), fg_rho R, 304)
  refine fg_aloadn (fg_ft (pc := 24) tb_Fb_text 12 rfl) rfl ?_
  refine fg_getR (fg_ft (pc := 25) tb_Fb_text 13 rfl) ff_Fb_12 ly_100 rfl (fg_lt ly_100 (by decide)) (rh_100_0 R) ?_
  refine fg_iconst (fg_ft (pc := 28) tb_Fb_text 14 rfl) ic_m1 ?_
  refine fg_putI (fg_ft (pc := 29) tb_Fb_text 15 rfl) ff_Fb_63 ly_101 rfl (fg_lt ly_101 (by decide)) (fg_nokI _) (fun _ _ h => by cases h; rfl) ?_
  show fg_wp _ _ _ _ _ _ _ _ _ (fg_u2 (fg_u2 (fg_u2 μ 101 1 (nI 0)) 101 2 (nI 0)) 101 3 (-1), fg_rho R, 304)
  have hfr1 : ∀ a, a ≠ 101 → ∀ j, (fg_u2 (fg_u2 (fg_u2 μ 101 1 (nI 0)) 101 2 (nI 0)) 101 3 (-1)) a j = μ a j := fun a h j => (fg_u2ne (by omega)).trans ((fg_u2ne (by omega)).trans (fg_u2ne (by omega)))
  have hA1 : fg_TL (fg_u2 (fg_u2 (fg_u2 μ 101 1 (nI 0)) 101 2 (nI 0)) 101 3 (-1)) 101 (A.hd 0 0 (-1)) := hA.hd9 (fun a h1 h2 j => hfr1 a (by omega) j) ((fg_u2ns (by decide)).trans ((fg_u2ns (by decide)).trans (fg_u2ns (by decide)))) ((fg_u2ns (by decide)).trans ((fg_u2ns (by decide)).trans (fg_u2ns (by decide)))) ((fg_u2ns (by decide)).trans ((fg_u2ns (by decide)).trans fg_u2eq)) (Nat.zero_le _) ((fg_u2ns (by decide)).trans fg_u2eq) fg_u2eq
  refine fg_aloadn (fg_ft (pc := 32) tb_Fb_text 16 rfl) rfl ?_
  refine fg_getR (fg_ft (pc := 33) tb_Fb_text 17 rfl) ff_Fb_12 ly_100 rfl (fg_lt ly_100 (by decide)) (rh_100_0 R) ?_
  refine fg_iloadn (fg_ft (pc := 36) tb_Fb_text 18 rfl) rfl ?_
  refine fg_iloadn (fg_ft (pc := 37) tb_Fb_text 19 rfl) rfl ?_
  refine fg_callV (fg_ft (pc := 38) tb_Fb_text 20 rfl) cf_Fb_66 (fg_isOf ly_101 rfl (fg_lt ly_101 (by decide))) (as := [.int (nI s), .int (nI a)]) (st := []) rfl rfl (Nat.le_of_ble_eq_true rfl) (Nat.le_refl _) (Nat.le_refl _) (ev_Told_placeFor hA1 hs ha ?_ ?_)
  · intro hpn
    have hpn2 : fg_plf A s a = none := hpn
    refine fg_istore (fg_ft (pc := 41) tb_Fb_text 21 rfl) (Nat.le_of_ble_eq_true rfl) ?_
    refine fg_iload (fg_ft (pc := 43) tb_Fb_text 22 rfl) rfl ?_
    refine fg_iconst (fg_ft (pc := 45) tb_Fb_text 23 rfl) ic_m1 ?_
    refine fg_icmp_ne (tgt := 52) (fg_ft (pc := 46) tb_Fb_text 24 rfl) (by decide) (fun c46 => (absurd rfl c46)) (fun c46 => ?_)
    refine fg_bipush (fg_ft (pc := 49) tb_Fb_text 25 rfl) ib_m2 ?_
    exact fg_iret (fg_ft (pc := 51) tb_Fb_text 26 rfl) rfl rfl (fg_q (hQ _ R (fun a h j => hfr1 a (by omega) j) (hwd.fr2 (fun a h1 h2 j => hfr1 a (by omega) j)) ((hfr1 270 (by decide) 0).trans h270) (by rw [an_text_n hpn2]; exact hA1)) (by rw [an_text_n hpn2]))
  · intro p hps
    have hps2 : fg_plf A s a = some p := hps
    obtain ⟨hs2, hp0, hp1⟩ := fg_plf_b hA.2.2.2.1.2 hA.2.2.2.2.1.2 hps2
    have hp3 : p < 3 := by omega
    refine fg_istore (fg_ft (pc := 41) tb_Fb_text 21 rfl) (Nat.le_of_ble_eq_true rfl) ?_
    refine fg_iload (fg_ft (pc := 43) tb_Fb_text 22 rfl) rfl ?_
    refine fg_iconst (fg_ft (pc := 45) tb_Fb_text 23 rfl) ic_m1 ?_
    refine fg_icmp_neM (tgt := 52) (fg_ft (pc := 46) tb_Fb_text 24 rfl) (by decide) (Nat.lt_trans (show _ < 2 ^ 31 from by omega) (by decide)) (fun c46 => ?_) (fun c46 => (absurd c46 (by omega)))
    refine fg_aloadn (fg_ft (pc := 52) tb_Fb_text 27 rfl) rfl ?_
    refine fg_getR (fg_ft (pc := 53) tb_Fb_text 28 rfl) ff_Fb_27 ly_100 rfl (fg_lt ly_100 (by decide)) (rh_100_3 R) ?_
    refine fg_aloadn (fg_ft (pc := 56) tb_Fb_text 29 rfl) rfl ?_
    refine fg_getR (fg_ft (pc := 57) tb_Fb_text 30 rfl) ff_Fb_12 ly_100 rfl (fg_lt ly_100 (by decide)) (rh_100_0 R) ?_
    refine fg_getR (fg_ft (pc := 60) tb_Fb_text 31 rfl) ff_Fb_70 ly_101 rfl (fg_lt ly_101 (by decide)) (rh_101_0 R) ?_
    refine fg_iloadn (fg_ft (pc := 63) tb_Fb_text 32 rfl) rfl ?_
    refine fg_iloadn (fg_ft (pc := 64) tb_Fb_text 33 rfl) rfl ?_
    refine fg_callV (fg_ft (pc := 65) tb_Fb_text 34 rfl) cf_Fb_74 (fg_isOf ly_255 rfl (fg_lt ly_255 (by decide))) (as := [.ref 102, .int (nI (A.len)), .int (nI s)]) (st := []) rfl rfl (Nat.le_of_ble_eq_true rfl) (Nat.le_refl _) (Nat.le_refl _) (ev_Reader_read (c := A.tape) (len := A.len) (sort := s) hs2 hA.1.2 (fun z zs => by subst zs; exact pz_rd_ok z) (fun k hk => (hfr1 102 (by decide) k).trans (hA.2.1 k hk)) hfit (fun z zs => by subst zs; exact ((pz_rs_I9 (by decide) z).1 rfl).1.1.2) (hwd.fr2 (fun a h1 h2 j => hfr1 a (by omega) j)) ((hfr1 270 (by decide) 0).trans h270) ?_)
    intro ν2 hfr2 hwd2 hf2 hpl2 htw2 hac2
    have hr5 : (pz_rd (pz_b A.tape) A.len s).1 < 2 ^ 31 := pz_rd_5
    show fg_wp _ _ _ _ _ _ _ _ _ (ν2, fg_rho (R.1, R.2.1, R.2.2.1, some 102), 304)
    refine fg_aloadn (fg_ft (pc := 68) tb_Fb_text 35 rfl) rfl ?_
    refine fg_getR (fg_ft (pc := 69) tb_Fb_text 36 rfl) ff_Fb_12 ly_100 rfl (fg_lt ly_100 (by decide)) (rh_100_0 (R.1, R.2.1, R.2.2.1, some 102)) ?_
    refine fg_aloadn (fg_ft (pc := 72) tb_Fb_text 37 rfl) rfl ?_
    refine fg_getR (fg_ft (pc := 73) tb_Fb_text 38 rfl) ff_Fb_27 ly_100 rfl (fg_lt ly_100 (by decide)) (rh_100_3 (R.1, R.2.1, R.2.2.1, some 102)) ?_
    refine fg_getV (v := (nI ((pz_rd (pz_b A.tape) A.len s).1))) (fg_ft (pc := 76) tb_Fb_text 39 rfl) ff_Fb_78 ly_255 rfl (fg_lt ly_255 (by decide)) hf2 ?_
    refine fg_putI (fg_ft (pc := 79) tb_Fb_text 40 rfl) ff_Fb_60 ly_101 rfl (fg_lt ly_101 (by decide)) (fg_nokI _) (fun _ _ h => by cases h; rfl) ?_
    show fg_wp _ _ _ _ _ _ _ _ _ (fg_u2 ν2 101 2 (nI ((pz_rd (pz_b A.tape) A.len s).1)), fg_rho (R.1, R.2.1, R.2.2.1, some 102), 304)
    refine fg_aloadn (fg_ft (pc := 82) tb_Fb_text 41 rfl) rfl ?_
    refine fg_getR (fg_ft (pc := 83) tb_Fb_text 42 rfl) ff_Fb_12 ly_100 rfl (fg_lt ly_100 (by decide)) (rh_100_0 (R.1, R.2.1, R.2.2.1, some 102)) ?_
    refine fg_aloadn (fg_ft (pc := 86) tb_Fb_text 43 rfl) rfl ?_
    refine fg_getR (fg_ft (pc := 87) tb_Fb_text 44 rfl) ff_Fb_27 ly_100 rfl (fg_lt ly_100 (by decide)) (rh_100_3 (R.1, R.2.1, R.2.2.1, some 102)) ?_
    refine fg_getV (v := (pz_pl (pz_rd (pz_b A.tape) A.len s).1 (pz_rd (pz_b A.tape) A.len s).2.1)) (fg_ft (pc := 90) tb_Fb_text 45 rfl) ff_Fb_79 ly_255 rfl (fg_lt ly_255 (by decide)) (show (fg_u2 ν2 101 2 (nI ((pz_rd (pz_b A.tape) A.len s).1))) 255 3 = _ from (fg_u2ne (by decide)).trans hpl2) ?_
    refine fg_putI (fg_ft (pc := 93) tb_Fb_text 46 rfl) ff_Fb_63 ly_101 rfl (fg_lt ly_101 (by decide)) (fg_nokI _) (fun _ _ h => by cases h; rfl) ?_
    show fg_wp _ _ _ _ _ _ _ _ _ (fg_u2 (fg_u2 ν2 101 2 (nI ((pz_rd (pz_b A.tape) A.len s).1))) 101 3 (pz_pl (pz_rd (pz_b A.tape) A.len s).1 (pz_rd (pz_b A.tape) A.len s).2.1), fg_rho (R.1, R.2.1, R.2.2.1, some 102), 304)
    have hlo2 : ∀ j, ν2 101 j = (fg_u2 (fg_u2 (fg_u2 μ 101 1 (nI 0)) 101 2 (nI 0)) 101 3 (-1)) 101 j := fun j => hfr2 101 j (by decide)
    have hfr3 : ∀ a, a ≠ 101 → (a < 255 ∨ 271 < a) → ∀ j, (fg_u2 (fg_u2 ν2 101 2 (nI (pz_rd (pz_b A.tape) A.len s).1)) 101 3 (pz_pl (pz_rd (pz_b A.tape) A.len s).1 (pz_rd (pz_b A.tape) A.len s).2.1)) a j = μ a j := fun a h1 h2 j => (fg_u2ne (by omega)).trans ((fg_u2ne (by omega)).trans ((hfr2 a j (by omega)).trans (hfr1 a (by omega) j)))
    have hA3 : fg_TL (fg_u2 (fg_u2 ν2 101 2 (nI (pz_rd (pz_b A.tape) A.len s).1)) 101 3 (pz_pl (pz_rd (pz_b A.tape) A.len s).1 (pz_rd (pz_b A.tape) A.len s).2.1)) 101 (A.hd 0 (pz_rd (pz_b A.tape) A.len s).1 (pz_pl (pz_rd (pz_b A.tape) A.len s).1 (pz_rd (pz_b A.tape) A.len s).2.1)) := hA.hd9 (fun a h1 h2 j => hfr3 a (by omega) (by omega) j) ((fg_u2ns (by decide)).trans ((fg_u2ns (by decide)).trans ((hlo2 4).trans ((fg_u2ns (by decide)).trans ((fg_u2ns (by decide)).trans (fg_u2ns (by decide))))))) ((fg_u2ns (by decide)).trans ((fg_u2ns (by decide)).trans ((hlo2 5).trans ((fg_u2ns (by decide)).trans ((fg_u2ns (by decide)).trans (fg_u2ns (by decide))))))) ((fg_u2ns (by decide)).trans ((fg_u2ns (by decide)).trans ((hlo2 1).trans ((fg_u2ns (by decide)).trans ((fg_u2ns (by decide)).trans fg_u2eq))))) (Nat.zero_le _) ((fg_u2ns (by decide)).trans fg_u2eq) fg_u2eq
    have h2553 : ∀ a, 101 < a → ∀ j, (fg_u2 (fg_u2 ν2 101 2 (nI (pz_rd (pz_b A.tape) A.len s).1)) 101 3 (pz_pl (pz_rd (pz_b A.tape) A.len s).1 (pz_rd (pz_b A.tape) A.len s).2.1)) a j = ν2 a j := fun a h1 j => (fg_u2ne (by omega)).trans (fg_u2ne (by omega))
    refine fg_aloadn (fg_ft (pc := 96) tb_Fb_text 47 rfl) rfl ?_
    refine fg_getR (fg_ft (pc := 97) tb_Fb_text 48 rfl) ff_Fb_27 ly_100 rfl (fg_lt ly_100 (by decide)) (rh_100_3 (R.1, R.2.1, R.2.2.1, some 102)) ?_
    refine fg_getV (v := (nI ((pz_rd (pz_b A.tape) A.len s).1))) (fg_ft (pc := 100) tb_Fb_text 49 rfl) ff_Fb_78 ly_255 rfl (fg_lt ly_255 (by decide)) ((h2553 255 (by decide) 2).trans hf2) ?_
    refine fg_if_eqN (tgt := 108) (fg_ft (pc := 103) tb_Fb_text 50 rfl) (by decide) (hr5) (fun c103 => ?_) (fun c103 => ?_)
    · have z0 : (pz_rd (pz_b A.tape) A.len s).1 = 0 := Classical.byContradiction fun g => absurd c103 g
      have ep : A.hd 0 (pz_rd (pz_b A.tape) A.len s).1 (pz_pl (pz_rd (pz_b A.tape) A.len s).1 (pz_rd (pz_b A.tape) A.len s).2.1) = A.hd 0 0 (-1) := by rw [z0]; rfl
      rw [ep] at hA3
      refine fg_iloadn (fg_ft (pc := 108) tb_Fb_text 53 rfl) rfl ?_
      refine fg_if_neW (tgt := 131) (fg_ft (pc := 109) tb_Fb_text 54 rfl) (by decide) (hs) (fun c109 => ?_) (fun c109 => ?_)
      · have hs1 : s = 1 := by omega
        refine fg_aloadn (fg_ft (pc := 131) tb_Fb_text 63 rfl) rfl ?_
        refine fg_getR (fg_ft (pc := 132) tb_Fb_text 64 rfl) ff_Fb_12 ly_100 rfl (fg_lt ly_100 (by decide)) (rh_100_0 (R.1, R.2.1, R.2.2.1, some 102)) ?_
        refine fg_iload (fg_ft (pc := 135) tb_Fb_text 65 rfl) rfl ?_
        refine fg_aloadn (fg_ft (pc := 137) tb_Fb_text 66 rfl) rfl ?_
        refine fg_getR (fg_ft (pc := 138) tb_Fb_text 67 rfl) ff_Fb_27 ly_100 rfl (fg_lt ly_100 (by decide)) (rh_100_3 (R.1, R.2.1, R.2.2.1, some 102)) ?_
        refine fg_getR (fg_ft (pc := 141) tb_Fb_text 68 rfl) ff_Fb_88 ly_255 rfl (fg_lt ly_255 (by decide)) (rh_255_1 (R.1, R.2.1, R.2.2.1, some 102)) ?_
        refine fg_callV (fg_ft (pc := 144) tb_Fb_text 69 rfl) cf_Fb_92 (fg_isOf ly_101 rfl (fg_lt ly_101 (by decide))) (as := [.int (nI p), .ref 270]) (st := []) rfl rfl (Nat.le_of_ble_eq_true rfl) (Nat.le_refl _) (Nat.le_refl _) (ev_Told_putDay hA3 (p := p) (hp1 hs1).1 ?_)
        intro ν4 hfr4 h45 hw4 hz4 hc4
        have hID : pz_ID (pz_rd (pz_b A.tape) A.len s).2.2 := by have z1 := z0; subst hs1; exact pz_rd_dok z1
        obtain ⟨ha1, ha2, ha3⟩ := hac2 z0 hs1
        have hp2 := (hp1 hs1).1
        have hDW : fg_DW ν4 (101 + 32 + 2 * p) (fun i => nI ((pz_rd (pz_b A.tape) A.len s).2.2 i)) ((pz_rd (pz_b A.tape) A.len s).2.2 0) := by
          refine ⟨hw4.trans (hA3.2.2.2.2.2.2.2.2 p hp2), hz4.trans ((h2553 270 (by decide) 2).trans ha1), ha2, fun i hi => (hc4 i (by omega)).trans ((h2553 271 (by decide) i).trans (ha3 i hi))⟩
        have htp := hA3.dput9 (μ' := ν4) (C := (pz_rd (pz_b A.tape) A.len s).2.2) hp2 (hp1 hs1).2 (fun a h1 h2 h3 h4 j => hfr4 a j (by omega) (by omega) (by omega)) (hfr4 101 1 (by omega) (by omega) (by decide)) (hfr4 101 2 (by omega) (by omega) (by decide)) (hfr4 101 3 (by omega) (by omega) (by decide)) (hfr4 101 4 (by omega) (by omega) (by decide)) h45 hDW hID.dok
        show fg_wp _ _ _ _ _ _ _ _ _ (ν4, fg_rho (R.1, R.2.1, R.2.2.1, some 102), 304)
        refine fg_iload (fg_ft (pc := 147) tb_Fb_text 70 rfl) rfl ?_
        exact fg_iret (fg_ft (pc := 149) tb_Fb_text 71 rfl) rfl rfl (fg_q (hQ ν4 (R.1, R.2.1, R.2.2.1, some 102) (fun a h j => (hfr4 a j (by omega) (by omega) (by omega)).trans (hfr3 a (by omega) (by omega) j)) (hwd2.1.fr2 (fun a h1 h2 j => (hfr4 a j (by omega) (by omega) (by omega)).trans (h2553 a (by omega) j))) ((hfr4 270 0 (by omega) (by omega) (by decide)).trans ((h2553 270 (by decide) 0).trans hwd2.2)) (by rw [an_text_s hps2, an_tx1_d z0 c109]; exact htp)) (by rw [an_text_s hps2, an_tx1_d z0 c109]))
      · refine fg_aloadn (fg_ft (pc := 112) tb_Fb_text 55 rfl) rfl ?_
        refine fg_getR (fg_ft (pc := 113) tb_Fb_text 56 rfl) ff_Fb_12 ly_100 rfl (fg_lt ly_100 (by decide)) (rh_100_0 (R.1, R.2.1, R.2.2.1, some 102)) ?_
        refine fg_iload (fg_ft (pc := 116) tb_Fb_text 57 rfl) rfl ?_
        refine fg_aloadn (fg_ft (pc := 118) tb_Fb_text 58 rfl) rfl ?_
        refine fg_getR (fg_ft (pc := 119) tb_Fb_text 59 rfl) ff_Fb_27 ly_100 rfl (fg_lt ly_100 (by decide)) (rh_100_3 (R.1, R.2.1, R.2.2.1, some 102)) ?_
        refine fg_getR (fg_ft (pc := 122) tb_Fb_text 60 rfl) ff_Fb_80 ly_255 rfl (fg_lt ly_255 (by decide)) (rh_255_0 (R.1, R.2.1, R.2.2.1, some 102)) ?_
        refine fg_callV (fg_ft (pc := 125) tb_Fb_text 61 rfl) cf_Fb_84 (fg_isOf ly_101 rfl (fg_lt ly_101 (by decide))) (as := [.int (nI p), .ref 256]) (st := []) rfl rfl (Nat.le_of_ble_eq_true rfl) (Nat.le_refl _) (Nat.le_refl _) (ev_Told_putTown hA3 (p := p) (hp0 c109).1 ?_)
        intro ν4 hfr4 h44 ν5 htc5 hwd5 heq5
        have hok5 : fg_ok (pz_rd (pz_b A.tape) A.len s).2.2 := by subst c109; exact pz_rd_ok z0
        have htw3 : fg_TW (fg_u2 (fg_u2 ν2 101 2 (nI (pz_rd (pz_b A.tape) A.len s).1)) 101 3 (pz_pl (pz_rd (pz_b A.tape) A.len s).1 (pz_rd (pz_b A.tape) A.len s).2.1)) 256 (pz_rd (pz_b A.tape) A.len s).2.2 := fg_TWp.fr14 (htw2 z0 c109) (fun a h1 h2 j => h2553 a (by omega) j)
        have hwp5 : fg_wdT ν5 (104 + 14 * p) := hwd5 (hA3.2.2.2.2.2.2.2.1 p (hp0 c109).1)
        have htw5 := htc5.tw hwp5 hok5 htw3
        have hp2 := (hp0 c109).1
        have htp := hA3.tput9 (μ' := ν4) (C := (pz_rd (pz_b A.tape) A.len s).2.2) hp2 (hp0 c109).2 (fun a h1 h2 h3 j => hfr4 a j (by omega) (by omega)) (hfr4 101 1 (by omega) (by decide)) (hfr4 101 2 (by omega) (by decide)) (hfr4 101 3 (by omega) (by decide)) (hfr4 101 5 (by omega) (by decide)) h44 (fg_TWp.fr14 htw5 (fun a h1 h2 j => heq5 a j (by omega))) hok5 (hwp5.fr2 (fun a h1 h2 j => heq5 a j (by omega)))
        show fg_wp _ _ _ _ _ _ _ _ _ (ν4, fg_rho (R.1, R.2.1, R.2.2.1, some 102), 304)
        refine fg_goto (tgt := 147) (fg_ft (pc := 128) tb_Fb_text 62 rfl) (by decide) ?_
        refine fg_iload (fg_ft (pc := 147) tb_Fb_text 70 rfl) rfl ?_
        exact fg_iret (fg_ft (pc := 149) tb_Fb_text 71 rfl) rfl rfl (fg_q (hQ ν4 (R.1, R.2.1, R.2.2.1, some 102) (fun a h j => (hfr4 a j (by omega) (by omega)).trans (hfr3 a (by omega) (by omega) j)) (hwd2.1.fr2 (fun a h1 h2 j => (hfr4 a j (by omega) (by omega)).trans (h2553 a (by omega) j))) ((hfr4 270 0 (by omega) (by decide)).trans ((h2553 270 (by decide) 0).trans hwd2.2)) (by rw [an_text_s hps2, an_tx1_t z0 c109]; exact htp)) (by rw [an_text_s hps2, an_tx1_t z0 c109]))
    · refine fg_iconst (fg_ft (pc := 106) tb_Fb_text 51 rfl) ic_m1 ?_
      exact fg_iret (fg_ft (pc := 107) tb_Fb_text 52 rfl) rfl rfl (fg_q (hQ _ (R.1, R.2.1, R.2.2.1, some 102) (fun a h j => hfr3 a (by omega) (by omega) j) (hwd2.1.fr2 (fun a h1 h2 j => h2553 a (by omega) j)) ((h2553 270 (by decide) 0).trans hwd2.2) (by rw [an_text_s hps2, an_tx1_n c103]; exact hA3)) (by rw [an_text_s hps2, an_tx1_n c103]))
