/-! both read alike: a line, all lines -/
theorem rz_Rg.n1 {S : Nat → Nat} {sort j : Nat} {X : pz_X} {Z : rz_Z} (h : rz_Rg S sort j X Z) : Z.1 = j ∧ Z.2.1 ≠ 1 := ⟨h.1.1, rz_Rn.n1 h.1⟩
theorem rz_ta_y {K V S : Nat → Nat} {a b : Nat} {Z : rz_Z} (h1 : Z.2.1 ≠ 1) (h2 : K Z.1 = 3) (h3 : a ≤ V Z.1 + 1 ∧ V Z.1 + 1 ≤ b) : rz_ta K V S a b Z = (V Z.1 + 1, rz_ad Z) := by
  unfold rz_ta
  exact if_neg (fun g => g.elim h1 (fun g => g.elim (fun g => g h2) (fun g => g h3)))
theorem rz_ta_n {K V S : Nat → Nat} {a b : Nat} {Z : rz_Z} (h3 : ¬ (K Z.1 = 3 ∧ a ≤ V Z.1 + 1 ∧ V Z.1 + 1 ≤ b)) : rz_ta K V S a b Z = (0, rz_en S Z) := by
  unfold rz_ta
  by_cases c : K Z.1 = 3
  · exact if_pos (Or.inr (Or.inr (fun g => h3 ⟨c, g⟩)))
  · exact if_pos (Or.inr (Or.inl c))
theorem rz_W.of {S : Nat → Nat} {q : Nat} {Z : rz_Z} (h1 : Z.1 = q) (h2 : Z.2.1 ≠ 1) : rz_W q (S q) (rz_en S Z) := by
  have e : rz_en S Z = (Z.1, (1, S Z.1, Z.2.2.2)) := congrArg (Prod.mk Z.1) (if_neg h2)
  rw [e]
  exact ⟨h1, rfl, by show S Z.1 = S q; rw [h1]⟩
theorem rz_c3_n1 {cell mx at9 : Nat} {Z : rz_Z} : (rz_c3 cell mx at9 Z).1 = Z.1 ∧ (Z.2.1 ≠ 1 → (rz_c3 cell mx at9 Z).2.1 ≠ 1) := by
  unfold rz_c3
  by_cases c : mx ≤ Z.2.2.2.2 cell
  · rw [if_pos c]
    refine ⟨rfl, fun h => ?_⟩
    show (if Z.2.1 = 1 ∨ (Z.2.1 ≠ 0 ∧ (Z.2.2.1 < at9 ∨ (Z.2.2.1 = at9 ∧ Z.2.1 ≤ 3))) then Z.2 else (3, at9, Z.2.2.2)).1 ≠ 1
    split
    · exact h
    · show 3 ≠ 1; decide
  · rw [if_neg c]; exact ⟨rfl, id⟩
theorem rz_line_T {K V S : Nat → Nat} {len j : Nat} {X : pz_X} {Z : rz_Z} (hT : rz_TS K V S len) (hk : K j = 3) (hw : V j < 10) (hX : X.1 = 0 → pz_IV X.2.2.1 X.2.2.2) (hR : rz_Rg S 0 j X Z) : rz_Re S 0 (pz_ln K V S len (V j) j X) (rz_tl K V S len Z) := by
  obtain ⟨z1, z2⟩ := hR.n1
  have et : rz_ta K V S 1 10 Z = (V j + 1, rz_ad Z) := by
    rw [rz_ta_y z2 (by rw [z1]; exact hk) (by rw [z1]; omega), z1]
  show rz_Re S 0 _ (rz_el K S (rz_tw K V S len (S Z.1) (rz_ta K V S 1 10 Z).2 (rz_ta K V S 1 10 Z).1))
  rw [et, z1]
  show rz_Re S 0 _ (rz_el K S (rz_tw K V S len (S j) (rz_ad Z) (V j + 1)))
  have hx5 : X.1 = 0 → X.2.2.1 2 ≤ 5 := fun z => (hX z).2.1 1 (by decide)
  have hz : X.1 = 0 → ∀ n, X.2.2.1 2 ≤ n → n < 5 → X.2.2.1 (40 + 3 * n + 1) = 0 ∧ X.2.2.1 (40 + 3 * n + 2) = 0 := fun z n h1 h2 => by
    have h3 := (hX z).2.2.2 n h1 h2
    rw [show 40 + 3 * n + 1 = 40 + (n * 3 + 1) by omega, show 40 + 3 * n + 2 = 40 + (n * 3 + 2) by omega]
    exact h3
  rcases (show V j = 0 ∨ V j = 1 ∨ V j = 2 ∨ V j = 3 ∨ V j = 4 ∨ V j = 5 ∨ V j = 6 ∨ V j = 7 ∨ V j = 8 ∨ V j = 9 by omega) with e | e | e | e | e | e | e | e | e | e <;> rw [e]
  · exact rz_line_0 hT hk hR
  · exact rz_line_1 hT hk hR
  · exact rz_line_2 hT hk hz hR
  · exact rz_line_3 hT hk hx5 hR
  · exact rz_line_4 hT hk hx5 hR
  · exact rz_line_5 hT hk hR
  · exact rz_line_6 hT hk hR
  · exact rz_line_7 hT hk hR
  · exact rz_line_8 hT hk hR
  · exact rz_line_9 hT hk hR
theorem rz_line_D {K V S : Nat → Nat} {len j : Nat} {X : pz_X} {Z : rz_Z} (hT : rz_TS K V S len) (hk : K j = 3) (hw : V j < 17) (hw2 : 10 ≤ V j) (hR : rz_Rg S 1 j X Z) : rz_Re S 1 (pz_ln K V S len (V j) j X) (rz_dl K V S Z) := by
  obtain ⟨z1, z2⟩ := hR.n1
  have c1 := (rz_c3_n1 (cell := 0) (mx := 30) (at9 := S j) (Z := Z)).1
  have et : rz_ta K V S 11 17 (rz_c3 0 30 (S j) Z) = (V j + 1, rz_c3 0 30 (S j) (rz_ad Z)) := by
    rw [rz_ta_y (rz_c3_n1.2 z2) (by rw [c1, z1]; exact hk) (by rw [c1, z1]; omega), c1, z1, rz_c3_ad]
  show rz_Re S 1 _ (rz_el K S (rz_dn (rz_ta K V S 11 17 (rz_c3 0 30 (S Z.1) Z)).1 (rz_dm K V S (rz_ta K V S 11 17 (rz_c3 0 30 (S Z.1) Z)).2 (rz_ta K V S 11 17 (rz_c3 0 30 (S Z.1) Z)).1)))
  rw [z1, et]
  show rz_Re S 1 _ (rz_el K S (rz_dn (V j + 1) (rz_dm K V S (rz_c3 0 30 (S j) (rz_ad Z)) (V j + 1))))
  rcases (show V j = 10 ∨ V j = 11 ∨ V j = 12 ∨ V j = 13 ∨ V j = 14 ∨ V j = 15 ∨ V j = 16 by omega) with e | e | e | e | e | e | e <;> rw [e]
  · exact rz_line_10 hT hk hR
  · exact rz_line_11 hT hk hR
  · exact rz_line_12 hT hk hR
  · exact rz_line_13 hT hk hR
  · exact rz_line_14 hT hk hR
  · exact rz_line_15 hT hk hR
  · exact rz_line_16 hT hk hR
theorem rz_wrong_T {K V S : Nat → Nat} {len j : Nat} {X : pz_X} {Z : rz_Z} (hk : ¬ (K j = 3 ∧ V j < 10)) (hR : rz_Rg S 0 j X Z) : rz_W j (S j) (rz_tl K V S len Z) := by
  obtain ⟨z1, z2⟩ := hR.n1
  have et : rz_ta K V S 1 10 Z = (0, rz_en S Z) := rz_ta_n (by rw [z1]; exact fun g => hk ⟨g.1, by omega⟩)
  show rz_W j (S j) (rz_el K S (rz_tw K V S len (S Z.1) (rz_ta K V S 1 10 Z).2 (rz_ta K V S 1 10 Z).1))
  rw [et]
  show rz_W j (S j) (rz_el K S (rz_en S Z))
  exact (rz_W.of z1 z2).el
theorem rz_wrong_D {K V S : Nat → Nat} {j : Nat} {X : pz_X} {Z : rz_Z} (hk : ¬ (K j = 3 ∧ 10 ≤ V j ∧ V j < 17)) (hR : rz_Rg S 1 j X Z) : rz_W j (S j) (rz_dl K V S Z) := by
  obtain ⟨z1, z2⟩ := hR.n1
  have c1 := (rz_c3_n1 (cell := 0) (mx := 30) (at9 := S j) (Z := Z)).1
  have et : rz_ta K V S 11 17 (rz_c3 0 30 (S j) Z) = (0, rz_en S (rz_c3 0 30 (S j) Z)) := rz_ta_n (by rw [c1, z1]; exact fun g => hk ⟨g.1, by omega⟩)
  show rz_W j (S j) (rz_el K S (rz_dn (rz_ta K V S 11 17 (rz_c3 0 30 (S Z.1) Z)).1 (rz_dm K V S (rz_ta K V S 11 17 (rz_c3 0 30 (S Z.1) Z)).2 (rz_ta K V S 11 17 (rz_c3 0 30 (S Z.1) Z)).1)))
  rw [z1, et]
  show rz_W j (S j) (rz_el K S (rz_sC (rz_en S (rz_c3 0 30 (S j) Z)) _))
  exact (rz_W.sC (rz_W.of (c1.trans z1) (rz_c3_n1.2 z2))).el
theorem pz_ln_1 {K V S : Nat → Nat} {len w j : Nat} {X : pz_X} : j + 1 ≤ (pz_ln K V S len w j X).1 := by
  show _ ≤ (pz_le K S w j _).1
  unfold pz_le
  split
  · show j + 1 ≤ j + 1 + _ + 1; omega
  · show j + 1 ≤ j + 1 + _; omega
theorem pz_so_T {w : Nat} : pz_so w = 0 ↔ w < 10 := by
  unfold pz_so; by_cases c : w < 10
  · rw [if_pos c]; exact ⟨fun _ => c, fun _ => rfl⟩
  · rw [if_neg c]; exact ⟨fun h => absurd h (by decide), fun h => absurd h c⟩
theorem pz_so_D {w : Nat} : pz_so w = 1 ↔ 10 ≤ w := by
  unfold pz_so; by_cases c : w < 10
  · rw [if_pos c]; exact ⟨fun h => absurd h (by decide), fun h => by omega⟩
  · rw [if_neg c]; exact ⟨fun _ => by omega, fun _ => rfl⟩
/-- good contents, of a town and of a day -/
def pz_I9 (sort : Nat) (X : pz_X) : Prop := (sort = 0 → pz_IV X.2.2.1 X.2.2.2) ∧ (sort = 1 → pz_ID X.2.2.1)
def rz_ln (K V S : Nat → Nat) (len sort : Nat) (Z : rz_Z) : rz_Z := if sort = 0 then rz_tl K V S len Z else rz_dl K V S Z
theorem rz_stepL {K V S : Nat → Nat} {len sort j : Nat} {X : pz_X} {Z : rz_Z} (hT : rz_TS K V S len) (hso : sort < 2) (hX : X.1 = 0 → pz_I9 sort X) (hR : rz_Rg S sort j X Z) : rz_Re S sort (pz_l1 K V S len sort (j, X)) (rz_ln K V S len sort Z) ∧ ((pz_l1 K V S len sort (j, X)).2.1 = 0 → pz_I9 sort (pz_l1 K V S len sort (j, X)).2) ∧ ((pz_l1 K V S len sort (j, X)).2.1 ≠ 1 → j + 1 ≤ (pz_l1 K V S len sort (j, X)).1) := by
  have h17 := (hT j).2.2.1
  by_cases c : K j = 3 ∧ pz_so (V j) = sort
  · have e : pz_l1 K V S len sort (j, X) = pz_ln K V S len (V j) j X := if_pos c
    rw [e]
    rcases (show sort = 0 ∨ sort = 1 by omega) with rfl | rfl
    · have hw := pz_so_T.mp c.2
      refine ⟨rz_line_T hT c.1 hw (fun z => (hX z).1 rfl) hR, fun h => ⟨fun _ => ?_, fun g => absurd g (by decide)⟩, fun _ => pz_ln_1⟩
      have hX0 : X.1 = 0 → pz_IV X.2.2.1 X.2.2.2 := fun z => (hX z).1 rfl
      revert h
      rcases (show V j = 0 ∨ V j = 1 ∨ V j = 2 ∨ V j = 3 ∨ V j = 4 ∨ V j = 5 ∨ V j = 6 ∨ V j = 7 ∨ V j = 8 ∨ V j = 9 by omega) with e | e | e | e | e | e | e | e | e | e <;> rw [e] <;> intro h
      · exact pz_good_0 hX0 h
      · exact pz_good_1 hT hX0 h
      · exact pz_good_2 hT hX0 h
      · exact pz_good_3 hX0 h
      · exact pz_good_4 hX0 h
      · exact pz_good_5 hT hX0 h
      · exact pz_good_6 hT hX0 h
      · exact pz_good_7 hT hX0 h
      · exact pz_good_8 hT hX0 h
      · exact pz_good_9 hT hX0 h
    · have hw := pz_so_D.mp c.2
      have hw2 := h17 c.1
      refine ⟨rz_line_D hT c.1 hw2 hw hR, fun h => ⟨fun g => absurd g (by decide), fun _ => ?_⟩, fun _ => pz_ln_1⟩
      have hX0 : X.1 = 0 → pz_ID X.2.2.1 := fun z => (hX z).2 rfl
      revert h
      rcases (show V j = 10 ∨ V j = 11 ∨ V j = 12 ∨ V j = 13 ∨ V j = 14 ∨ V j = 15 ∨ V j = 16 by omega) with e | e | e | e | e | e | e <;> rw [e] <;> intro h
      · exact pz_good_10 hX0 h
      · exact pz_good_11 hX0 h
      · exact pz_good_12 hX0 h
      · exact pz_good_13 hX0 h
      · exact pz_good_14 hX0 h
      · exact pz_good_15 hX0 h
      · exact pz_good_16 hX0 h
  · have e : pz_l1 K V S len sort (j, X) = (j, (1, S j, X.2.2.1, X.2.2.2)) := if_neg c
    rw [e]
    refine ⟨⟨fun _ => ?_, fun g => absurd rfl g⟩, fun g => absurd (show (1 : Nat) = 0 from g) (by decide), fun g => absurd rfl g⟩
    show rz_W j (S j) _
    rcases (show sort = 0 ∨ sort = 1 by omega) with rfl | rfl
    · exact rz_wrong_T (fun g => c ⟨g.1, pz_so_T.mpr g.2⟩) hR
    · exact rz_wrong_D (fun g => c ⟨g.1, pz_so_D.mpr g.2.1⟩) hR
/-- how the counts grow -/
theorem rz_pr_k {cell mx base a b k : Nat} {Z : rz_Z} (hk : k < 8) (hb : 8 ≤ base) : (rz_pr cell mx base a b Z).2.2.2.2 k ≤ Z.2.2.2.2 k + 1 := by
  show pz_up (if Z.2.2.2.2 cell < mx then pz_up (pz_up Z.2.2.2.2 (base + 2 * Z.2.2.2.2 cell) a) (base + 2 * Z.2.2.2.2 cell + 1) b else Z.2.2.2.2) cell (Z.2.2.2.2 cell + 1) k ≤ _
  by_cases c : k = cell
  · rw [pz_up_if c, c]; exact Nat.le_refl _
  · rw [pz_up_ne c]
    split
    · rw [pz_up_ne (by omega), pz_up_ne (by omega)]; omega
    · omega
theorem rz_p1_k {cell mx base w a k : Nat} {Z : rz_Z} (hk : k < 8) (hb : 8 ≤ base) : (rz_p1 cell mx base w a Z).2.2.2.2 k ≤ Z.2.2.2.2 k + 1 := by
  show pz_up (if Z.2.2.2.2 cell < mx then pz_up Z.2.2.2.2 (base + w * Z.2.2.2.2 cell) a else Z.2.2.2.2) cell (Z.2.2.2.2 cell + 1) k ≤ _
  by_cases c : k = cell
  · rw [pz_up_if c, c]; exact Nat.le_refl _
  · rw [pz_up_ne c]
    split
    · rw [pz_up_ne (by have := Nat.le_add_right base (w * Z.2.2.2.2 cell); omega)]; omega
    · omega
theorem rz_pm_k {a b h f k : Nat} {Z : rz_Z} (hk : k < 8) : (rz_pm a b h f Z).2.2.2.2 k ≤ Z.2.2.2.2 k + 1 := by
  show pz_up (if Z.2.2.2.2 4 < 12 then pz_up (pz_up (pz_up (pz_up Z.2.2.2.2 (79 + 4 * Z.2.2.2.2 4) a) (79 + 4 * Z.2.2.2.2 4 + 1) b) (79 + 4 * Z.2.2.2.2 4 + 2) h) (79 + 4 * Z.2.2.2.2 4 + 3) f else Z.2.2.2.2) 4 (Z.2.2.2.2 4 + 1) k ≤ _
  by_cases c : k = 4
  · rw [pz_up_if c, c]; exact Nat.le_refl _
  · rw [pz_up_ne c]
    split
    · rw [pz_up_ne (by omega), pz_up_ne (by omega), pz_up_ne (by omega), pz_up_ne (by omega)]; omega
    · omega
theorem rz_el_C {K S : Nat → Nat} {Z : rz_Z} : (rz_el K S Z).2.2.2.2 = Z.2.2.2.2 := by
  unfold rz_el; split
  · rfl
  · exact rz_en_C
theorem rz_bp_k {kn p r k : Nat} {Z : rz_Z} (hk : k < 8) : (rz_bp kn p r Z).2.2.2.2 k = Z.2.2.2.2 k := by
  unfold rz_bp
  by_cases c : p < 5 ∧ r ≠ 4294967295
  · rw [if_pos c]
    exact pz_up_ne (by split <;> omega)
  · rw [if_neg c]
theorem rz_b1_C {K V S : Nat → Nat} {kn : Nat} {Z : rz_Z} : (rz_b1 K V S kn Z).2.2.2.2.2 = Z.2.2.2.2 := by
  unfold rz_b1; split
  · exact rz_nu_C
  · exact rz_fa_C
theorem rz_bl_k {K V S : Nat → Nat} {kn p k : Nat} (hk : k < 8) : ∀ f many Z, (rz_bl K V S kn p f many Z).2.2.2.2 k = Z.2.2.2.2 k := by
  intro f
  induction f with
  | zero => intro many Z; rfl
  | succ f ih =>
    intro many Z
    show (if Z.2.1 ≠ 1 ∧ (many = 0 ∨ K Z.1 = 1) then rz_bl K V S kn p f (many + 1) (rz_bp kn p (rz_b1 K V S kn Z).1 (rz_b1 K V S kn Z).2) else Z).2.2.2.2 k = _
    split
    · rw [ih, rz_bp_k hk, rz_b1_C]
    · rfl
theorem rz_bi_k {K V S : Nat → Nat} {len kn k : Nat} {Z : rz_Z} (hk : k < 8) : (rz_bi K V S len kn Z).2.2.2.2 k = Z.2.2.2.2 k := by
  unfold rz_bi
  rw [rz_bl_k hk, rz_nu_C]
theorem rz_ce_k {c k : Nat} {a : Nat × rz_Z} (h : k ≠ c) : (rz_ce c a).2.2.2.2 k = a.2.2.2.2.2 k := pz_up_ne h
theorem rz_tw_k {K V S : Nat → Nat} {len at9 k w : Nat} {Z : rz_Z} (hk1 : 1 ≤ k) (hk6 : k ≤ 6) (hw : w ≤ 10) : (rz_tw K V S len at9 Z w).2.2.2.2 k ≤ Z.2.2.2.2 k + 1 := by
  rcases (show w = 0 ∨ w = 1 ∨ w = 2 ∨ w = 3 ∨ w = 4 ∨ w = 5 ∨ w = 6 ∨ w = 7 ∨ w = 8 ∨ w = 9 ∨ w = 10 by omega) with rfl | rfl | rfl | rfl | rfl | rfl | rfl | rfl | rfl | rfl | rfl
  · exact Nat.le_succ _
  · show (rz_ce 0 (rz_nu K V S 1 11 Z)).2.2.2.2 k ≤ _
    rw [rz_ce_k (by omega), rz_nu_C]; exact Nat.le_succ _
  · refine Nat.le_trans (rz_pr_k (by omega) (by decide)) ?_
    rw [rz_un_C, rz_fa_C, rz_c3_C]; exact Nat.le_refl _
  · refine Nat.le_trans (rz_p1_k (by omega) (by decide)) ?_
    rw [rz_nu_C, rz_c3_C]; exact Nat.le_refl _
  · show (rz_bi K V S len 1 Z).2.2.2.2 k ≤ _
    rw [rz_bi_k (by omega)]; exact Nat.le_succ _
  · show (rz_bi K V S len 0 Z).2.2.2.2 k ≤ _
    rw [rz_bi_k (by omega)]; exact Nat.le_succ _
  · refine Nat.le_trans (rz_pr_k (by omega) (by decide)) ?_
    rw [rz_fa_C, rz_nu_C, rz_c3_C]; exact Nat.le_refl _
  · refine Nat.le_trans (rz_pm_k (by omega)) ?_
    show (rz_fa K V S (rz_nu K V S 1 10 (rz_nu K V S 0 ((rz_dup K V S (rz_nu K V S 0 ((rz_c3 4 12 at9 Z).2.2.2.2 2) (rz_c3 4 12 at9 Z)).1 (rz_nu K V S 0 ((rz_c3 4 12 at9 Z).2.2.2.2 2) (rz_c3 4 12 at9 Z)).2).2.2.2.2 2) (rz_dup K V S (rz_nu K V S 0 ((rz_c3 4 12 at9 Z).2.2.2.2 2) (rz_c3 4 12 at9 Z)).1 (rz_nu K V S 0 ((rz_c3 4 12 at9 Z).2.2.2.2 2) (rz_c3 4 12 at9 Z)).2)).2).2).2.2.2.2.2 k + 1 ≤ _
    rw [rz_fa_C, rz_nu_C, rz_nu_C, rz_dup_C, rz_nu_C, rz_c3_C]; exact Nat.le_refl _
  · refine Nat.le_trans (rz_pr_k (by omega) (by decide)) ?_
    rw [rz_un_C, rz_nu_C, rz_c3_C]; exact Nat.le_refl _
  · refine Nat.le_trans (rz_pr_k (by omega) (by decide)) ?_
    rw [rz_un_C, rz_nu_C, rz_c3_C]; exact Nat.le_refl _
  · show (rz_ce 7 (rz_nu K V S 0 100 Z)).2.2.2.2 k ≤ _
    rw [rz_ce_k (by omega), rz_nu_C]; exact Nat.le_succ _
theorem rz_dm_C {K V S : Nat → Nat} {k : Nat} {Z : rz_Z} : (rz_dm K V S Z k).2.2.2.2.2.2.2 = Z.2.2.2.2 := by
  unfold rz_dm
  split
  · rfl
  · split
    · show (rz_nu K V S 0 10 (rz_nu K V S 0 5 (rz_dup K V S (rz_nu K V S 0 5 Z).1 (rz_nu K V S 0 5 Z).2)).2).2.2.2.2.2 = _
      rw [rz_nu_C, rz_nu_C, rz_dup_C, rz_nu_C]
    · show (rz_nu K V S 0 10 (rz_nu K V S 0 5 Z).2).2.2.2.2.2 = _
      rw [rz_nu_C, rz_nu_C]
theorem rz_ln_k {K V S : Nat → Nat} {len sort k : Nat} {Z : rz_Z} (hso : sort < 2) (hk : k ≤ 6) (h : sort = 0 → 1 ≤ k) (h1 : sort = 1 → k = 0) : (rz_ln K V S len sort Z).2.2.2.2 k ≤ Z.2.2.2.2 k + 1 := by
  rcases (show sort = 0 ∨ sort = 1 by omega) with rfl | rfl
  · show (rz_tl K V S len Z).2.2.2.2 k ≤ _
    unfold rz_tl
    rw [rz_el_C]
    have hb : (rz_ta K V S 1 10 Z).1 ≤ 10 := by
      rcases rz_ta_b (K := K) (V := V) (S := S) (a := 1) (b := 10) (Z := Z) with g | g <;> omega
    refine Nat.le_trans (rz_tw_k (h rfl) hk hb) ?_
    rw [rz_ta_C]; exact Nat.le_refl _
  · have e := h1 rfl
    subst e
    show (rz_dl K V S Z).2.2.2.2 0 ≤ _
    unfold rz_dl
    rw [rz_el_C]
    have e9 : ∀ (k9 : Nat) (x : Nat × Nat × Nat × rz_Z), (rz_dn k9 x).2.2.2.2 0 = x.2.2.2.2.2.2.2 0 + 1 := fun k9 x => rfl
    rw [e9, rz_dm_C, rz_ta_C, rz_c3_C]; exact Nat.le_refl _
/-- told facts bound what is told -/
theorem pz_IV.ok {C : Nat → Nat} {tf : Nat} (h : pz_IV C tf) (ht : tf < 2 ^ C 0) : fg_ok C := by
  obtain ⟨⟨h0, h7, h1⟩, hc, hrow, hz⟩ := h
  have tb : ∀ x, tf.testBit x = true → x < C 0 := fun x hx => by
    rcases Nat.lt_or_ge x (C 0) with g | g
    · exact g
    · rw [Nat.testBit_lt_two_pow (Nat.lt_of_lt_of_le ht (Nat.pow_le_pow_right (by decide) g))] at hx; exact absurd hx (by decide)
  have tl : ∀ s, fg_le s tf → s < 2 ^ C 0 := fun s hs => fg_le_lt hs ht
  refine ⟨h0, ⟨hc 0 (by decide), hc 1 (by decide), hc 2 (by decide), hc 3 (by decide), hc 4 (by decide), hc 5 (by decide), h7⟩, fun r hr => ?_, fun r hr => ?_, fun r hr => ?_, fun r hr => ?_, fun r hr => ?_, fun r hr => ?_⟩
  · have a : pz_ro1 C tf r 0 := hrow 0 (by decide) r hr (Or.inl (by decide))
    obtain ⟨a1, a2, a3, a4⟩ := a
    rw [show 8 + 2 * r = 8 + (r * 2 + 0) by omega, show 9 + 2 * r = 8 + (r * 2 + 1) by omega]
    exact ⟨tb _ a2, tl _ a3, a4⟩
  · have a : pz_ro1 C tf r 1 := hrow 1 (by decide) r hr (Or.inl (by decide))
    obtain ⟨a1, a2, a3⟩ := a
    rw [show 40 + 3 * r = 40 + (r * 3 + 0) by omega, show 41 + 3 * r = 40 + (r * 3 + 1) by omega, show 42 + 3 * r = 40 + (r * 3 + 2) by omega]
    exact ⟨a1, tl _ a2, a3⟩
  · have a : pz_ro1 C tf r 2 := hrow 2 (by decide) r hr (Or.inl (by decide))
    obtain ⟨a1, a2⟩ := a
    rw [show 55 + 2 * r = 55 + (r * 2 + 0) by omega, show 56 + 2 * r = 55 + (r * 2 + 1) by omega]
    exact ⟨a1, tb _ a2⟩
  · have a : pz_ro1 C tf r 3 := hrow 3 (by decide) r hr (Or.inl (by decide))
    obtain ⟨a1, a2, a3, a4⟩ := a
    rw [show 79 + 4 * r = 79 + (r * 4 + 0) by omega, show 80 + 4 * r = 79 + (r * 4 + 1) by omega, show 81 + 4 * r = 79 + (r * 4 + 2) by omega, show 82 + 4 * r = 79 + (r * 4 + 3) by omega]
    exact ⟨a1, a2, a3, tb _ a4⟩
  · have a : pz_ro1 C tf r 4 := hrow 4 (by decide) r hr (Or.inl (by decide))
    obtain ⟨a1, a2⟩ := a
    rw [show 127 + 2 * r = 127 + (r * 2 + 0) by omega, show 128 + 2 * r = 127 + (r * 2 + 1) by omega]
    exact ⟨a1, tl _ a2⟩
  · have a : pz_ro1 C tf r 5 := hrow 5 (by decide) r hr (Or.inl (by decide))
    obtain ⟨a1, a2⟩ := a
    rw [show 139 + 2 * r = 139 + (r * 2 + 0) by omega, show 140 + 2 * r = 139 + (r * 2 + 1) by omega]
    exact ⟨a1, tl _ a2⟩
theorem pz_I9_0 {sort : Nat} (hso : sort < 2) : pz_I9 sort (0, 0, pz_C0 sort, 0) := by
  refine ⟨fun e => ?_, fun e => ?_⟩
  · subst e
    have z : ∀ k, k ≠ 0 → k ≠ 7 → fg_T0 k = 0 := fun k a b => (if_neg a).trans (if_neg b)
    refine ⟨⟨⟨by decide, by decide⟩, by decide, by decide⟩, fun u hu => ?_, fun u hu k hk _ => ?_, fun n _ hn => ?_⟩
    · show fg_T0 (pz_ci u) ≤ _
      have : ∀ u, u < 6 → pz_ci u ≠ 0 ∧ pz_ci u ≠ 7 := by decide
      rw [z _ (this u hu).1 (this u hu).2]; exact Nat.zero_le _
    · have : ∀ u, u < 6 → pz_ci u ≠ 0 ∧ pz_ci u ≠ 7 := by decide
      have hk2 : k < fg_T0 (pz_ci u) := hk
      rw [z _ (this u hu).1 (this u hu).2] at hk2
      omega
    · exact ⟨z (40 + (n * 3 + 1)) (by omega) (by omega), z (40 + (n * 3 + 2)) (by omega) (by omega)⟩
  · subst e
    exact ⟨Nat.zero_le _, fun k hk => absurd (show k < 0 from hk) (Nat.not_lt_zero _)⟩
theorem rz_Rg_0 {S : Nat → Nat} {sort j : Nat} (hj : j = 0) : rz_Rg S sort j (0, 0, pz_C0 sort, 0) (j, 0, 0, 0, pz_C0 sort) := ⟨⟨rfl, by show (0 : Nat) ≠ 1; decide, Or.inl rfl, fun g => absurd rfl g, fun _ => ⟨rfl, fun g => absurd rfl g⟩⟩, fun _ => ⟨rfl, fun _ => rz_gt_0⟩⟩
/-- good is what the reader keeps -/
theorem pz_pa_I9 {K V S : Nat → Nat} {len sort : Nat} (hT : rz_TS K V S len) (hso : sort < 2) : ∀ f j X Z, rz_Rg S sort j X Z → (X.1 = 0 → pz_I9 sort X) → ((pz_pa K V S len sort f (j, X)).2.1 = 0 → pz_I9 sort (pz_pa K V S len sort f (j, X)).2) := by
  intro f
  induction f with
  | zero => intro j X Z _ hX h; exact hX h
  | succ f ih =>
    intro j X Z hR hX
    show (if X.1 = 1 ∨ K j = 0 then (j, X) else pz_pa K V S len sort f (pz_l1 K V S len sort (j, X))).2.1 = 0 → pz_I9 sort (if X.1 = 1 ∨ K j = 0 then (j, X) else pz_pa K V S len sort f (pz_l1 K V S len sort (j, X))).2
    by_cases c : X.1 = 1 ∨ K j = 0
    · rw [if_pos c]; exact hX
    · rw [if_neg c]
      obtain ⟨a, b, d⟩ := rz_stepL hT hso hX hR
      generalize pz_l1 K V S len sort (j, X) = s at *
      obtain ⟨j2, X2⟩ := s
      by_cases g : X2.1 = 1
      · have e : pz_pa K V S len sort f (j2, X2) = (j2, X2) := by
          cases f with
          | zero => rfl
          | succ f => exact if_pos (Or.inl g)
        rw [e]; exact b
      · exact ih j2 X2 _ (a.2 g) b
theorem pz_rs_I9 {b : Nat → Nat} {len sort : Nat} (hso : sort < 2) (h : (pz_rs (pz_K b len) (pz_V b len) (pz_S b len) len sort).2.1 = 0) : pz_I9 sort (pz_rs (pz_K b len) (pz_V b len) (pz_S b len) len sort).2 := pz_pa_I9 (rz_TS_of b len) hso len 0 _ _ (rz_Rg_0 rfl) (fun _ => pz_I9_0 hso) h
theorem pz_rd_e {b : Nat → Nat} {len sort : Nat} : pz_rd b len sort = pz_re len sort (pz_rs (pz_K b len) (pz_V b len) (pz_S b len) len sort).2 := rfl
theorem pz_rd_ok {b : Nat → Nat} {len : Nat} (h : (pz_rd b len 0).1 = 0) : fg_ok (pz_rd b len 0).2.2 := by
  rw [pz_rd_e] at h ⊢
  have hI := pz_rs_I9 (b := b) (len := len) (sort := 0) (by decide)
  generalize (pz_rs (pz_K b len) (pz_V b len) (pz_S b len) len 0) = s at *
  obtain ⟨j, F, Pl, C, tf⟩ := s
  unfold pz_re at h ⊢
  by_cases c : F = 0 ∧ 0 = 0 ∧ ¬ tf < 2 ^ C 0
  · rw [if_pos c] at h; exact absurd (show (4 : Nat) = 0 from h) (by decide)
  · rw [if_neg c] at h ⊢
    have h0 : F = 0 := h
    have ht : tf < 2 ^ C 0 := Classical.byContradiction fun g => c ⟨h0, rfl, g⟩
    exact ((hI h0).1 rfl).ok ht
theorem pz_rd_dok {b : Nat → Nat} {len : Nat} (h : (pz_rd b len 1).1 = 0) : pz_ID (pz_rd b len 1).2.2 := by
  rw [pz_rd_e] at h ⊢
  have hI := pz_rs_I9 (b := b) (len := len) (sort := 1) (by decide)
  generalize (pz_rs (pz_K b len) (pz_V b len) (pz_S b len) len 1) = s at *
  obtain ⟨j, F, Pl, C, tf⟩ := s
  unfold pz_re at h ⊢
  rw [if_neg (fun g => absurd g.2.1 (by decide))] at h ⊢
  have h0 : F = 0 := h
  exact (hI h0).2 rfl
