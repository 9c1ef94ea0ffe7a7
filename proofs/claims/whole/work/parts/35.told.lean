theorem ev_Town_hasFactX {E : fg_E} {d : Nat} {μ : Nat → Nat → Int32} {R : fg_T4} {Q : Option Value → fg_M → Prop} {t : Nat} {T : Nat → Nat} (ht : fg_isT t) (hT : fg_TW μ t T) (hok : fg_ok T) {k : Nat} (hk : k < 2 ^ 32) (hQ : Q (some (.int (fg_bI (k < T 0)))) (μ, fg_rho R, 304)) : fg_Ev E yy_Town_hasFact (d + 1) [.ref t, .int (nI k)] (μ, fg_rho R, 304) 304 Q := by
  rcases Nat.lt_or_ge k (2 ^ 31) with g | g
  · exact ev_Town_hasFact ht hT hok g hQ
  · have hb := hok.1
    refine ev_Town_hasFactNeg ht hT hok ((fg_neg hk).mpr g) ?_
    rw [fg_bF (by omega)] at hQ
    exact hQ
theorem ev_Town_hasPersonX {E : fg_E} {d : Nat} {μ : Nat → Nat → Int32} {R : fg_T4} {Q : Option Value → fg_M → Prop} {t : Nat} {T : Nat → Nat} (ht : fg_isT t) (hT : fg_TW μ t T) (hok : fg_ok T) {k : Nat} (hk : k < 2 ^ 32) (hQ : Q (some (.int (fg_bI (k < T 2)))) (μ, fg_rho R, 304)) : fg_Ev E yy_Town_hasPerson (d + 1) [.ref t, .int (nI k)] (μ, fg_rho R, 304) 304 Q := by
  rcases Nat.lt_or_ge k (2 ^ 31) with g | g
  · exact ev_Town_hasPerson ht hT hok g hQ
  · have hb := hok.2.1
    refine ev_Town_hasPersonNeg ht hT hok ((fg_neg hk).mpr g) ?_
    rw [fg_bF (by omega)] at hQ
    exact hQ
theorem ev_Town_hasFactsX {E : fg_E} {d : Nat} {μ : Nat → Nat → Int32} {R : fg_T4} {Q : Option Value → fg_M → Prop} {t : Nat} {T : Nat → Nat} (ht : fg_isT t) (hT : fg_TW μ t T) (hok : fg_ok T) {k : Nat} (hk : k < 2 ^ 32) (hQ : Q (some (.int (fg_bI (k < 2 ^ T 0)))) (μ, fg_rho R, 304)) : fg_Ev E yy_Town_hasFacts (d + 2) [.ref t, .int (nI k)] (μ, fg_rho R, 304) 304 Q := by
  rcases Nat.lt_or_ge k (2 ^ 31) with g | g
  · exact ev_Town_hasFacts ht hT hok g hQ
  · have hb := hok.p
    refine ev_Town_hasFactsNeg ht hT hok ((fg_neg hk).mpr g) ?_
    rw [fg_bF (by omega)] at hQ
    exact hQ
theorem ev_Fb_isInX {E : fg_E} {d s k : Nat} {M : fg_M} {Q : Option Value → fg_M → Prop} (hs : s < 2 ^ 31) (hk : k < 2 ^ 32) (hQ : Q (some (.int (fg_bI (s.testBit k = true)))) M) : fg_Ev E yy_Fb_isIn (d + 1) [.int (nI s), .int (nI k)] M M.2.2 Q := by
  rcases Nat.lt_or_ge k (2 ^ 31) with g | g
  · exact ev_Fb_isIn hs g hQ
  · refine ev_Fb_isInNeg ((fg_neg hk).mpr g) ?_
    rw [fg_bF (fun h => absurd (fg_bit_lt hs h) (by omega))] at hQ
    exact hQ
theorem ev_Fb_isKind {E : fg_E} {d : Nat} {μ : Nat → Nat → Int32} {R : fg_T4} {Q : Option Value → fg_M → Prop} {k : Nat} (hk : k < 2 ^ 32) (hQ : Q (some (.int (fg_bI (k < 3)))) (μ, fg_rho R, 304)) : fg_Ev E yy_Fb_isKind (d + 1) [.int (nI k)] (μ, fg_rho R, 304) 304 Q := by
  refine fg_intro (by decide +kernel) (Nat.le_of_ble_eq_true rfl) (fg_okAs rfl) (Nat.le_refl _) ?_
  refine fg_iloadn (fg_ft (pc := 0) tb_Fb_isKind 0 rfl) rfl ?_
  refine fg_if_ltW (tgt := 13) (fg_ft (pc := 1) tb_Fb_isKind 1 rfl) (by decide) (hk) (fun c1 => ?_) (fun c1 => ?_)
  · refine fg_iconst (fg_ft (pc := 13) tb_Fb_isKind 7 rfl) ic_0 ?_
    exact fg_zret (fg_ft (pc := 14) tb_Fb_isKind 8 rfl) rfl (by decide) rfl (by rw [fg_bF (by omega)] at hQ; exact hQ)
  · refine fg_iloadn (fg_ft (pc := 4) tb_Fb_isKind 2 rfl) rfl ?_
    refine fg_iconst (fg_ft (pc := 5) tb_Fb_isKind 3 rfl) ic_2 ?_
    refine fg_icmp_gtN (tgt := 13) (fg_ft (pc := 6) tb_Fb_isKind 4 rfl) (by decide) (by omega) (by decide) (fun c6 => ?_) (fun c6 => ?_)
    · refine fg_iconst (fg_ft (pc := 13) tb_Fb_isKind 7 rfl) ic_0 ?_
      exact fg_zret (fg_ft (pc := 14) tb_Fb_isKind 8 rfl) rfl (by decide) rfl (by rw [fg_bF (by omega)] at hQ; exact hQ)
    · refine fg_iconst (fg_ft (pc := 9) tb_Fb_isKind 5 rfl) ic_1 ?_
      refine fg_goto (tgt := 14) (fg_ft (pc := 10) tb_Fb_isKind 6 rfl) (by decide) ?_
      exact fg_zret (fg_ft (pc := 14) tb_Fb_isKind 8 rfl) rfl (by decide) rfl (by rw [fg_bT (by omega)] at hQ; exact hQ)
theorem ev_Rows_cellX {E : fg_E} {d : Nat} {μ : Nat → Nat → Int32} {R : fg_T4} {Q : Option Value → fg_M → Prop} {r c n w sz : Nat} (hr : fg_rows R r c n) (hw : μ r 0 = nI w) (hs : μ r 2 = nI sz) (hf : sz * w ≤ n) (hwl : w < 2 ^ 31) (hz : sz < 2 ^ 31) {i j : Nat} (hi : i < 2 ^ 32) (hj : j < 2 ^ 32) (hY : i < sz → j < w → Q (some (.int (μ c (i * w + j)))) (μ, fg_rho R, 304)) (hN : ¬ (i < sz ∧ j < w) → Q (some (.int (-1))) (μ, fg_rho R, 304)) : fg_Ev E yy_Rows_cell (d + 1) [.ref r, .int (nI i), .int (nI j)] (μ, fg_rho R, 304) 304 Q := by
  by_cases h : i < sz ∧ j < w
  · exact ev_Rows_cell hr hw hs hf hwl hz h.1 h.2 rfl (hY h.1 h.2)
  · refine ev_Rows_cellOut hr hw hs hf hwl hz (fun hh => h ?_) (hN h)
    obtain ⟨k1, h1, e1⟩ := (fg_inN hz).mp ⟨hh.1, hh.2.1⟩
    obtain ⟨k2, h2, e2⟩ := (fg_inN hwl).mp ⟨hh.2.2.1, hh.2.2.2⟩
    have g1 := fg_nI_injW hi (by omega) e1
    have g2 := fg_nI_injW hj (by omega) e2
    omega
/-! what is told -/
abbrev fg_Tl : Type := Nat × (Nat → Int32) × Nat × Int32 × Nat × Nat × (Nat → Nat → Nat) × (Nat → Nat → Int32) × (Nat → Nat)
def fg_Tl.len (A : fg_Tl) : Nat := A.1
def fg_Tl.tape (A : fg_Tl) : Nat → Int32 := A.2.1
def fg_Tl.fault (A : fg_Tl) : Nat := A.2.2.1
def fg_Tl.place (A : fg_Tl) : Int32 := A.2.2.2.1
def fg_Tl.tc (A : fg_Tl) : Nat := A.2.2.2.2.1
def fg_Tl.dc (A : fg_Tl) : Nat := A.2.2.2.2.2.1
def fg_Tl.ts (A : fg_Tl) : Nat → Nat → Nat := A.2.2.2.2.2.2.1
def fg_Tl.ds (A : fg_Tl) : Nat → Nat → Int32 := A.2.2.2.2.2.2.2.1
def fg_Tl.nd (A : fg_Tl) : Nat → Nat := A.2.2.2.2.2.2.2.2
def fg_dok (D : Nat → Int32) (nd : Nat) : Prop := ∀ k, k < nd → ∃ kd a b c, fg_ac D k kd a b c
def fg_TL (μ : Nat → Nat → Int32) (b : Nat) (A : fg_Tl) : Prop := (μ b 1 = nI A.len ∧ A.len ≤ 600) ∧ (∀ j, j < 600 → μ (b + 1) j = A.tape j) ∧ (μ b 2 = nI A.fault ∧ μ b 3 = A.place) ∧ (μ b 4 = nI A.tc ∧ A.tc ≤ 2) ∧ (μ b 5 = nI A.dc ∧ A.dc ≤ 3) ∧
  (∀ i, i < A.tc → fg_TW μ (b + 3 + 14 * i) (A.ts i) ∧ fg_ok (A.ts i)) ∧ (∀ i, i < A.dc → fg_DW μ (b + 32 + 2 * i) (A.ds i) (A.nd i) ∧ fg_dok (A.ds i) (A.nd i)) ∧ (∀ i, i < 2 → fg_wdT μ (b + 3 + 14 * i)) ∧ ∀ i, i < 3 → μ (b + 32 + 2 * i) 0 = nI 4
theorem rh_103g {R : fg_T4} {i : Nat} (h : i < 2) : fg_rho R 103 i = some (104 + 14 * i) := by
  rcases (show i = 0 ∨ i = 1 by omega) with rfl | rfl <;> rfl
theorem rh_132g {R : fg_T4} {i : Nat} (h : i < 3) : fg_rho R 132 i = some (133 + 2 * i) := by
  rcases (show i = 0 ∨ i = 1 ∨ i = 2 by omega) with rfl | rfl | rfl <;> rfl
def fg_plf (A : fg_Tl) (s a : Nat) : Option Nat := if s = 0 then (if a = 4294967295 then (if A.tc < 2 then some A.tc else none) else if a < A.tc then some a else none) else if s = 1 then (if a = 4294967295 then (if A.dc < 3 then some A.dc else none) else if a < A.dc then some a else none) else none
theorem ev_Told_townAt {E : fg_E} {d : Nat} {μ : Nat → Nat → Int32} {R : fg_T4} {Q : Option Value → fg_M → Prop} {A : fg_Tl} (hA : fg_TL μ 101 A) {i : Nat} (hi : i < 2 ^ 32) (hN : ¬ i < A.tc → Q (some .null) (μ, fg_rho R, 304)) (hY : i < A.tc → Q (some (.ref (104 + 14 * i))) (μ, fg_rho R, 304)) : fg_Ev E yy_Told_townAt (d + 1) [.ref 101, .int (nI i)] (μ, fg_rho R, 304) 304 Q := by
  have ht2 := hA.2.2.2.1.2
  have hd3 := hA.2.2.2.2.1.2
  refine fg_intro (by decide +kernel) (Nat.le_of_ble_eq_true rfl) (fg_okAs rfl) (Nat.le_refl _) ?_
  refine fg_iloadn (fg_ft (pc := 0) tb_Told_townAt 0 rfl) rfl ?_
  refine fg_if_ltW (tgt := 30) (fg_ft (pc := 1) tb_Told_townAt 1 rfl) (by decide) (hi) (fun c1 => ?_) (fun c1 => ?_)
  · refine fg_null (fg_ft (pc := 30) tb_Told_townAt 16 rfl) ?_
    exact fg_nret (fg_ft (pc := 31) tb_Told_townAt 17 rfl) rfl (by first | exact Or.inl ⟨_, rfl⟩ | exact Or.inr ⟨_, rfl⟩) rfl (hN (by omega))
  · refine fg_iloadn (fg_ft (pc := 4) tb_Told_townAt 2 rfl) rfl ?_
    refine fg_aloadn (fg_ft (pc := 5) tb_Told_townAt 3 rfl) rfl ?_
    refine fg_getV (v := (nI (A.tc))) (fg_ft (pc := 6) tb_Told_townAt 4 rfl) ff_Told_38 ly_101 rfl (fg_lt ly_101 (by decide)) hA.2.2.2.1.1 ?_
    refine fg_icmp_geN (tgt := 30) (fg_ft (pc := 9) tb_Told_townAt 5 rfl) (by decide) (by omega) (by omega) (fun c9 => ?_) (fun c9 => ?_)
    · refine fg_null (fg_ft (pc := 30) tb_Told_townAt 16 rfl) ?_
      exact fg_nret (fg_ft (pc := 31) tb_Told_townAt 17 rfl) rfl (by first | exact Or.inl ⟨_, rfl⟩ | exact Or.inr ⟨_, rfl⟩) rfl (hN (by omega))
    · refine fg_iloadn (fg_ft (pc := 12) tb_Told_townAt 6 rfl) rfl ?_
      refine fg_aloadn (fg_ft (pc := 13) tb_Told_townAt 7 rfl) rfl ?_
      refine fg_getR (fg_ft (pc := 14) tb_Told_townAt 8 rfl) ff_Told_21 ly_101 rfl (fg_lt ly_101 (by decide)) (rh_101_6 R) ?_
      refine fg_alen (fg_ft (pc := 17) tb_Told_townAt 9 rfl) ly_103 (by decide) (fg_lt ly_103 (by decide)) ?_
      refine fg_icmp_geN (tgt := 30) (fg_ft (pc := 18) tb_Told_townAt 10 rfl) (by decide) (by omega) (by decide) (fun c18 => (absurd c18 (by omega))) (fun c18 => ?_)
      refine fg_aloadn (fg_ft (pc := 21) tb_Told_townAt 11 rfl) rfl ?_
      refine fg_getR (fg_ft (pc := 22) tb_Told_townAt 12 rfl) ff_Told_21 ly_101 rfl (fg_lt ly_101 (by decide)) (rh_101_6 R) ?_
      refine fg_iloadn (fg_ft (pc := 25) tb_Told_townAt 13 rfl) rfl ?_
      refine fg_aaldN (fg_ft (pc := 26) tb_Told_townAt 14 rfl) ly_103 (by decide) (fg_lt ly_103 (by decide)) (by omega) (rh_103g (R := R) (by omega)) ?_
      refine fg_goto (tgt := 31) (fg_ft (pc := 27) tb_Told_townAt 15 rfl) (by decide) ?_
      exact fg_aret (fg_ft (pc := 31) tb_Told_townAt 17 rfl) rfl (by first | exact Or.inl ⟨_, rfl⟩ | exact Or.inr ⟨_, rfl⟩) rfl (hY (by omega))
theorem ev_Told_dayAt {E : fg_E} {d : Nat} {μ : Nat → Nat → Int32} {R : fg_T4} {Q : Option Value → fg_M → Prop} {A : fg_Tl} (hA : fg_TL μ 101 A) {i : Nat} (hi : i < 2 ^ 32) (hN : ¬ i < A.dc → Q (some .null) (μ, fg_rho R, 304)) (hY : i < A.dc → Q (some (.ref (133 + 2 * i))) (μ, fg_rho R, 304)) : fg_Ev E yy_Told_dayAt (d + 1) [.ref 101, .int (nI i)] (μ, fg_rho R, 304) 304 Q := by
  have ht2 := hA.2.2.2.1.2
  have hd3 := hA.2.2.2.2.1.2
  refine fg_intro (by decide +kernel) (Nat.le_of_ble_eq_true rfl) (fg_okAs rfl) (Nat.le_refl _) ?_
  refine fg_iloadn (fg_ft (pc := 0) tb_Told_dayAt 0 rfl) rfl ?_
  refine fg_if_ltW (tgt := 30) (fg_ft (pc := 1) tb_Told_dayAt 1 rfl) (by decide) (hi) (fun c1 => ?_) (fun c1 => ?_)
  · refine fg_null (fg_ft (pc := 30) tb_Told_dayAt 16 rfl) ?_
    exact fg_nret (fg_ft (pc := 31) tb_Told_dayAt 17 rfl) rfl (by first | exact Or.inl ⟨_, rfl⟩ | exact Or.inr ⟨_, rfl⟩) rfl (hN (by omega))
  · refine fg_iloadn (fg_ft (pc := 4) tb_Told_dayAt 2 rfl) rfl ?_
    refine fg_aloadn (fg_ft (pc := 5) tb_Told_dayAt 3 rfl) rfl ?_
    refine fg_getV (v := (nI (A.dc))) (fg_ft (pc := 6) tb_Told_dayAt 4 rfl) ff_Told_41 ly_101 rfl (fg_lt ly_101 (by decide)) hA.2.2.2.2.1.1 ?_
    refine fg_icmp_geN (tgt := 30) (fg_ft (pc := 9) tb_Told_dayAt 5 rfl) (by decide) (by omega) (by omega) (fun c9 => ?_) (fun c9 => ?_)
    · refine fg_null (fg_ft (pc := 30) tb_Told_dayAt 16 rfl) ?_
      exact fg_nret (fg_ft (pc := 31) tb_Told_dayAt 17 rfl) rfl (by first | exact Or.inl ⟨_, rfl⟩ | exact Or.inr ⟨_, rfl⟩) rfl (hN (by omega))
    · refine fg_iloadn (fg_ft (pc := 12) tb_Told_dayAt 6 rfl) rfl ?_
      refine fg_aloadn (fg_ft (pc := 13) tb_Told_dayAt 7 rfl) rfl ?_
      refine fg_getR (fg_ft (pc := 14) tb_Told_dayAt 8 rfl) ff_Told_28 ly_101 rfl (fg_lt ly_101 (by decide)) (rh_101_7 R) ?_
      refine fg_alen (fg_ft (pc := 17) tb_Told_dayAt 9 rfl) ly_132 (by decide) (fg_lt ly_132 (by decide)) ?_
      refine fg_icmp_geN (tgt := 30) (fg_ft (pc := 18) tb_Told_dayAt 10 rfl) (by decide) (by omega) (by decide) (fun c18 => (absurd c18 (by omega))) (fun c18 => ?_)
      refine fg_aloadn (fg_ft (pc := 21) tb_Told_dayAt 11 rfl) rfl ?_
      refine fg_getR (fg_ft (pc := 22) tb_Told_dayAt 12 rfl) ff_Told_28 ly_101 rfl (fg_lt ly_101 (by decide)) (rh_101_7 R) ?_
      refine fg_iloadn (fg_ft (pc := 25) tb_Told_dayAt 13 rfl) rfl ?_
      refine fg_aaldN (fg_ft (pc := 26) tb_Told_dayAt 14 rfl) ly_132 (by decide) (fg_lt ly_132 (by decide)) (by omega) (rh_132g (R := R) (by omega)) ?_
      refine fg_goto (tgt := 31) (fg_ft (pc := 27) tb_Told_dayAt 15 rfl) (by decide) ?_
      exact fg_aret (fg_ft (pc := 31) tb_Told_dayAt 17 rfl) rfl (by first | exact Or.inl ⟨_, rfl⟩ | exact Or.inr ⟨_, rfl⟩) rfl (hY (by omega))
theorem ev_Told_placeFor {E : fg_E} {d : Nat} {μ : Nat → Nat → Int32} {R : fg_T4} {Q : Option Value → fg_M → Prop} {A : fg_Tl} (hA : fg_TL μ 101 A) {s a : Nat} (hs : s < 2 ^ 32) (ha : a < 2 ^ 32) (hN : fg_plf A s a = none → Q (some (.int (-1))) (μ, fg_rho R, 304)) (hY : ∀ p, fg_plf A s a = some p → Q (some (.int (nI p))) (μ, fg_rho R, 304)) : fg_Ev E yy_Told_placeFor (d + 1) [.ref 101, .int (nI s), .int (nI a)] (μ, fg_rho R, 304) 304 Q := by
  have ht2 := hA.2.2.2.1.2
  have hd3 := hA.2.2.2.2.1.2
  refine fg_intro (by decide +kernel) (Nat.le_of_ble_eq_true rfl) (fg_okAs rfl) (Nat.le_refl _) ?_
  refine fg_iloadn (fg_ft (pc := 0) tb_Told_placeFor 0 rfl) rfl ?_
  refine fg_if_eqW (tgt := 11) (fg_ft (pc := 1) tb_Told_placeFor 1 rfl) (by decide) (hs) (fun c1 => ?_) (fun c1 => ?_)
  · refine fg_iloadn (fg_ft (pc := 11) tb_Told_placeFor 7 rfl) rfl ?_
    refine fg_if_neW (tgt := 22) (fg_ft (pc := 12) tb_Told_placeFor 8 rfl) (by decide) (hs) (fun c12 => ?_) (fun c12 => ?_)
    · refine fg_aloadn (fg_ft (pc := 22) tb_Told_placeFor 12 rfl) rfl ?_
      refine fg_getV (v := (nI (A.dc))) (fg_ft (pc := 23) tb_Told_placeFor 13 rfl) ff_Told_41 ly_101 rfl (fg_lt ly_101 (by decide)) hA.2.2.2.2.1.1 ?_
      refine fg_istoren (fg_ft (pc := 26) tb_Told_placeFor 14 rfl) (Nat.le_of_ble_eq_true rfl) ?_
      refine fg_iloadn (fg_ft (pc := 27) tb_Told_placeFor 15 rfl) rfl ?_
      refine fg_iconst (fg_ft (pc := 28) tb_Told_placeFor 16 rfl) ic_m1 ?_
      refine fg_icmp_neM (tgt := 51) (fg_ft (pc := 29) tb_Told_placeFor 17 rfl) (by decide) (ha) (fun c29 => ?_) (fun c29 => ?_)
      · refine fg_iloadn (fg_ft (pc := 51) tb_Told_placeFor 29 rfl) rfl ?_
        refine fg_if_ltW (tgt := 64) (fg_ft (pc := 52) tb_Told_placeFor 30 rfl) (by decide) (ha) (fun c52 => ?_) (fun c52 => ?_)
        · refine fg_iconst (fg_ft (pc := 64) tb_Told_placeFor 36 rfl) ic_m1 ?_
          exact fg_iret (fg_ft (pc := 65) tb_Told_placeFor 37 rfl) rfl rfl (by first | omega | exact hN (by unfold fg_plf; (repeat (first | rw [if_pos (by assumption)] | rw [if_neg (by assumption)] | rw [if_pos (by omega)] | rw [if_neg (by omega)]))))
        · refine fg_iloadn (fg_ft (pc := 55) tb_Told_placeFor 31 rfl) rfl ?_
          refine fg_iloadn (fg_ft (pc := 56) tb_Told_placeFor 32 rfl) rfl ?_
          refine fg_icmp_geN (tgt := 64) (fg_ft (pc := 57) tb_Told_placeFor 33 rfl) (by decide) (by omega) (by omega) (fun c57 => ?_) (fun c57 => ?_)
          · refine fg_iconst (fg_ft (pc := 64) tb_Told_placeFor 36 rfl) ic_m1 ?_
            exact fg_iret (fg_ft (pc := 65) tb_Told_placeFor 37 rfl) rfl rfl (by first | omega | exact hN (by unfold fg_plf; (repeat (first | rw [if_pos (by assumption)] | rw [if_neg (by assumption)] | rw [if_pos (by omega)] | rw [if_neg (by omega)]))))
          · refine fg_iloadn (fg_ft (pc := 60) tb_Told_placeFor 34 rfl) rfl ?_
            refine fg_goto (tgt := 65) (fg_ft (pc := 61) tb_Told_placeFor 35 rfl) (by decide) ?_
            exact fg_iret (fg_ft (pc := 65) tb_Told_placeFor 37 rfl) rfl rfl (by first | omega | exact hY _ (by unfold fg_plf; (repeat (first | rw [if_pos (by assumption)] | rw [if_neg (by assumption)] | rw [if_pos (by omega)] | rw [if_neg (by omega)]))))
      · refine fg_iloadn (fg_ft (pc := 32) tb_Told_placeFor 18 rfl) rfl ?_
        refine fg_iloadn (fg_ft (pc := 33) tb_Told_placeFor 19 rfl) rfl ?_
        refine fg_if_neW (tgt := 41) (fg_ft (pc := 34) tb_Told_placeFor 20 rfl) (by decide) (hs) (fun c34 => ?_) (fun c34 => ?_)
        · refine fg_iconst (fg_ft (pc := 41) tb_Told_placeFor 23 rfl) ic_3 ?_
          refine fg_icmp_geN (tgt := 49) (fg_ft (pc := 42) tb_Told_placeFor 24 rfl) (by decide) (by omega) (by decide) (fun c42 => ?_) (fun c42 => ?_)
          · refine fg_iconst (fg_ft (pc := 49) tb_Told_placeFor 27 rfl) ic_m1 ?_
            exact fg_iret (fg_ft (pc := 50) tb_Told_placeFor 28 rfl) rfl rfl (by first | omega | exact hN (by unfold fg_plf; (repeat (first | rw [if_pos (by assumption)] | rw [if_neg (by assumption)] | rw [if_pos (by omega)] | rw [if_neg (by omega)]))))
          · refine fg_iloadn (fg_ft (pc := 45) tb_Told_placeFor 25 rfl) rfl ?_
            refine fg_goto (tgt := 50) (fg_ft (pc := 46) tb_Told_placeFor 26 rfl) (by decide) ?_
            exact fg_iret (fg_ft (pc := 50) tb_Told_placeFor 28 rfl) rfl rfl (by first | omega | exact hY _ (by unfold fg_plf; (repeat (first | rw [if_pos (by assumption)] | rw [if_neg (by assumption)] | rw [if_pos (by omega)] | rw [if_neg (by omega)]))))
        · refine fg_iconst (fg_ft (pc := 37) tb_Told_placeFor 21 rfl) ic_2 ?_
          refine fg_goto (tgt := 42) (fg_ft (pc := 38) tb_Told_placeFor 22 rfl) (by decide) ?_
          refine fg_icmp_geN (tgt := 49) (fg_ft (pc := 42) tb_Told_placeFor 24 rfl) (by decide) (by omega) (by decide) (fun c42 => ?_) (fun c42 => ?_)
          · refine fg_iconst (fg_ft (pc := 49) tb_Told_placeFor 27 rfl) ic_m1 ?_
            exact fg_iret (fg_ft (pc := 50) tb_Told_placeFor 28 rfl) rfl rfl (by first | omega | exact hN (by unfold fg_plf; (repeat (first | rw [if_pos (by assumption)] | rw [if_neg (by assumption)] | rw [if_pos (by omega)] | rw [if_neg (by omega)]))))
          · refine fg_iloadn (fg_ft (pc := 45) tb_Told_placeFor 25 rfl) rfl ?_
            refine fg_goto (tgt := 50) (fg_ft (pc := 46) tb_Told_placeFor 26 rfl) (by decide) ?_
            exact fg_iret (fg_ft (pc := 50) tb_Told_placeFor 28 rfl) rfl rfl (by first | omega | exact hY _ (by unfold fg_plf; (repeat (first | rw [if_pos (by assumption)] | rw [if_neg (by assumption)] | rw [if_pos (by omega)] | rw [if_neg (by omega)]))))
    · refine fg_aloadn (fg_ft (pc := 15) tb_Told_placeFor 9 rfl) rfl ?_
      refine fg_getV (v := (nI (A.tc))) (fg_ft (pc := 16) tb_Told_placeFor 10 rfl) ff_Told_38 ly_101 rfl (fg_lt ly_101 (by decide)) hA.2.2.2.1.1 ?_
      refine fg_goto (tgt := 26) (fg_ft (pc := 19) tb_Told_placeFor 11 rfl) (by decide) ?_
      refine fg_istoren (fg_ft (pc := 26) tb_Told_placeFor 14 rfl) (Nat.le_of_ble_eq_true rfl) ?_
      refine fg_iloadn (fg_ft (pc := 27) tb_Told_placeFor 15 rfl) rfl ?_
      refine fg_iconst (fg_ft (pc := 28) tb_Told_placeFor 16 rfl) ic_m1 ?_
      refine fg_icmp_neM (tgt := 51) (fg_ft (pc := 29) tb_Told_placeFor 17 rfl) (by decide) (ha) (fun c29 => ?_) (fun c29 => ?_)
      · refine fg_iloadn (fg_ft (pc := 51) tb_Told_placeFor 29 rfl) rfl ?_
        refine fg_if_ltW (tgt := 64) (fg_ft (pc := 52) tb_Told_placeFor 30 rfl) (by decide) (ha) (fun c52 => ?_) (fun c52 => ?_)
        · refine fg_iconst (fg_ft (pc := 64) tb_Told_placeFor 36 rfl) ic_m1 ?_
          exact fg_iret (fg_ft (pc := 65) tb_Told_placeFor 37 rfl) rfl rfl (by first | omega | exact hN (by unfold fg_plf; (repeat (first | rw [if_pos (by assumption)] | rw [if_neg (by assumption)] | rw [if_pos (by omega)] | rw [if_neg (by omega)]))))
        · refine fg_iloadn (fg_ft (pc := 55) tb_Told_placeFor 31 rfl) rfl ?_
          refine fg_iloadn (fg_ft (pc := 56) tb_Told_placeFor 32 rfl) rfl ?_
          refine fg_icmp_geN (tgt := 64) (fg_ft (pc := 57) tb_Told_placeFor 33 rfl) (by decide) (by omega) (by omega) (fun c57 => ?_) (fun c57 => ?_)
          · refine fg_iconst (fg_ft (pc := 64) tb_Told_placeFor 36 rfl) ic_m1 ?_
            exact fg_iret (fg_ft (pc := 65) tb_Told_placeFor 37 rfl) rfl rfl (by first | omega | exact hN (by unfold fg_plf; (repeat (first | rw [if_pos (by assumption)] | rw [if_neg (by assumption)] | rw [if_pos (by omega)] | rw [if_neg (by omega)]))))
          · refine fg_iloadn (fg_ft (pc := 60) tb_Told_placeFor 34 rfl) rfl ?_
            refine fg_goto (tgt := 65) (fg_ft (pc := 61) tb_Told_placeFor 35 rfl) (by decide) ?_
            exact fg_iret (fg_ft (pc := 65) tb_Told_placeFor 37 rfl) rfl rfl (by first | omega | exact hY _ (by unfold fg_plf; (repeat (first | rw [if_pos (by assumption)] | rw [if_neg (by assumption)] | rw [if_pos (by omega)] | rw [if_neg (by omega)]))))
      · refine fg_iloadn (fg_ft (pc := 32) tb_Told_placeFor 18 rfl) rfl ?_
        refine fg_iloadn (fg_ft (pc := 33) tb_Told_placeFor 19 rfl) rfl ?_
        refine fg_if_neW (tgt := 41) (fg_ft (pc := 34) tb_Told_placeFor 20 rfl) (by decide) (hs) (fun c34 => ?_) (fun c34 => ?_)
        · refine fg_iconst (fg_ft (pc := 41) tb_Told_placeFor 23 rfl) ic_3 ?_
          refine fg_icmp_geN (tgt := 49) (fg_ft (pc := 42) tb_Told_placeFor 24 rfl) (by decide) (by omega) (by decide) (fun c42 => ?_) (fun c42 => ?_)
          · refine fg_iconst (fg_ft (pc := 49) tb_Told_placeFor 27 rfl) ic_m1 ?_
            exact fg_iret (fg_ft (pc := 50) tb_Told_placeFor 28 rfl) rfl rfl (by first | omega | exact hN (by unfold fg_plf; (repeat (first | rw [if_pos (by assumption)] | rw [if_neg (by assumption)] | rw [if_pos (by omega)] | rw [if_neg (by omega)]))))
          · refine fg_iloadn (fg_ft (pc := 45) tb_Told_placeFor 25 rfl) rfl ?_
            refine fg_goto (tgt := 50) (fg_ft (pc := 46) tb_Told_placeFor 26 rfl) (by decide) ?_
            exact fg_iret (fg_ft (pc := 50) tb_Told_placeFor 28 rfl) rfl rfl (by first | omega | exact hY _ (by unfold fg_plf; (repeat (first | rw [if_pos (by assumption)] | rw [if_neg (by assumption)] | rw [if_pos (by omega)] | rw [if_neg (by omega)]))))
        · refine fg_iconst (fg_ft (pc := 37) tb_Told_placeFor 21 rfl) ic_2 ?_
          refine fg_goto (tgt := 42) (fg_ft (pc := 38) tb_Told_placeFor 22 rfl) (by decide) ?_
          refine fg_icmp_geN (tgt := 49) (fg_ft (pc := 42) tb_Told_placeFor 24 rfl) (by decide) (by omega) (by decide) (fun c42 => ?_) (fun c42 => ?_)
          · refine fg_iconst (fg_ft (pc := 49) tb_Told_placeFor 27 rfl) ic_m1 ?_
            exact fg_iret (fg_ft (pc := 50) tb_Told_placeFor 28 rfl) rfl rfl (by first | omega | exact hN (by unfold fg_plf; (repeat (first | rw [if_pos (by assumption)] | rw [if_neg (by assumption)] | rw [if_pos (by omega)] | rw [if_neg (by omega)]))))
          · refine fg_iloadn (fg_ft (pc := 45) tb_Told_placeFor 25 rfl) rfl ?_
            refine fg_goto (tgt := 50) (fg_ft (pc := 46) tb_Told_placeFor 26 rfl) (by decide) ?_
            exact fg_iret (fg_ft (pc := 50) tb_Told_placeFor 28 rfl) rfl rfl (by first | omega | exact hY _ (by unfold fg_plf; (repeat (first | rw [if_pos (by assumption)] | rw [if_neg (by assumption)] | rw [if_pos (by omega)] | rw [if_neg (by omega)]))))
  · refine fg_iloadn (fg_ft (pc := 4) tb_Told_placeFor 2 rfl) rfl ?_
    refine fg_iconst (fg_ft (pc := 5) tb_Told_placeFor 3 rfl) ic_1 ?_
    refine fg_icmp_eqW (tgt := 11) (fg_ft (pc := 6) tb_Told_placeFor 4 rfl) (by decide) (hs) (by decide) (fun c6 => ?_) (fun c6 => ?_)
    · refine fg_iloadn (fg_ft (pc := 11) tb_Told_placeFor 7 rfl) rfl ?_
      refine fg_if_neW (tgt := 22) (fg_ft (pc := 12) tb_Told_placeFor 8 rfl) (by decide) (hs) (fun c12 => ?_) (fun c12 => ?_)
      · refine fg_aloadn (fg_ft (pc := 22) tb_Told_placeFor 12 rfl) rfl ?_
        refine fg_getV (v := (nI (A.dc))) (fg_ft (pc := 23) tb_Told_placeFor 13 rfl) ff_Told_41 ly_101 rfl (fg_lt ly_101 (by decide)) hA.2.2.2.2.1.1 ?_
        refine fg_istoren (fg_ft (pc := 26) tb_Told_placeFor 14 rfl) (Nat.le_of_ble_eq_true rfl) ?_
        refine fg_iloadn (fg_ft (pc := 27) tb_Told_placeFor 15 rfl) rfl ?_
        refine fg_iconst (fg_ft (pc := 28) tb_Told_placeFor 16 rfl) ic_m1 ?_
        refine fg_icmp_neM (tgt := 51) (fg_ft (pc := 29) tb_Told_placeFor 17 rfl) (by decide) (ha) (fun c29 => ?_) (fun c29 => ?_)
        · refine fg_iloadn (fg_ft (pc := 51) tb_Told_placeFor 29 rfl) rfl ?_
          refine fg_if_ltW (tgt := 64) (fg_ft (pc := 52) tb_Told_placeFor 30 rfl) (by decide) (ha) (fun c52 => ?_) (fun c52 => ?_)
          · refine fg_iconst (fg_ft (pc := 64) tb_Told_placeFor 36 rfl) ic_m1 ?_
            exact fg_iret (fg_ft (pc := 65) tb_Told_placeFor 37 rfl) rfl rfl (by first | omega | exact hN (by unfold fg_plf; (repeat (first | rw [if_pos (by assumption)] | rw [if_neg (by assumption)] | rw [if_pos (by omega)] | rw [if_neg (by omega)]))))
          · refine fg_iloadn (fg_ft (pc := 55) tb_Told_placeFor 31 rfl) rfl ?_
            refine fg_iloadn (fg_ft (pc := 56) tb_Told_placeFor 32 rfl) rfl ?_
            refine fg_icmp_geN (tgt := 64) (fg_ft (pc := 57) tb_Told_placeFor 33 rfl) (by decide) (by omega) (by omega) (fun c57 => ?_) (fun c57 => ?_)
            · refine fg_iconst (fg_ft (pc := 64) tb_Told_placeFor 36 rfl) ic_m1 ?_
              exact fg_iret (fg_ft (pc := 65) tb_Told_placeFor 37 rfl) rfl rfl (by first | omega | exact hN (by unfold fg_plf; (repeat (first | rw [if_pos (by assumption)] | rw [if_neg (by assumption)] | rw [if_pos (by omega)] | rw [if_neg (by omega)]))))
            · refine fg_iloadn (fg_ft (pc := 60) tb_Told_placeFor 34 rfl) rfl ?_
              refine fg_goto (tgt := 65) (fg_ft (pc := 61) tb_Told_placeFor 35 rfl) (by decide) ?_
              exact fg_iret (fg_ft (pc := 65) tb_Told_placeFor 37 rfl) rfl rfl (by first | omega | exact hY _ (by unfold fg_plf; (repeat (first | rw [if_pos (by assumption)] | rw [if_neg (by assumption)] | rw [if_pos (by omega)] | rw [if_neg (by omega)]))))
        · refine fg_iloadn (fg_ft (pc := 32) tb_Told_placeFor 18 rfl) rfl ?_
          refine fg_iloadn (fg_ft (pc := 33) tb_Told_placeFor 19 rfl) rfl ?_
          refine fg_if_neW (tgt := 41) (fg_ft (pc := 34) tb_Told_placeFor 20 rfl) (by decide) (hs) (fun c34 => ?_) (fun c34 => ?_)
          · refine fg_iconst (fg_ft (pc := 41) tb_Told_placeFor 23 rfl) ic_3 ?_
            refine fg_icmp_geN (tgt := 49) (fg_ft (pc := 42) tb_Told_placeFor 24 rfl) (by decide) (by omega) (by decide) (fun c42 => ?_) (fun c42 => ?_)
            · refine fg_iconst (fg_ft (pc := 49) tb_Told_placeFor 27 rfl) ic_m1 ?_
              exact fg_iret (fg_ft (pc := 50) tb_Told_placeFor 28 rfl) rfl rfl (by first | omega | exact hN (by unfold fg_plf; (repeat (first | rw [if_pos (by assumption)] | rw [if_neg (by assumption)] | rw [if_pos (by omega)] | rw [if_neg (by omega)]))))
            · refine fg_iloadn (fg_ft (pc := 45) tb_Told_placeFor 25 rfl) rfl ?_
              refine fg_goto (tgt := 50) (fg_ft (pc := 46) tb_Told_placeFor 26 rfl) (by decide) ?_
              exact fg_iret (fg_ft (pc := 50) tb_Told_placeFor 28 rfl) rfl rfl (by first | omega | exact hY _ (by unfold fg_plf; (repeat (first | rw [if_pos (by assumption)] | rw [if_neg (by assumption)] | rw [if_pos (by omega)] | rw [if_neg (by omega)]))))
          · refine fg_iconst (fg_ft (pc := 37) tb_Told_placeFor 21 rfl) ic_2 ?_
            refine fg_goto (tgt := 42) (fg_ft (pc := 38) tb_Told_placeFor 22 rfl) (by decide) ?_
            refine fg_icmp_geN (tgt := 49) (fg_ft (pc := 42) tb_Told_placeFor 24 rfl) (by decide) (by omega) (by decide) (fun c42 => ?_) (fun c42 => ?_)
            · refine fg_iconst (fg_ft (pc := 49) tb_Told_placeFor 27 rfl) ic_m1 ?_
              exact fg_iret (fg_ft (pc := 50) tb_Told_placeFor 28 rfl) rfl rfl (by first | omega | exact hN (by unfold fg_plf; (repeat (first | rw [if_pos (by assumption)] | rw [if_neg (by assumption)] | rw [if_pos (by omega)] | rw [if_neg (by omega)]))))
            · refine fg_iloadn (fg_ft (pc := 45) tb_Told_placeFor 25 rfl) rfl ?_
              refine fg_goto (tgt := 50) (fg_ft (pc := 46) tb_Told_placeFor 26 rfl) (by decide) ?_
              exact fg_iret (fg_ft (pc := 50) tb_Told_placeFor 28 rfl) rfl rfl (by first | omega | exact hY _ (by unfold fg_plf; (repeat (first | rw [if_pos (by assumption)] | rw [if_neg (by assumption)] | rw [if_pos (by omega)] | rw [if_neg (by omega)]))))
      · refine fg_aloadn (fg_ft (pc := 15) tb_Told_placeFor 9 rfl) rfl ?_
        refine fg_getV (v := (nI (A.tc))) (fg_ft (pc := 16) tb_Told_placeFor 10 rfl) ff_Told_38 ly_101 rfl (fg_lt ly_101 (by decide)) hA.2.2.2.1.1 ?_
        refine fg_goto (tgt := 26) (fg_ft (pc := 19) tb_Told_placeFor 11 rfl) (by decide) ?_
        refine fg_istoren (fg_ft (pc := 26) tb_Told_placeFor 14 rfl) (Nat.le_of_ble_eq_true rfl) ?_
        refine fg_iloadn (fg_ft (pc := 27) tb_Told_placeFor 15 rfl) rfl ?_
        refine fg_iconst (fg_ft (pc := 28) tb_Told_placeFor 16 rfl) ic_m1 ?_
        refine fg_icmp_neM (tgt := 51) (fg_ft (pc := 29) tb_Told_placeFor 17 rfl) (by decide) (ha) (fun c29 => ?_) (fun c29 => ?_)
        · refine fg_iloadn (fg_ft (pc := 51) tb_Told_placeFor 29 rfl) rfl ?_
          refine fg_if_ltW (tgt := 64) (fg_ft (pc := 52) tb_Told_placeFor 30 rfl) (by decide) (ha) (fun c52 => ?_) (fun c52 => ?_)
          · refine fg_iconst (fg_ft (pc := 64) tb_Told_placeFor 36 rfl) ic_m1 ?_
            exact fg_iret (fg_ft (pc := 65) tb_Told_placeFor 37 rfl) rfl rfl (by first | omega | exact hN (by unfold fg_plf; (repeat (first | rw [if_pos (by assumption)] | rw [if_neg (by assumption)] | rw [if_pos (by omega)] | rw [if_neg (by omega)]))))
          · refine fg_iloadn (fg_ft (pc := 55) tb_Told_placeFor 31 rfl) rfl ?_
            refine fg_iloadn (fg_ft (pc := 56) tb_Told_placeFor 32 rfl) rfl ?_
            refine fg_icmp_geN (tgt := 64) (fg_ft (pc := 57) tb_Told_placeFor 33 rfl) (by decide) (by omega) (by omega) (fun c57 => ?_) (fun c57 => ?_)
            · refine fg_iconst (fg_ft (pc := 64) tb_Told_placeFor 36 rfl) ic_m1 ?_
              exact fg_iret (fg_ft (pc := 65) tb_Told_placeFor 37 rfl) rfl rfl (by first | omega | exact hN (by unfold fg_plf; (repeat (first | rw [if_pos (by assumption)] | rw [if_neg (by assumption)] | rw [if_pos (by omega)] | rw [if_neg (by omega)]))))
            · refine fg_iloadn (fg_ft (pc := 60) tb_Told_placeFor 34 rfl) rfl ?_
              refine fg_goto (tgt := 65) (fg_ft (pc := 61) tb_Told_placeFor 35 rfl) (by decide) ?_
              exact fg_iret (fg_ft (pc := 65) tb_Told_placeFor 37 rfl) rfl rfl (by first | omega | exact hY _ (by unfold fg_plf; (repeat (first | rw [if_pos (by assumption)] | rw [if_neg (by assumption)] | rw [if_pos (by omega)] | rw [if_neg (by omega)]))))
        · refine fg_iloadn (fg_ft (pc := 32) tb_Told_placeFor 18 rfl) rfl ?_
          refine fg_iloadn (fg_ft (pc := 33) tb_Told_placeFor 19 rfl) rfl ?_
          refine fg_if_neW (tgt := 41) (fg_ft (pc := 34) tb_Told_placeFor 20 rfl) (by decide) (hs) (fun c34 => ?_) (fun c34 => ?_)
          · refine fg_iconst (fg_ft (pc := 41) tb_Told_placeFor 23 rfl) ic_3 ?_
            refine fg_icmp_geN (tgt := 49) (fg_ft (pc := 42) tb_Told_placeFor 24 rfl) (by decide) (by omega) (by decide) (fun c42 => ?_) (fun c42 => ?_)
            · refine fg_iconst (fg_ft (pc := 49) tb_Told_placeFor 27 rfl) ic_m1 ?_
              exact fg_iret (fg_ft (pc := 50) tb_Told_placeFor 28 rfl) rfl rfl (by first | omega | exact hN (by unfold fg_plf; (repeat (first | rw [if_pos (by assumption)] | rw [if_neg (by assumption)] | rw [if_pos (by omega)] | rw [if_neg (by omega)]))))
            · refine fg_iloadn (fg_ft (pc := 45) tb_Told_placeFor 25 rfl) rfl ?_
              refine fg_goto (tgt := 50) (fg_ft (pc := 46) tb_Told_placeFor 26 rfl) (by decide) ?_
              exact fg_iret (fg_ft (pc := 50) tb_Told_placeFor 28 rfl) rfl rfl (by first | omega | exact hY _ (by unfold fg_plf; (repeat (first | rw [if_pos (by assumption)] | rw [if_neg (by assumption)] | rw [if_pos (by omega)] | rw [if_neg (by omega)]))))
          · refine fg_iconst (fg_ft (pc := 37) tb_Told_placeFor 21 rfl) ic_2 ?_
            refine fg_goto (tgt := 42) (fg_ft (pc := 38) tb_Told_placeFor 22 rfl) (by decide) ?_
            refine fg_icmp_geN (tgt := 49) (fg_ft (pc := 42) tb_Told_placeFor 24 rfl) (by decide) (by omega) (by decide) (fun c42 => ?_) (fun c42 => ?_)
            · refine fg_iconst (fg_ft (pc := 49) tb_Told_placeFor 27 rfl) ic_m1 ?_
              exact fg_iret (fg_ft (pc := 50) tb_Told_placeFor 28 rfl) rfl rfl (by first | omega | exact hN (by unfold fg_plf; (repeat (first | rw [if_pos (by assumption)] | rw [if_neg (by assumption)] | rw [if_pos (by omega)] | rw [if_neg (by omega)]))))
            · refine fg_iloadn (fg_ft (pc := 45) tb_Told_placeFor 25 rfl) rfl ?_
              refine fg_goto (tgt := 50) (fg_ft (pc := 46) tb_Told_placeFor 26 rfl) (by decide) ?_
              exact fg_iret (fg_ft (pc := 50) tb_Told_placeFor 28 rfl) rfl rfl (by first | omega | exact hY _ (by unfold fg_plf; (repeat (first | rw [if_pos (by assumption)] | rw [if_neg (by assumption)] | rw [if_pos (by omega)] | rw [if_neg (by omega)]))))
    · refine fg_iconst (fg_ft (pc := 9) tb_Told_placeFor 5 rfl) ic_m1 ?_
      exact fg_iret (fg_ft (pc := 10) tb_Told_placeFor 6 rfl) rfl rfl (by first | omega | exact hN (by unfold fg_plf; (repeat (first | rw [if_pos (by assumption)] | rw [if_neg (by assumption)] | rw [if_pos (by omega)] | rw [if_neg (by omega)]))))
