/-! the class's reader: tokens -/
def pz_b (c : Nat → Int32) : Nat → Nat := fun k => fg_nat (c k) % 256
def pz_c (c : Nat → Int32) (len k : Nat) : Int32 := if k < len then c k else 0
def pz_fit (c : Nat → Int32) : Prop := ∀ j, j < 600 → fits (fg_aty (11 - 10)) (.int (c j)) = true
theorem pz_ceq {c : Nat → Int32} {len k q : Nat} (hf : pz_fit c) (hl : len ≤ 600) (h0 : 0 < q) (hq : q < 128) : pz_c c len k = nI q ↔ k < len ∧ pz_b c k = q := by
  unfold pz_c pz_b
  by_cases h : k < len
  · rw [if_pos h]
    rcases pz_byte (hf k (by omega)) with ⟨h1, h2⟩ | ⟨h1, h2⟩
    · constructor
      · intro e; rw [h2] at e; exact ⟨h, (nI_eq (by omega) (by omega)).mp e⟩
      · intro e; rw [h2, e.2]
    · constructor
      · intro e
        rw [e, Int32.lt_iff_toInt_lt, nI_toInt (by omega)] at h2
        have : (0 : Int32).toInt = 0 := rfl
        omega
      · intro e; have := e.2; omega
  · rw [if_neg h]
    constructor
    · intro e; have := (nI_eq (a := 0) (b := q) (by decide) (by omega)).mp e; omega
    · intro e; exact absurd e.1 h
theorem pz_cin {c : Nat → Int32} {len k lo hi : Nat} (hf : pz_fit c) (hl : len ≤ 600) (h0 : 0 < lo) (hq : hi < 128) (hlo : lo < 128) : (nI lo ≤ pz_c c len k ∧ pz_c c len k ≤ nI hi) ↔ (k < len ∧ lo ≤ pz_b c k ∧ pz_b c k ≤ hi) := by
  unfold pz_c pz_b
  by_cases h : k < len
  · rw [if_pos h]
    rcases pz_byte (hf k (by omega)) with ⟨h1, h2⟩ | ⟨h1, h2⟩
    · rw [h2, nI_leI (by omega) (by omega), nI_leI (by omega) (by omega), ← h2]
      exact ⟨fun e => ⟨h, e.1, e.2⟩, fun e => e.2⟩
    · constructor
      · intro e
        have e1 := e.1
        rw [Int32.le_iff_toInt_le, nI_toInt (by omega)] at e1
        rw [Int32.lt_iff_toInt_lt] at h2
        have : (0 : Int32).toInt = 0 := rfl
        omega
      · intro e; have := e.2.2; omega
  · rw [if_neg h]
    constructor
    · intro e
      have e1 := e.1
      rw [Int32.le_iff_toInt_le, nI_toInt (by omega)] at e1
      have : (0 : Int32).toInt = 0 := rfl
      omega
    · intro e; exact absurd e.1 h
theorem pz_cdg {c : Nat → Int32} {len k : Nat} (hf : pz_fit c) (hl : len ≤ 600) (h : pz_dg (pz_b c) len k = true) : pz_c c len k = nI (pz_b c k) := by
  have h1 := of_decide_eq_true h
  exact (pz_ceq hf hl (by omega) (by omega)).mpr ⟨h1.1, rfl⟩
theorem pz_dgI {c : Nat → Int32} {len k : Nat} (hf : pz_fit c) (hl : len ≤ 600) : (nI 48 ≤ pz_c c len k ∧ pz_c c len k ≤ nI 57) ↔ pz_dg (pz_b c) len k = true := by
  rw [pz_cin hf hl (by decide) (by decide) (by decide)]; unfold pz_dg; rw [decide_eq_true_eq]
theorem pz_ltI {c : Nat → Int32} {len k : Nat} (hf : pz_fit c) (hl : len ≤ 600) : (nI 97 ≤ pz_c c len k ∧ pz_c c len k ≤ nI 122) ↔ pz_lt (pz_b c) len k = true := by
  rw [pz_cin hf hl (by decide) (by decide) (by decide)]; unfold pz_lt; rw [decide_eq_true_eq]
def pz_agT (μ μ' : Nat → Nat → Int32) : Prop := ∀ a j, (a ≠ 255 ∨ (j ≠ 7 ∧ j ≠ 8 ∧ j ≠ 9 ∧ j ≠ 10)) → μ' a j = μ a j
theorem pz_bf {p : Prop} (h : ¬ p) {b : Bool} (e : p ↔ b = true) : b = false := by
  cases b with
  | false => rfl
  | true => exact absurd (e.mpr rfl) h
theorem ev_Reader_signAt {E : fg_E} {d : Nat} {μ : Nat → Nat → Int32} {R : fg_T4} {Q : Option Value → fg_M → Prop} {c : Nat → Int32} {len : Nat} (hr5 : fg_rho R 255 5 = some 102) (hc : ∀ j, j < 600 → μ 102 j = c j) (hl6 : μ 255 6 = nI len) (hle : len ≤ 600) {k : Nat} (hk : k < 2 ^ 31) (hQ : Q (some (.int (pz_c c len k))) (μ, fg_rho R, 304)) : fg_Ev E yy_Reader_signAt (d + 1) [.ref 255, .int (nI k)] (μ, fg_rho R, 304) 304 Q := by
  refine fg_intro (by decide +kernel) (Nat.le_of_ble_eq_true rfl) (fg_okAs rfl) (Nat.le_refl _) ?_
  refine fg_aloadn (fg_ft (pc := 0) tb_Reader_signAt 0 rfl) rfl ?_
  refine fg_getR (fg_ft (pc := 1) tb_Reader_signAt 1 rfl) ff_Reader_37 ly_255 rfl (fg_lt ly_255 (by decide)) hr5 ?_
  refine fg_ifnull_r (fg_ft (pc := 4) tb_Reader_signAt 2 rfl) ?_
  refine fg_iloadn (fg_ft (pc := 7) tb_Reader_signAt 3 rfl) rfl ?_
  refine fg_if_ltN (tgt := 37) (fg_ft (pc := 8) tb_Reader_signAt 4 rfl) (by decide) (by omega) ?_
  refine fg_iloadn (fg_ft (pc := 11) tb_Reader_signAt 5 rfl) rfl ?_
  refine fg_aloadn (fg_ft (pc := 12) tb_Reader_signAt 6 rfl) rfl ?_
  refine fg_getV (v := (nI len)) (fg_ft (pc := 13) tb_Reader_signAt 7 rfl) ff_Reader_47 ly_255 rfl (fg_lt ly_255 (by decide)) hl6 ?_
  refine fg_icmp_geN (tgt := 37) (fg_ft (pc := 16) tb_Reader_signAt 8 rfl) (by decide) (by omega) (by omega) (fun c16 => ?_) (fun c16 => ?_)
  · refine fg_iconst (fg_ft (pc := 37) tb_Reader_signAt 19 rfl) ic_0 ?_
    exact fg_iret (fg_ft (pc := 38) tb_Reader_signAt 20 rfl) rfl rfl (fg_q hQ (by unfold pz_c; first | exact if_pos (by omega) | exact if_neg (by omega)))
  · refine fg_iloadn (fg_ft (pc := 19) tb_Reader_signAt 9 rfl) rfl ?_
    refine fg_aloadn (fg_ft (pc := 20) tb_Reader_signAt 10 rfl) rfl ?_
    refine fg_getR (fg_ft (pc := 21) tb_Reader_signAt 11 rfl) ff_Reader_37 ly_255 rfl (fg_lt ly_255 (by decide)) hr5 ?_
    refine fg_alen (fg_ft (pc := 24) tb_Reader_signAt 12 rfl) ly_102 (by decide) (fg_lt ly_102 (by decide)) ?_
    refine fg_icmp_geN (tgt := 37) (fg_ft (pc := 25) tb_Reader_signAt 13 rfl) (by decide) (by omega) (by decide) (fun c25 => (absurd c25 (by omega))) (fun c25 => ?_)
    refine fg_aloadn (fg_ft (pc := 28) tb_Reader_signAt 14 rfl) rfl ?_
    refine fg_getR (fg_ft (pc := 29) tb_Reader_signAt 15 rfl) ff_Reader_37 ly_255 rfl (fg_lt ly_255 (by decide)) hr5 ?_
    refine fg_iloadn (fg_ft (pc := 32) tb_Reader_signAt 16 rfl) rfl ?_
    refine fg_baldV (v := (c k)) (fg_ft (pc := 33) tb_Reader_signAt 17 rfl) ly_102 (fg_lt ly_102 (by decide)) (by omega) (hc k (by omega)) ?_
    refine fg_goto (tgt := 38) (fg_ft (pc := 34) tb_Reader_signAt 18 rfl) (by decide) ?_
    exact fg_iret (fg_ft (pc := 38) tb_Reader_signAt 20 rfl) rfl rfl (fg_q hQ (by unfold pz_c; first | exact if_pos (by omega) | exact if_neg (by omega)))
theorem ev_Reader_isLetter {E : fg_E} {d : Nat} {μ : Nat → Nat → Int32} {R : fg_T4} {Q : Option Value → fg_M → Prop} {x : Int32} (hQ : Q (some (.int (fg_bI (nI 97 ≤ x ∧ x ≤ nI 122)))) (μ, fg_rho R, 304)) : fg_Ev E yy_Reader_isLetter (d + 1) [.int x] (μ, fg_rho R, 304) 304 Q := by
  refine fg_intro (by decide +kernel) (Nat.le_of_ble_eq_true rfl) (fg_okAs rfl) (Nat.le_refl _) ?_
  refine fg_iloadn (fg_ft (pc := 0) tb_Reader_isLetter 0 rfl) rfl ?_
  refine fg_bipush (fg_ft (pc := 1) tb_Reader_isLetter 1 rfl) ib_97 ?_
  refine fg_icmp_lt (tgt := 16) (fg_ft (pc := 3) tb_Reader_isLetter 2 rfl) (by decide) (fun c3 => ?_) (fun c3 => ?_)
  · refine fg_iconst (fg_ft (pc := 16) tb_Reader_isLetter 8 rfl) ic_0 ?_
    exact fg_zret (fg_ft (pc := 17) tb_Reader_isLetter 9 rfl) rfl (by decide) rfl (fg_q hQ (fg_bF (fun hh => by first | exact absurd c3 (Int32.not_lt.mpr hh.1) | exact absurd c9 (Int32.not_lt.mpr hh.2))))
  · refine fg_iloadn (fg_ft (pc := 6) tb_Reader_isLetter 3 rfl) rfl ?_
    refine fg_bipush (fg_ft (pc := 7) tb_Reader_isLetter 4 rfl) ib_122 ?_
    refine fg_icmp_gt (tgt := 16) (fg_ft (pc := 9) tb_Reader_isLetter 5 rfl) (by decide) (fun c9 => ?_) (fun c9 => ?_)
    · refine fg_iconst (fg_ft (pc := 16) tb_Reader_isLetter 8 rfl) ic_0 ?_
      exact fg_zret (fg_ft (pc := 17) tb_Reader_isLetter 9 rfl) rfl (by decide) rfl (fg_q hQ (fg_bF (fun hh => by first | exact absurd c3 (Int32.not_lt.mpr hh.1) | exact absurd c9 (Int32.not_lt.mpr hh.2))))
    · refine fg_iconst (fg_ft (pc := 12) tb_Reader_isLetter 6 rfl) ic_1 ?_
      refine fg_goto (tgt := 17) (fg_ft (pc := 13) tb_Reader_isLetter 7 rfl) (by decide) ?_
      exact fg_zret (fg_ft (pc := 17) tb_Reader_isLetter 9 rfl) rfl (by decide) rfl (fg_q hQ (fg_bT ⟨Int32.not_lt.mp c3, Int32.not_lt.mp c9⟩))
theorem ev_Reader_isDigit {E : fg_E} {d : Nat} {μ : Nat → Nat → Int32} {R : fg_T4} {Q : Option Value → fg_M → Prop} {x : Int32} (hQ : Q (some (.int (fg_bI (nI 48 ≤ x ∧ x ≤ nI 57)))) (μ, fg_rho R, 304)) : fg_Ev E yy_Reader_isDigit (d + 1) [.int x] (μ, fg_rho R, 304) 304 Q := by
  refine fg_intro (by decide +kernel) (Nat.le_of_ble_eq_true rfl) (fg_okAs rfl) (Nat.le_refl _) ?_
  refine fg_iloadn (fg_ft (pc := 0) tb_Reader_isDigit 0 rfl) rfl ?_
  refine fg_bipush (fg_ft (pc := 1) tb_Reader_isDigit 1 rfl) ib_48 ?_
  refine fg_icmp_lt (tgt := 16) (fg_ft (pc := 3) tb_Reader_isDigit 2 rfl) (by decide) (fun c3 => ?_) (fun c3 => ?_)
  · refine fg_iconst (fg_ft (pc := 16) tb_Reader_isDigit 8 rfl) ic_0 ?_
    exact fg_zret (fg_ft (pc := 17) tb_Reader_isDigit 9 rfl) rfl (by decide) rfl (fg_q hQ (fg_bF (fun hh => by first | exact absurd c3 (Int32.not_lt.mpr hh.1) | exact absurd c9 (Int32.not_lt.mpr hh.2))))
  · refine fg_iloadn (fg_ft (pc := 6) tb_Reader_isDigit 3 rfl) rfl ?_
    refine fg_bipush (fg_ft (pc := 7) tb_Reader_isDigit 4 rfl) ib_57 ?_
    refine fg_icmp_gt (tgt := 16) (fg_ft (pc := 9) tb_Reader_isDigit 5 rfl) (by decide) (fun c9 => ?_) (fun c9 => ?_)
    · refine fg_iconst (fg_ft (pc := 16) tb_Reader_isDigit 8 rfl) ic_0 ?_
      exact fg_zret (fg_ft (pc := 17) tb_Reader_isDigit 9 rfl) rfl (by decide) rfl (fg_q hQ (fg_bF (fun hh => by first | exact absurd c3 (Int32.not_lt.mpr hh.1) | exact absurd c9 (Int32.not_lt.mpr hh.2))))
    · refine fg_iconst (fg_ft (pc := 12) tb_Reader_isDigit 6 rfl) ic_1 ?_
      refine fg_goto (tgt := 17) (fg_ft (pc := 13) tb_Reader_isDigit 7 rfl) (by decide) ?_
      exact fg_zret (fg_ft (pc := 17) tb_Reader_isDigit 9 rfl) rfl (by decide) rfl (fg_q hQ (fg_bT ⟨Int32.not_lt.mp c3, Int32.not_lt.mp c9⟩))
theorem ev_Reader_signAtD {E : fg_E} {d : Nat} {μ : Nat → Nat → Int32} {R : fg_T4} {Q : Option Value → fg_M → Prop} {c : Nat → Int32} {len : Nat} (hr5 : fg_rho R 255 5 = some 102) (hc : ∀ j, j < 600 → μ 102 j = c j) (hl6 : μ 255 6 = nI len) (hle : len ≤ 600) (hf : pz_fit c) {k : Nat} (hd : pz_dg (pz_b c) len k = true) (hQ : Q (some (.int (nI (pz_b c k)))) (μ, fg_rho R, 304)) : fg_Ev E yy_Reader_signAt (d + 1) [.ref 255, .int (nI k)] (μ, fg_rho R, 304) 304 Q := ev_Reader_signAt hr5 hc hl6 hle (by have := pz_dg_lt hd; omega) (by rw [pz_cdg hf hle hd]; exact hQ)
def pz_agN (μ μ' : Nat → Nat → Int32) : Prop := ∀ a j, (a ≠ 255 ∨ (j ≠ 7 ∧ j ≠ 8 ∧ j ≠ 10)) → μ' a j = μ a j
theorem ev_Reader_readNumber {E : fg_E} {d : Nat} {μ : Nat → Nat → Int32} {R : fg_T4} {Q : Option Value → fg_M → Prop} {c : Nat → Int32} {len : Nat} (hr5 : fg_rho R 255 5 = some 102) (hc : ∀ j, j < 600 → μ 102 j = c j) (hl6 : μ 255 6 = nI len) (hle : len ≤ 600) (hf : pz_fit c) {s : Nat} (hs7 : μ 255 7 = nI s) (hs9 : μ 255 9 = nI s) (hsl : s ≤ len) (hQ : ∀ μ' : Nat → Nat → Int32, pz_agN μ μ' → μ' 255 7 = nI (pz_run (pz_dg (pz_b c) len) len s) → μ' 255 8 = nI (if pz_run (pz_dg (pz_b c) len) len s - s ≤ 2 then 110 else 98) → (pz_run (pz_dg (pz_b c) len) len s - s ≤ 2 → μ' 255 10 = nI (pz_nv (pz_b c) s (pz_run (pz_dg (pz_b c) len) len s - s))) → Q none (μ', fg_rho R, 304)) : fg_Ev E yy_Reader_readNumber (d + 2) [.ref 255] (μ, fg_rho R, 304) 304 Q := by
  have loop : ∀ (m n : Nat) (ν : Nat → Nat → Int32), len - n < m → s ≤ n → n ≤ len → (∀ k, s ≤ k → k < n → pz_dg (pz_b c) len k = true) → pz_agN μ ν → ν 255 7 = nI n → (n - s ≤ 2 → ν 255 10 = nI (pz_nv (pz_b c) s (n - s))) → fg_wp E yy_Reader_readNumber (d + 2) 304 304 Q 5 [.ref 255] [] (ν, fg_rho R, 304) := by
    intro m
    induction m with
    | zero => intro n ν h; exact absurd h (Nat.not_lt_zero _)
    | succ m ih =>
      intro n ν hm hsn hnl hdg hag hn7 hx
      refine fg_aloadn (fg_ft (pc := 5) tb_Reader_readNumber 3 rfl) rfl ?_
      refine fg_getV (v := (nI n)) (fg_ft (pc := 6) tb_Reader_readNumber 4 rfl) ff_Reader_51 ly_255 rfl (fg_lt ly_255 (by decide)) hn7 ?_
      refine fg_aloadn (fg_ft (pc := 9) tb_Reader_readNumber 5 rfl) rfl ?_
      refine fg_getV (v := (nI len)) (fg_ft (pc := 10) tb_Reader_readNumber 6 rfl) ff_Reader_47 ly_255 rfl (fg_lt ly_255 (by decide)) ((hag 255 6 (Or.inr (by decide))).trans hl6) ?_
      refine fg_icmp_geN (tgt := 83) (fg_ft (pc := 13) tb_Reader_readNumber 7 rfl) (by decide) (by omega) (by omega) (fun c13 => ?_) (fun c13 => ?_)
      · have hend : pz_dg (pz_b c) len n = false := by first | exact pz_bf c27 (pz_dgI hf hle) | (cases hh : pz_dg (pz_b c) len n with
          | false => rfl
          | true => have := pz_dg_lt hh; omega)
        refine fg_aloadn (fg_ft (pc := 83) tb_Reader_readNumber 43 rfl) rfl ?_
        refine fg_aloadn (fg_ft (pc := 84) tb_Reader_readNumber 44 rfl) rfl ?_
        refine fg_getV (v := (nI n)) (fg_ft (pc := 85) tb_Reader_readNumber 45 rfl) ff_Reader_51 ly_255 rfl (fg_lt ly_255 (by decide)) hn7 ?_
        refine fg_aloadn (fg_ft (pc := 88) tb_Reader_readNumber 46 rfl) rfl ?_
        refine fg_getV (v := (nI s)) (fg_ft (pc := 89) tb_Reader_readNumber 47 rfl) ff_Reader_80 ly_255 rfl (fg_lt ly_255 (by decide)) ((hag 255 9 (Or.inr (by decide))).trans hs9) ?_
        refine fg_isubN (fg_ft (pc := 92) tb_Reader_readNumber 48 rfl) (by omega) ?_
        refine fg_iconst (fg_ft (pc := 93) tb_Reader_readNumber 49 rfl) ic_2 ?_
        refine fg_icmp_gtN (tgt := 102) (fg_ft (pc := 94) tb_Reader_readNumber 50 rfl) (by decide) (by omega) (by decide) (fun c94 => ?_) (fun c94 => ?_)
        · refine fg_bipush (fg_ft (pc := 102) tb_Reader_readNumber 53 rfl) ib_98 ?_
          refine fg_putI (fg_ft (pc := 104) tb_Reader_readNumber 54 rfl) ff_Reader_72 ly_255 rfl (fg_lt ly_255 (by decide)) ⟨by decide, by decide⟩ (fun _ _ h => by cases h; rfl) ?_
          show fg_wp _ _ _ _ _ _ _ _ _ (fg_u2 ν 255 8 (nI 98), fg_rho R, 304)
          exact fg_vret (fg_ft (pc := 107) tb_Reader_readNumber 55 rfl) rfl rfl (hQ _ (fun a j h => (fg_u2nx (by omega)).trans (hag a j h)) (by rw [(pz_ru_of (P := pz_dg (pz_b c) len) (len := len) (n := s) (r := n) hsn (by omega) hdg hend)]; exact (fg_u2ns (by decide)).trans hn7) (by rw [(pz_ru_of (P := pz_dg (pz_b c) len) (len := len) (n := s) (r := n) hsn (by omega) hdg hend)]; first | (rw [if_pos (by omega)]; exact fg_u2eq) | (rw [if_neg (by omega)]; exact fg_u2eq)) (fun hq => by rw [(pz_ru_of (P := pz_dg (pz_b c) len) (len := len) (n := s) (r := n) hsn (by omega) hdg hend)] at hq; rw [(pz_ru_of (P := pz_dg (pz_b c) len) (len := len) (n := s) (r := n) hsn (by omega) hdg hend)]; exact (fg_u2ns (by decide)).trans (hx hq)))
        · refine fg_bipush (fg_ft (pc := 97) tb_Reader_readNumber 51 rfl) ib_110 ?_
          refine fg_goto (tgt := 104) (fg_ft (pc := 99) tb_Reader_readNumber 52 rfl) (by decide) ?_
          refine fg_putI (fg_ft (pc := 104) tb_Reader_readNumber 54 rfl) ff_Reader_72 ly_255 rfl (fg_lt ly_255 (by decide)) ⟨by decide, by decide⟩ (fun _ _ h => by cases h; rfl) ?_
          show fg_wp _ _ _ _ _ _ _ _ _ (fg_u2 ν 255 8 (nI 110), fg_rho R, 304)
          exact fg_vret (fg_ft (pc := 107) tb_Reader_readNumber 55 rfl) rfl rfl (hQ _ (fun a j h => (fg_u2nx (by omega)).trans (hag a j h)) (by rw [(pz_ru_of (P := pz_dg (pz_b c) len) (len := len) (n := s) (r := n) hsn (by omega) hdg hend)]; exact (fg_u2ns (by decide)).trans hn7) (by rw [(pz_ru_of (P := pz_dg (pz_b c) len) (len := len) (n := s) (r := n) hsn (by omega) hdg hend)]; first | (rw [if_pos (by omega)]; exact fg_u2eq) | (rw [if_neg (by omega)]; exact fg_u2eq)) (fun hq => by rw [(pz_ru_of (P := pz_dg (pz_b c) len) (len := len) (n := s) (r := n) hsn (by omega) hdg hend)] at hq; rw [(pz_ru_of (P := pz_dg (pz_b c) len) (len := len) (n := s) (r := n) hsn (by omega) hdg hend)]; exact (fg_u2ns (by decide)).trans (hx hq)))
      · refine fg_aloadn (fg_ft (pc := 16) tb_Reader_readNumber 8 rfl) rfl ?_
        refine fg_aloadn (fg_ft (pc := 17) tb_Reader_readNumber 9 rfl) rfl ?_
        refine fg_getV (v := (nI n)) (fg_ft (pc := 18) tb_Reader_readNumber 10 rfl) ff_Reader_51 ly_255 rfl (fg_lt ly_255 (by decide)) hn7 ?_
        refine fg_callV (fg_ft (pc := 21) tb_Reader_readNumber 11 rfl) cf_Reader_127 (fg_isOf ly_255 rfl (fg_lt ly_255 (by decide))) (as := [.int (nI n)]) (st := []) rfl rfl (Nat.le_of_ble_eq_true rfl) (Nat.le_refl _) (Nat.le_refl _) (ev_Reader_signAt (k := n) hr5 (fun j hj => ((fun j hj => (hag 102 j (Or.inl (by decide))).trans (hc j hj)) j hj)) (((hag 255 6 (Or.inr (by decide))).trans hl6)) hle (by omega) ?_)
        refine fg_callS (fg_ft (pc := 24) tb_Reader_readNumber 12 rfl) cf_Reader_239 (as := [.int (pz_c c len n)]) (st := []) rfl rfl (Nat.le_of_ble_eq_true rfl) (Nat.le_refl _) (Nat.le_refl _) (ev_Reader_isDigit ?_)
        refine fg_ifB_eq (tgt := 83) (fg_ft (pc := 27) tb_Reader_readNumber 13 rfl) (by decide) (fun c27 => ?_) (fun c27 => ?_)
        · have hend : pz_dg (pz_b c) len n = false := by first | exact pz_bf c27 (pz_dgI hf hle) | (cases hh : pz_dg (pz_b c) len n with
            | false => rfl
            | true => have := pz_dg_lt hh; omega)
          refine fg_aloadn (fg_ft (pc := 83) tb_Reader_readNumber 43 rfl) rfl ?_
          refine fg_aloadn (fg_ft (pc := 84) tb_Reader_readNumber 44 rfl) rfl ?_
          refine fg_getV (v := (nI n)) (fg_ft (pc := 85) tb_Reader_readNumber 45 rfl) ff_Reader_51 ly_255 rfl (fg_lt ly_255 (by decide)) hn7 ?_
          refine fg_aloadn (fg_ft (pc := 88) tb_Reader_readNumber 46 rfl) rfl ?_
          refine fg_getV (v := (nI s)) (fg_ft (pc := 89) tb_Reader_readNumber 47 rfl) ff_Reader_80 ly_255 rfl (fg_lt ly_255 (by decide)) ((hag 255 9 (Or.inr (by decide))).trans hs9) ?_
          refine fg_isubN (fg_ft (pc := 92) tb_Reader_readNumber 48 rfl) (by omega) ?_
          refine fg_iconst (fg_ft (pc := 93) tb_Reader_readNumber 49 rfl) ic_2 ?_
          refine fg_icmp_gtN (tgt := 102) (fg_ft (pc := 94) tb_Reader_readNumber 50 rfl) (by decide) (by omega) (by decide) (fun c94 => ?_) (fun c94 => ?_)
          · refine fg_bipush (fg_ft (pc := 102) tb_Reader_readNumber 53 rfl) ib_98 ?_
            refine fg_putI (fg_ft (pc := 104) tb_Reader_readNumber 54 rfl) ff_Reader_72 ly_255 rfl (fg_lt ly_255 (by decide)) ⟨by decide, by decide⟩ (fun _ _ h => by cases h; rfl) ?_
            show fg_wp _ _ _ _ _ _ _ _ _ (fg_u2 ν 255 8 (nI 98), fg_rho R, 304)
            exact fg_vret (fg_ft (pc := 107) tb_Reader_readNumber 55 rfl) rfl rfl (hQ _ (fun a j h => (fg_u2nx (by omega)).trans (hag a j h)) (by rw [(pz_ru_of (P := pz_dg (pz_b c) len) (len := len) (n := s) (r := n) hsn (by omega) hdg hend)]; exact (fg_u2ns (by decide)).trans hn7) (by rw [(pz_ru_of (P := pz_dg (pz_b c) len) (len := len) (n := s) (r := n) hsn (by omega) hdg hend)]; first | (rw [if_pos (by omega)]; exact fg_u2eq) | (rw [if_neg (by omega)]; exact fg_u2eq)) (fun hq => by rw [(pz_ru_of (P := pz_dg (pz_b c) len) (len := len) (n := s) (r := n) hsn (by omega) hdg hend)] at hq; rw [(pz_ru_of (P := pz_dg (pz_b c) len) (len := len) (n := s) (r := n) hsn (by omega) hdg hend)]; exact (fg_u2ns (by decide)).trans (hx hq)))
          · refine fg_bipush (fg_ft (pc := 97) tb_Reader_readNumber 51 rfl) ib_110 ?_
            refine fg_goto (tgt := 104) (fg_ft (pc := 99) tb_Reader_readNumber 52 rfl) (by decide) ?_
            refine fg_putI (fg_ft (pc := 104) tb_Reader_readNumber 54 rfl) ff_Reader_72 ly_255 rfl (fg_lt ly_255 (by decide)) ⟨by decide, by decide⟩ (fun _ _ h => by cases h; rfl) ?_
            show fg_wp _ _ _ _ _ _ _ _ _ (fg_u2 ν 255 8 (nI 110), fg_rho R, 304)
            exact fg_vret (fg_ft (pc := 107) tb_Reader_readNumber 55 rfl) rfl rfl (hQ _ (fun a j h => (fg_u2nx (by omega)).trans (hag a j h)) (by rw [(pz_ru_of (P := pz_dg (pz_b c) len) (len := len) (n := s) (r := n) hsn (by omega) hdg hend)]; exact (fg_u2ns (by decide)).trans hn7) (by rw [(pz_ru_of (P := pz_dg (pz_b c) len) (len := len) (n := s) (r := n) hsn (by omega) hdg hend)]; first | (rw [if_pos (by omega)]; exact fg_u2eq) | (rw [if_neg (by omega)]; exact fg_u2eq)) (fun hq => by rw [(pz_ru_of (P := pz_dg (pz_b c) len) (len := len) (n := s) (r := n) hsn (by omega) hdg hend)] at hq; rw [(pz_ru_of (P := pz_dg (pz_b c) len) (len := len) (n := s) (r := n) hsn (by omega) hdg hend)]; exact (fg_u2ns (by decide)).trans (hx hq)))
        · refine fg_aloadn (fg_ft (pc := 30) tb_Reader_readNumber 14 rfl) rfl ?_
          refine fg_aloadn (fg_ft (pc := 31) tb_Reader_readNumber 15 rfl) rfl ?_
          refine fg_getV (v := (nI n)) (fg_ft (pc := 32) tb_Reader_readNumber 16 rfl) ff_Reader_51 ly_255 rfl (fg_lt ly_255 (by decide)) hn7 ?_
          refine fg_aloadn (fg_ft (pc := 35) tb_Reader_readNumber 17 rfl) rfl ?_
          refine fg_getV (v := (nI s)) (fg_ft (pc := 36) tb_Reader_readNumber 18 rfl) ff_Reader_80 ly_255 rfl (fg_lt ly_255 (by decide)) ((hag 255 9 (Or.inr (by decide))).trans hs9) ?_
          refine fg_isubN (fg_ft (pc := 39) tb_Reader_readNumber 19 rfl) (by omega) ?_
          refine fg_iconst (fg_ft (pc := 40) tb_Reader_readNumber 20 rfl) ic_2 ?_
          refine fg_icmp_geN (tgt := 66) (fg_ft (pc := 41) tb_Reader_readNumber 21 rfl) (by decide) (by omega) (by decide) (fun c41 => ?_) (fun c41 => ?_)
          · refine fg_iconst (fg_ft (pc := 66) tb_Reader_readNumber 34 rfl) ic_0 ?_
            refine fg_putI (fg_ft (pc := 67) tb_Reader_readNumber 35 rfl) ff_Reader_207 ly_255 rfl (fg_lt ly_255 (by decide)) (fg_nokI _) (fun _ _ h => by cases h; rfl) ?_
            show fg_wp _ _ _ _ _ _ _ _ _ (fg_u2 ν 255 10 (nI 0), fg_rho R, 304)
            refine fg_aloadn (fg_ft (pc := 70) tb_Reader_readNumber 36 rfl) rfl ?_
            refine fg_dup (fg_ft (pc := 71) tb_Reader_readNumber 37 rfl) rfl ?_
            refine fg_getV (v := (nI n)) (fg_ft (pc := 72) tb_Reader_readNumber 38 rfl) ff_Reader_51 ly_255 rfl (fg_lt ly_255 (by decide)) ((fg_u2ns (f := ν) (a := 255) (k := 10) (b := 255) (j := 7) (x := (nI 0)) (by decide)).trans hn7) ?_
            refine fg_iconst (fg_ft (pc := 75) tb_Reader_readNumber 39 rfl) ic_1 ?_
            refine fg_iaddN (fg_ft (pc := 76) tb_Reader_readNumber 40 rfl) ?_
            refine fg_putI (fg_ft (pc := 77) tb_Reader_readNumber 41 rfl) ff_Reader_51 ly_255 rfl (fg_lt ly_255 (by decide)) (fg_nokI _) (fun _ _ h => by cases h; rfl) ?_
            show fg_wp _ _ _ _ _ _ _ _ _ (fg_u2 (fg_u2 ν 255 10 (nI 0)) 255 7 (nI (n + 1)), fg_rho R, 304)
            refine fg_goto (tgt := 5) (fg_ft (pc := 80) tb_Reader_readNumber 42 rfl) (by decide) ?_
            refine ih (n + 1) _ (by omega) (by omega) (by have := pz_dg_lt ((pz_dgI hf hle).mp c27); omega) (fun k k1 k2 => by rcases Nat.lt_or_ge k n with q | q; exact hdg k k1 q; rw [show k = n by omega]; exact (pz_dgI hf hle).mp c27) (fun a j h => (fg_u2nx (by omega)).trans ((fg_u2nx (by omega)).trans (hag a j h))) fg_u2eq (fun hq => ?_)
            omega
          · have hd := (pz_dgI hf hle).mp c27
            refine fg_aloadn (fg_ft (pc := 44) tb_Reader_readNumber 22 rfl) rfl ?_
            refine fg_getV (v := (nI (pz_nv (pz_b c) s (n - s)))) (fg_ft (pc := 45) tb_Reader_readNumber 23 rfl) ff_Reader_207 ly_255 rfl (fg_lt ly_255 (by decide)) (hx (by omega)) ?_
            refine fg_bipush (fg_ft (pc := 48) tb_Reader_readNumber 24 rfl) ib_10 ?_
            refine fg_imulN (fg_ft (pc := 50) tb_Reader_readNumber 25 rfl) ?_
            refine fg_aloadn (fg_ft (pc := 51) tb_Reader_readNumber 26 rfl) rfl ?_
            refine fg_aloadn (fg_ft (pc := 52) tb_Reader_readNumber 27 rfl) rfl ?_
            refine fg_getV (v := (nI n)) (fg_ft (pc := 53) tb_Reader_readNumber 28 rfl) ff_Reader_51 ly_255 rfl (fg_lt ly_255 (by decide)) hn7 ?_
            refine fg_callV (fg_ft (pc := 56) tb_Reader_readNumber 29 rfl) cf_Reader_127 (fg_isOf ly_255 rfl (fg_lt ly_255 (by decide))) (as := [.int (nI n)]) (st := [.int (nI ((pz_nv (pz_b c) s (n - s)) * 10)), .ref 255]) rfl rfl (Nat.le_of_ble_eq_true rfl) (Nat.le_refl _) (Nat.le_refl _) (ev_Reader_signAtD (k := n) hr5 (fun j hj => ((fun j hj => (hag 102 j (Or.inl (by decide))).trans (hc j hj)) j hj)) (((hag 255 6 (Or.inr (by decide))).trans hl6)) hle hf ((pz_dgI hf hle).mp c27) ?_)
            refine fg_iaddN (fg_ft (pc := 59) tb_Reader_readNumber 30 rfl) ?_
            refine fg_bipush (fg_ft (pc := 60) tb_Reader_readNumber 31 rfl) ib_48 ?_
            refine fg_isubN (fg_ft (pc := 62) tb_Reader_readNumber 32 rfl) (by have := (of_decide_eq_true ((pz_dgI hf hle).mp c27)).2.1; omega) ?_
            refine fg_goto (tgt := 67) (fg_ft (pc := 63) tb_Reader_readNumber 33 rfl) (by decide) ?_
            refine fg_putI (fg_ft (pc := 67) tb_Reader_readNumber 35 rfl) ff_Reader_207 ly_255 rfl (fg_lt ly_255 (by decide)) (fg_nokI _) (fun _ _ h => by cases h; rfl) ?_
            show fg_wp _ _ _ _ _ _ _ _ _ (fg_u2 ν 255 10 (nI ((((pz_nv (pz_b c) s (n - s)) * 10) + (pz_b c n)) - 48)), fg_rho R, 304)
            refine fg_aloadn (fg_ft (pc := 70) tb_Reader_readNumber 36 rfl) rfl ?_
            refine fg_dup (fg_ft (pc := 71) tb_Reader_readNumber 37 rfl) rfl ?_
            refine fg_getV (v := (nI n)) (fg_ft (pc := 72) tb_Reader_readNumber 38 rfl) ff_Reader_51 ly_255 rfl (fg_lt ly_255 (by decide)) ((fg_u2ns (f := ν) (a := 255) (k := 10) (b := 255) (j := 7) (x := (nI ((((pz_nv (pz_b c) s (n - s)) * 10) + (pz_b c n)) - 48))) (by decide)).trans hn7) ?_
            refine fg_iconst (fg_ft (pc := 75) tb_Reader_readNumber 39 rfl) ic_1 ?_
            refine fg_iaddN (fg_ft (pc := 76) tb_Reader_readNumber 40 rfl) ?_
            refine fg_putI (fg_ft (pc := 77) tb_Reader_readNumber 41 rfl) ff_Reader_51 ly_255 rfl (fg_lt ly_255 (by decide)) (fg_nokI _) (fun _ _ h => by cases h; rfl) ?_
            show fg_wp _ _ _ _ _ _ _ _ _ (fg_u2 (fg_u2 ν 255 10 (nI ((((pz_nv (pz_b c) s (n - s)) * 10) + (pz_b c n)) - 48))) 255 7 (nI (n + 1)), fg_rho R, 304)
            refine fg_goto (tgt := 5) (fg_ft (pc := 80) tb_Reader_readNumber 42 rfl) (by decide) ?_
            refine ih (n + 1) _ (by omega) (by omega) (by have := pz_dg_lt ((pz_dgI hf hle).mp c27); omega) (fun k k1 k2 => by rcases Nat.lt_or_ge k n with q | q; exact hdg k k1 q; rw [show k = n by omega]; exact (pz_dgI hf hle).mp c27) (fun a j h => (fg_u2nx (by omega)).trans ((fg_u2nx (by omega)).trans (hag a j h))) fg_u2eq (fun hq => ?_)
            rw [fg_u2ns (by decide), fg_u2eq]
            exact congrArg nI (by rw [show n + 1 - s = (n - s) + 1 by omega]; show _ = pz_nv (pz_b c) s (n - s) * 10 + (pz_b c (s + (n - s)) - 48); rw [show s + (n - s) = n by omega]; have := (of_decide_eq_true hd).2.1; omega)
  refine fg_intro (by decide +kernel) (Nat.le_of_ble_eq_true rfl) (fg_okAs rfl) (Nat.le_refl _) ?_
  refine fg_aloadn (fg_ft (pc := 0) tb_Reader_readNumber 0 rfl) rfl ?_
  refine fg_iconst (fg_ft (pc := 1) tb_Reader_readNumber 1 rfl) ic_0 ?_
  refine fg_putI (fg_ft (pc := 2) tb_Reader_readNumber 2 rfl) ff_Reader_207 ly_255 rfl (fg_lt ly_255 (by decide)) (fg_nokI _) (fun _ _ h => by cases h; rfl) ?_
  show fg_wp _ _ _ _ _ _ _ _ _ (fg_u2 μ 255 10 (nI 0), fg_rho R, 304)
  exact loop (len + 1) s _ (by omega) (Nat.le_refl _) hsl (fun k k1 k2 => absurd k2 (by omega)) (fun a j h => fg_u2nx (by omega)) ((fg_u2ns (by decide)).trans hs7) (fun _ => by rw [Nat.sub_self]; exact fg_u2eq)
theorem pz_oW_e (s e : Nat) (o : Option Nat) : (pz_oW s e o).2.2.2 = e := by cases o <;> rfl
theorem pz_oW_s (s e : Nat) (o : Option Nat) : (pz_oW s e o).1 = s := by cases o <;> rfl
theorem pz_oW_1 (s e : Nat) (o : Option Nat) : ¬ (pz_oW s e o).2.1 = 1 := by
  cases o with
  | none => show ¬ 4 = 1; decide
  | some w => show ¬ 3 = 1; decide
def pz_ag7 (μ μ' : Nat → Nat → Int32) : Prop := ∀ a j, (a ≠ 255 ∨ j ≠ 7) → μ' a j = μ a j
theorem ev_Reader_nextToken {E : fg_E} {d : Nat} {μ : Nat → Nat → Int32} {R : fg_T4} {Q : Option Value → fg_M → Prop} {c : Nat → Int32} {len : Nat} (hr5 : fg_rho R 255 5 = some 102) (hc : ∀ j, j < 600 → μ 102 j = c j) (hl6 : μ 255 6 = nI len) (hle : len ≤ 600) (hf : pz_fit c) {n0 : Nat} (h7 : μ 255 7 = nI n0) (hn0 : n0 ≤ len) (hQ : ∀ μ' : Nat → Nat → Int32, pz_agT μ μ' → μ' 255 7 = nI (pz_tk (pz_b c) len n0).2.2.2 → μ' 255 8 = nI (pz_tc (pz_b c) len n0) → μ' 255 9 = nI (pz_tk (pz_b c) len n0).1 → ((pz_tk (pz_b c) len n0).2.1 = 1 → μ' 255 10 = nI (pz_tk (pz_b c) len n0).2.2.1) → Q none (μ', fg_rho R, 304)) : fg_Ev E yy_Reader_nextToken (d + 3) [.ref 255] (μ, fg_rho R, 304) 304 Q := by
  have hsl : pz_s (pz_b c) len n0 ≤ len := (pz_ru (P := pz_bl (pz_b c) len) (fun k => pz_bl_lt) hn0).2.1
  have wl (g0 : ¬ len ≤ pz_s (pz_b c) len n0) (g1 : pz_lt (pz_b c) len (pz_s (pz_b c) len n0) = true) (μ1 : Nat → Nat → Int32) (hag : pz_agT μ μ1) (h8 : μ1 255 8 = nI 119) (h9 : μ1 255 9 = nI (pz_s (pz_b c) len n0)) : ∀ (m n : Nat) (ν : Nat → Nat → Int32) (vx : Value), len - n < m → pz_s (pz_b c) len n0 ≤ n → n ≤ len → (∀ k, pz_s (pz_b c) len n0 ≤ k → k < n → pz_lt (pz_b c) len k = true) → pz_ag7 μ1 ν → ν 255 7 = nI n → fg_wp E yy_Reader_nextToken (d + 3) 304 304 Q 100 [.ref 255, vx] [] (ν, fg_rho R, 304) := by
    intro m
    induction m with
    | zero => intro n ν vx h; exact absurd h (Nat.not_lt_zero _)
    | succ m ih =>
      intro n ν vx hm hsn hnl hdg hag2 hn7
      refine fg_aloadn (fg_ft (pc := 100) tb_Reader_nextToken 48 rfl) rfl ?_
      refine fg_getV (v := (nI n)) (fg_ft (pc := 101) tb_Reader_nextToken 49 rfl) ff_Reader_51 ly_255 rfl (fg_lt ly_255 (by decide)) hn7 ?_
      refine fg_aloadn (fg_ft (pc := 104) tb_Reader_nextToken 50 rfl) rfl ?_
      refine fg_getV (v := (nI len)) (fg_ft (pc := 105) tb_Reader_nextToken 51 rfl) ff_Reader_47 ly_255 rfl (fg_lt ly_255 (by decide)) ((hag2 255 6 (Or.inr (by decide))).trans ((hag 255 6 (Or.inr (by decide))).trans hl6)) ?_
      refine fg_icmp_geN (tgt := 179) (fg_ft (pc := 108) tb_Reader_nextToken 52 rfl) (by decide) (by omega) (by omega) (fun c108 => ?_) (fun c108 => ?_)
      · exact fg_vret (fg_ft (pc := 179) tb_Reader_nextToken 86 rfl) rfl rfl (by
  have hend : pz_lt (pz_b c) len n = false := by
    first
    | exact pz_bf c122 (pz_ltI hf hle)
    | (cases hh : pz_lt (pz_b c) len n with
       | false => rfl
       | true => have := pz_lt_lt hh; omega)
  have er := pz_ru_of (P := pz_lt (pz_b c) len) (len := len) (n := pz_s (pz_b c) len n0) (r := n) hsn hnl hdg hend
  have e1 : pz_tk (pz_b c) len n0 = pz_oW (pz_s (pz_b c) len n0) n (pz_wd (pz_b c) (pz_s (pz_b c) len n0) n) := by unfold pz_tk; rw [if_neg g0, if_pos g1, er]
  have e2 : pz_tc (pz_b c) len n0 = 119 := by unfold pz_tc; rw [if_neg g0, if_pos g1]
  refine hQ _ (fun a j h => (hag2 a j (by omega)).trans (hag a j h)) ?_ (by rw [e2]; exact (hag2 255 8 (Or.inr (by decide))).trans h8) ?_ ?_
  · rw [e1, pz_oW_e]; exact hn7
  · rw [e1, pz_oW_s]; exact (hag2 255 9 (Or.inr (by decide))).trans h9
  · rw [e1]; exact fun hh => absurd hh (pz_oW_1 _ _ _))
      · refine fg_aloadn (fg_ft (pc := 111) tb_Reader_nextToken 53 rfl) rfl ?_
        refine fg_aloadn (fg_ft (pc := 112) tb_Reader_nextToken 54 rfl) rfl ?_
        refine fg_getV (v := (nI n)) (fg_ft (pc := 113) tb_Reader_nextToken 55 rfl) ff_Reader_51 ly_255 rfl (fg_lt ly_255 (by decide)) hn7 ?_
        refine fg_callV (fg_ft (pc := 116) tb_Reader_nextToken 56 rfl) cf_Reader_127 (fg_isOf ly_255 rfl (fg_lt ly_255 (by decide))) (as := [.int (nI n)]) (st := []) rfl rfl (Nat.le_of_ble_eq_true rfl) (Nat.le_refl _) (Nat.le_refl _) (ev_Reader_signAt (k := n) hr5 (fun j hj => ((fun j hj => (hag2 102 j (Or.inl (by decide))).trans ((hag 102 j (Or.inl (by decide))).trans (hc j hj))) j hj)) (((hag2 255 6 (Or.inr (by decide))).trans ((hag 255 6 (Or.inr (by decide))).trans hl6))) hle (by omega) ?_)
        refine fg_callS (fg_ft (pc := 119) tb_Reader_nextToken 57 rfl) cf_Reader_236 (as := [.int (pz_c c len n)]) (st := []) rfl rfl (Nat.le_of_ble_eq_true rfl) (Nat.le_refl _) (Nat.le_refl _) (ev_Reader_isLetter ?_)
        refine fg_ifB_eq (tgt := 179) (fg_ft (pc := 122) tb_Reader_nextToken 58 rfl) (by decide) (fun c122 => ?_) (fun c122 => ?_)
        · exact fg_vret (fg_ft (pc := 179) tb_Reader_nextToken 86 rfl) rfl rfl (by
  have hend : pz_lt (pz_b c) len n = false := by
    first
    | exact pz_bf c122 (pz_ltI hf hle)
    | (cases hh : pz_lt (pz_b c) len n with
       | false => rfl
       | true => have := pz_lt_lt hh; omega)
  have er := pz_ru_of (P := pz_lt (pz_b c) len) (len := len) (n := pz_s (pz_b c) len n0) (r := n) hsn hnl hdg hend
  have e1 : pz_tk (pz_b c) len n0 = pz_oW (pz_s (pz_b c) len n0) n (pz_wd (pz_b c) (pz_s (pz_b c) len n0) n) := by unfold pz_tk; rw [if_neg g0, if_pos g1, er]
  have e2 : pz_tc (pz_b c) len n0 = 119 := by unfold pz_tc; rw [if_neg g0, if_pos g1]
  refine hQ _ (fun a j h => (hag2 a j (by omega)).trans (hag a j h)) ?_ (by rw [e2]; exact (hag2 255 8 (Or.inr (by decide))).trans h8) ?_ ?_
  · rw [e1, pz_oW_e]; exact hn7
  · rw [e1, pz_oW_s]; exact (hag2 255 9 (Or.inr (by decide))).trans h9
  · rw [e1]; exact fun hh => absurd hh (pz_oW_1 _ _ _))
        · refine fg_aloadn (fg_ft (pc := 125) tb_Reader_nextToken 59 rfl) rfl ?_
          refine fg_dup (fg_ft (pc := 126) tb_Reader_nextToken 60 rfl) rfl ?_
          refine fg_getV (v := (nI n)) (fg_ft (pc := 127) tb_Reader_nextToken 61 rfl) ff_Reader_51 ly_255 rfl (fg_lt ly_255 (by decide)) hn7 ?_
          refine fg_iconst (fg_ft (pc := 130) tb_Reader_nextToken 62 rfl) ic_1 ?_
          refine fg_iaddN (fg_ft (pc := 131) tb_Reader_nextToken 63 rfl) ?_
          refine fg_putI (fg_ft (pc := 132) tb_Reader_nextToken 64 rfl) ff_Reader_51 ly_255 rfl (fg_lt ly_255 (by decide)) (fg_nokI _) (fun _ _ h => by cases h; rfl) ?_
          show fg_wp _ _ _ _ _ _ _ _ _ (fg_u2 ν 255 7 (nI (n + 1)), fg_rho R, 304)
          refine fg_goto (tgt := 100) (fg_ft (pc := 135) tb_Reader_nextToken 65 rfl) (by decide) ?_
          exact ih (n + 1) _ _ (by omega) (by omega) (by have := pz_lt_lt ((pz_ltI hf hle).mp c122); omega) (fun k k1 k2 => by rcases Nat.lt_or_ge k n with q | q; exact hdg k k1 q; rw [show k = n by omega]; exact (pz_ltI hf hle).mp c122) (fun a j h => (fg_u2nx (by omega)).trans (hag2 a j h)) fg_u2eq
  have rest : ∀ ν : Nat → Nat → Int32, pz_agT μ ν → ν 255 7 = nI (pz_s (pz_b c) len n0) → fg_wp E yy_Reader_nextToken (d + 3) 304 304 Q 50 [.ref 255, .retAddr 0] [] (ν, fg_rho R, 304) := by
    intro ν hag hn7
    refine fg_aloadn (fg_ft (pc := 50) tb_Reader_nextToken 24 rfl) rfl ?_
    refine fg_aloadn (fg_ft (pc := 51) tb_Reader_nextToken 25 rfl) rfl ?_
    refine fg_getV (v := (nI (pz_s (pz_b c) len n0))) (fg_ft (pc := 52) tb_Reader_nextToken 26 rfl) ff_Reader_51 ly_255 rfl (fg_lt ly_255 (by decide)) hn7 ?_
    refine fg_putI (fg_ft (pc := 55) tb_Reader_nextToken 27 rfl) ff_Reader_80 ly_255 rfl (fg_lt ly_255 (by decide)) (fg_nokI _) (fun _ _ h => by cases h; rfl) ?_
    show fg_wp _ _ _ _ _ _ _ _ _ (fg_u2 ν 255 9 (nI (pz_s (pz_b c) len n0)), fg_rho R, 304)
    refine fg_aloadn (fg_ft (pc := 58) tb_Reader_nextToken 28 rfl) rfl ?_
    refine fg_aloadn (fg_ft (pc := 59) tb_Reader_nextToken 29 rfl) rfl ?_
    refine fg_getV (v := (nI (pz_s (pz_b c) len n0))) (fg_ft (pc := 60) tb_Reader_nextToken 30 rfl) ff_Reader_51 ly_255 rfl (fg_lt ly_255 (by decide)) ((fg_u2ns (f := ν) (a := 255) (k := 9) (b := 255) (j := 7) (x := (nI (pz_s (pz_b c) len n0))) (by decide)).trans hn7) ?_
    refine fg_callV (fg_ft (pc := 63) tb_Reader_nextToken 31 rfl) cf_Reader_127 (fg_isOf ly_255 rfl (fg_lt ly_255 (by decide))) (as := [.int (nI (pz_s (pz_b c) len n0))]) (st := []) rfl rfl (Nat.le_of_ble_eq_true rfl) (Nat.le_refl _) (Nat.le_refl _) (ev_Reader_signAt (k := (pz_s (pz_b c) len n0)) hr5 (fun j hj => ((fg_u2ne (by decide)).trans ((fun j hj => (hag 102 j (Or.inl (by decide))).trans (hc j hj)) j hj))) (((fg_u2ns (f := ν) (a := 255) (k := 9) (b := 255) (j := 6) (x := (nI (pz_s (pz_b c) len n0))) (by decide)).trans ((hag 255 6 (Or.inr (by decide))).trans hl6))) hle (by omega) ?_)
    refine fg_istoren (fg_ft (pc := 66) tb_Reader_nextToken 32 rfl) (Nat.le_of_ble_eq_true rfl) ?_
    refine fg_aloadn (fg_ft (pc := 67) tb_Reader_nextToken 33 rfl) rfl ?_
    refine fg_getV (v := (nI (pz_s (pz_b c) len n0))) (fg_ft (pc := 68) tb_Reader_nextToken 34 rfl) ff_Reader_51 ly_255 rfl (fg_lt ly_255 (by decide)) ((fg_u2ns (f := ν) (a := 255) (k := 9) (b := 255) (j := 7) (x := (nI (pz_s (pz_b c) len n0))) (by decide)).trans hn7) ?_
    refine fg_aloadn (fg_ft (pc := 71) tb_Reader_nextToken 35 rfl) rfl ?_
    refine fg_getV (v := (nI len)) (fg_ft (pc := 72) tb_Reader_nextToken 36 rfl) ff_Reader_47 ly_255 rfl (fg_lt ly_255 (by decide)) ((fg_u2ns (f := ν) (a := 255) (k := 9) (b := 255) (j := 6) (x := (nI (pz_s (pz_b c) len n0))) (by decide)).trans ((hag 255 6 (Or.inr (by decide))).trans hl6)) ?_
    refine fg_icmp_ltN (tgt := 87) (fg_ft (pc := 75) tb_Reader_nextToken 37 rfl) (by decide) (by omega) (by omega) (fun c75 => ?_) (fun c75 => ?_)
    · have g0 : ¬ len ≤ pz_s (pz_b c) len n0 := by omega
      refine fg_iloadn (fg_ft (pc := 87) tb_Reader_nextToken 42 rfl) rfl ?_
      refine fg_callS (fg_ft (pc := 88) tb_Reader_nextToken 43 rfl) cf_Reader_236 (as := [.int (pz_c c len (pz_s (pz_b c) len n0))]) (st := []) rfl rfl (Nat.le_of_ble_eq_true rfl) (Nat.le_refl _) (Nat.le_refl _) (ev_Reader_isLetter ?_)
      refine fg_ifB_eq (tgt := 138) (fg_ft (pc := 91) tb_Reader_nextToken 44 rfl) (by decide) (fun c91 => ?_) (fun c91 => ?_)
      · have g1 : ¬ pz_lt (pz_b c) len (pz_s (pz_b c) len n0) = true := fun hh => c91 ((pz_ltI hf hle).mpr hh)
        refine fg_iloadn (fg_ft (pc := 138) tb_Reader_nextToken 66 rfl) rfl ?_
        refine fg_callS (fg_ft (pc := 139) tb_Reader_nextToken 67 rfl) cf_Reader_239 (as := [.int (pz_c c len (pz_s (pz_b c) len n0))]) (st := []) rfl rfl (Nat.le_of_ble_eq_true rfl) (Nat.le_refl _) (Nat.le_refl _) (ev_Reader_isDigit ?_)
        refine fg_ifB_eq (tgt := 152) (fg_ft (pc := 142) tb_Reader_nextToken 68 rfl) (by decide) (fun c142 => ?_) (fun c142 => ?_)
        · have g2 : ¬ pz_dg (pz_b c) len (pz_s (pz_b c) len n0) = true := fun hh => c142 ((pz_dgI hf hle).mpr hh)
          refine fg_aloadn (fg_ft (pc := 152) tb_Reader_nextToken 72 rfl) rfl ?_
          refine fg_iloadn (fg_ft (pc := 153) tb_Reader_nextToken 73 rfl) rfl ?_
          refine fg_bipush (fg_ft (pc := 154) tb_Reader_nextToken 74 rfl) ib_59 ?_
          refine fg_icmp_ne (tgt := 164) (fg_ft (pc := 156) tb_Reader_nextToken 75 rfl) (by decide) (fun c156 => ?_) (fun c156 => ?_)
          · have g3 : ¬ pz_b c (pz_s (pz_b c) len n0) = 59 := fun hh => c156 ((pz_ceq hf hle (by decide) (by decide)).mpr ⟨by omega, hh⟩)
            refine fg_bipush (fg_ft (pc := 164) tb_Reader_nextToken 78 rfl) ib_98 ?_
            refine fg_putI (fg_ft (pc := 166) tb_Reader_nextToken 79 rfl) ff_Reader_72 ly_255 rfl (fg_lt ly_255 (by decide)) ⟨by decide, by decide⟩ (fun _ _ h => by cases h; rfl) ?_
            show fg_wp _ _ _ _ _ _ _ _ _ (fg_u2 (fg_u2 ν 255 9 (nI (pz_s (pz_b c) len n0))) 255 8 (nI 98), fg_rho R, 304)
            refine fg_aloadn (fg_ft (pc := 169) tb_Reader_nextToken 80 rfl) rfl ?_
            refine fg_dup (fg_ft (pc := 170) tb_Reader_nextToken 81 rfl) rfl ?_
            refine fg_getV (v := (nI (pz_s (pz_b c) len n0))) (fg_ft (pc := 171) tb_Reader_nextToken 82 rfl) ff_Reader_51 ly_255 rfl (fg_lt ly_255 (by decide)) ((fg_u2ns (f := (fg_u2 ν 255 9 (nI (pz_s (pz_b c) len n0)))) (a := 255) (k := 8) (b := 255) (j := 7) (x := (nI 98)) (by decide)).trans ((fg_u2ns (f := ν) (a := 255) (k := 9) (b := 255) (j := 7) (x := (nI (pz_s (pz_b c) len n0))) (by decide)).trans hn7)) ?_
            refine fg_iconst (fg_ft (pc := 174) tb_Reader_nextToken 83 rfl) ic_1 ?_
            refine fg_iaddN (fg_ft (pc := 175) tb_Reader_nextToken 84 rfl) ?_
            refine fg_putI (fg_ft (pc := 176) tb_Reader_nextToken 85 rfl) ff_Reader_51 ly_255 rfl (fg_lt ly_255 (by decide)) (fg_nokI _) (fun _ _ h => by cases h; rfl) ?_
            show fg_wp _ _ _ _ _ _ _ _ _ (fg_u2 (fg_u2 (fg_u2 ν 255 9 (nI (pz_s (pz_b c) len n0))) 255 8 (nI 98)) 255 7 (nI ((pz_s (pz_b c) len n0) + 1)), fg_rho R, 304)
            exact fg_vret (fg_ft (pc := 179) tb_Reader_nextToken 86 rfl) rfl rfl (by
  have e1 : pz_tk (pz_b c) len n0 = (pz_s (pz_b c) len n0, 4, 0, pz_s (pz_b c) len n0 + 1) := by unfold pz_tk; rw [if_neg g0, if_neg g1, if_neg g2, if_neg g3]
  have e2 : pz_tc (pz_b c) len n0 = 98 := by unfold pz_tc; rw [if_neg g0, if_neg g1, if_neg g2, if_neg g3]
  refine hQ _ (fun a j h => ((fg_u2nx (by omega)).trans ((fg_u2nx (by omega)).trans ((fg_u2nx (by omega)).trans (hag a j h))))) (by rw [e1]; exact fg_u2eq) (by rw [e2]; exact ((fg_u2ns (by decide)).trans fg_u2eq)) (by rw [e1]; exact ((fg_u2ns (by decide)).trans ((fg_u2ns (by decide)).trans fg_u2eq))) (by rw [e1]; exact fun hh => absurd hh (by show ¬ 4 = 1; decide)))
          · have g3 : pz_b c (pz_s (pz_b c) len n0) = 59 := ((pz_ceq hf hle (by decide) (by decide)).mp c156).2
            refine fg_bipush (fg_ft (pc := 159) tb_Reader_nextToken 76 rfl) ib_59 ?_
            refine fg_goto (tgt := 166) (fg_ft (pc := 161) tb_Reader_nextToken 77 rfl) (by decide) ?_
            refine fg_putI (fg_ft (pc := 166) tb_Reader_nextToken 79 rfl) ff_Reader_72 ly_255 rfl (fg_lt ly_255 (by decide)) ⟨by decide, by decide⟩ (fun _ _ h => by cases h; rfl) ?_
            show fg_wp _ _ _ _ _ _ _ _ _ (fg_u2 (fg_u2 ν 255 9 (nI (pz_s (pz_b c) len n0))) 255 8 (nI 59), fg_rho R, 304)
            refine fg_aloadn (fg_ft (pc := 169) tb_Reader_nextToken 80 rfl) rfl ?_
            refine fg_dup (fg_ft (pc := 170) tb_Reader_nextToken 81 rfl) rfl ?_
            refine fg_getV (v := (nI (pz_s (pz_b c) len n0))) (fg_ft (pc := 171) tb_Reader_nextToken 82 rfl) ff_Reader_51 ly_255 rfl (fg_lt ly_255 (by decide)) ((fg_u2ns (f := (fg_u2 ν 255 9 (nI (pz_s (pz_b c) len n0)))) (a := 255) (k := 8) (b := 255) (j := 7) (x := (nI 59)) (by decide)).trans ((fg_u2ns (f := ν) (a := 255) (k := 9) (b := 255) (j := 7) (x := (nI (pz_s (pz_b c) len n0))) (by decide)).trans hn7)) ?_
            refine fg_iconst (fg_ft (pc := 174) tb_Reader_nextToken 83 rfl) ic_1 ?_
            refine fg_iaddN (fg_ft (pc := 175) tb_Reader_nextToken 84 rfl) ?_
            refine fg_putI (fg_ft (pc := 176) tb_Reader_nextToken 85 rfl) ff_Reader_51 ly_255 rfl (fg_lt ly_255 (by decide)) (fg_nokI _) (fun _ _ h => by cases h; rfl) ?_
            show fg_wp _ _ _ _ _ _ _ _ _ (fg_u2 (fg_u2 (fg_u2 ν 255 9 (nI (pz_s (pz_b c) len n0))) 255 8 (nI 59)) 255 7 (nI ((pz_s (pz_b c) len n0) + 1)), fg_rho R, 304)
            exact fg_vret (fg_ft (pc := 179) tb_Reader_nextToken 86 rfl) rfl rfl (by
  have e1 : pz_tk (pz_b c) len n0 = (pz_s (pz_b c) len n0, 2, 0, pz_s (pz_b c) len n0 + 1) := by unfold pz_tk; rw [if_neg g0, if_neg g1, if_neg g2, if_pos g3]
  have e2 : pz_tc (pz_b c) len n0 = 59 := by unfold pz_tc; rw [if_neg g0, if_neg g1, if_neg g2, if_pos g3]
  refine hQ _ (fun a j h => ((fg_u2nx (by omega)).trans ((fg_u2nx (by omega)).trans ((fg_u2nx (by omega)).trans (hag a j h))))) (by rw [e1]; exact fg_u2eq) (by rw [e2]; exact ((fg_u2ns (by decide)).trans fg_u2eq)) (by rw [e1]; exact ((fg_u2ns (by decide)).trans ((fg_u2ns (by decide)).trans fg_u2eq))) (by rw [e1]; exact fun hh => absurd hh (by show ¬ 2 = 1; decide)))
        · have g2 := (pz_dgI hf hle).mp c142
          refine fg_aloadn (fg_ft (pc := 145) tb_Reader_nextToken 69 rfl) rfl ?_
          refine fg_callV (fg_ft (pc := 146) tb_Reader_nextToken 70 rfl) cf_Reader_242 (fg_isOf ly_255 rfl (fg_lt ly_255 (by decide))) (as := []) (st := []) rfl rfl (Nat.le_of_ble_eq_true rfl) (Nat.le_refl _) (Nat.le_refl _) (ev_Reader_readNumber (s := (pz_s (pz_b c) len n0)) hr5 (fun j hj => ((fg_u2ne (by decide)).trans ((fun j hj => (hag 102 j (Or.inl (by decide))).trans (hc j hj)) j hj))) (((fg_u2ns (f := ν) (a := 255) (k := 9) (b := 255) (j := 6) (x := (nI (pz_s (pz_b c) len n0))) (by decide)).trans ((hag 255 6 (Or.inr (by decide))).trans hl6))) hle hf (((fg_u2ns (f := ν) (a := 255) (k := 9) (b := 255) (j := 7) (x := (nI (pz_s (pz_b c) len n0))) (by decide)).trans hn7)) (fg_u2eq) hsl ?_)
          intro ν2 hag2 h7 h8 h10
          show fg_wp _ _ _ _ _ _ _ _ _ (ν2, fg_rho R, 304)
          refine fg_goto (tgt := 179) (fg_ft (pc := 149) tb_Reader_nextToken 71 rfl) (by decide) ?_
          exact fg_vret (fg_ft (pc := 179) tb_Reader_nextToken 86 rfl) rfl rfl (by
  have e1 : pz_tk (pz_b c) len n0 = (if pz_run (pz_dg (pz_b c) len) len (pz_s (pz_b c) len n0) - pz_s (pz_b c) len n0 ≤ 2 then (pz_s (pz_b c) len n0, 1, pz_nv (pz_b c) (pz_s (pz_b c) len n0) (pz_run (pz_dg (pz_b c) len) len (pz_s (pz_b c) len n0) - pz_s (pz_b c) len n0), pz_run (pz_dg (pz_b c) len) len (pz_s (pz_b c) len n0)) else (pz_s (pz_b c) len n0, 4, 0, pz_run (pz_dg (pz_b c) len) len (pz_s (pz_b c) len n0))) := by
    unfold pz_tk; rw [if_neg g0, if_neg g1, if_pos g2]
  have e2 : pz_tc (pz_b c) len n0 = if pz_run (pz_dg (pz_b c) len) len (pz_s (pz_b c) len n0) - pz_s (pz_b c) len n0 ≤ 2 then 110 else 98 := by
    unfold pz_tc; rw [if_neg g0, if_neg g1, if_pos g2]
  refine hQ ν2 (fun a j h => (hag2 a j (by omega)).trans ((fg_u2nx (by omega)).trans (hag a j h))) ?_ (by rw [e2]; exact h8) ?_ ?_
  · rw [e1]; rw [h7]; split <;> rfl
  · rw [e1]; rw [hag2 255 9 (Or.inr (by decide)), fg_u2eq]; split <;> rfl
  · rw [e1]
    by_cases q : pz_run (pz_dg (pz_b c) len) len (pz_s (pz_b c) len n0) - pz_s (pz_b c) len n0 ≤ 2
    · rw [if_pos q]; exact fun _ => h10 q
    · rw [if_neg q]; exact fun hh => absurd hh (by show ¬ 4 = 1; decide))
      · have g1 := (pz_ltI hf hle).mp c91
        refine fg_aloadn (fg_ft (pc := 94) tb_Reader_nextToken 45 rfl) rfl ?_
        refine fg_bipush (fg_ft (pc := 95) tb_Reader_nextToken 46 rfl) ib_119 ?_
        refine fg_putI (fg_ft (pc := 97) tb_Reader_nextToken 47 rfl) ff_Reader_72 ly_255 rfl (fg_lt ly_255 (by decide)) ⟨by decide, by decide⟩ (fun _ _ h => by cases h; rfl) ?_
        show fg_wp _ _ _ _ _ _ _ _ _ (fg_u2 (fg_u2 ν 255 9 (nI (pz_s (pz_b c) len n0))) 255 8 (nI 119), fg_rho R, 304)
        exact wl g0 g1 _ (fun a j h => (fg_u2nx (by omega)).trans ((fg_u2nx (by omega)).trans (hag a j h))) fg_u2eq ((fg_u2ns (by decide)).trans fg_u2eq) (len + 1) (pz_s (pz_b c) len n0) _ _ (by omega) (Nat.le_refl _) hsl (fun k k1 k2 => absurd k2 (by omega)) (fun a j h => rfl) ((fg_u2ns (by decide)).trans ((fg_u2ns (by decide)).trans hn7))
    · have g0 : len ≤ pz_s (pz_b c) len n0 := by omega
      refine fg_aloadn (fg_ft (pc := 78) tb_Reader_nextToken 38 rfl) rfl ?_
      refine fg_bipush (fg_ft (pc := 79) tb_Reader_nextToken 39 rfl) ib_101 ?_
      refine fg_putI (fg_ft (pc := 81) tb_Reader_nextToken 40 rfl) ff_Reader_72 ly_255 rfl (fg_lt ly_255 (by decide)) ⟨by decide, by decide⟩ (fun _ _ h => by cases h; rfl) ?_
      show fg_wp _ _ _ _ _ _ _ _ _ (fg_u2 (fg_u2 ν 255 9 (nI (pz_s (pz_b c) len n0))) 255 8 (nI 101), fg_rho R, 304)
      refine fg_goto (tgt := 179) (fg_ft (pc := 84) tb_Reader_nextToken 41 rfl) (by decide) ?_
      exact fg_vret (fg_ft (pc := 179) tb_Reader_nextToken 86 rfl) rfl rfl (by
  have e1 : pz_tk (pz_b c) len n0 = (pz_s (pz_b c) len n0, 0, 0, pz_s (pz_b c) len n0) := by unfold pz_tk; rw [if_pos g0]
  have e2 : pz_tc (pz_b c) len n0 = 101 := by unfold pz_tc; rw [if_pos g0]
  refine hQ _ (fun a j h => ((fg_u2nx (by omega)).trans ((fg_u2nx (by omega)).trans (hag a j h)))) (by rw [e1]; exact ((fg_u2ns (by decide)).trans ((fg_u2ns (by decide)).trans hn7))) (by rw [e2]; exact fg_u2eq) (by rw [e1]; exact ((fg_u2ns (by decide)).trans fg_u2eq)) (by rw [e1]; exact fun hh => absurd hh (by show ¬ 0 = 1; decide)))
  have loop : ∀ (m n : Nat) (ν : Nat → Nat → Int32), len - n < m → n0 ≤ n → n ≤ len → (∀ k, n0 ≤ k → k < n → pz_bl (pz_b c) len k = true) → pz_agT μ ν → ν 255 7 = nI n → fg_wp E yy_Reader_nextToken (d + 3) 304 304 Q 0 [.ref 255, .retAddr 0] [] (ν, fg_rho R, 304) := by
    intro m
    induction m with
    | zero => intro n ν h; exact absurd h (Nat.not_lt_zero _)
    | succ m ih =>
      intro n ν hm hsn hnl hdg hag hn7
      refine fg_aloadn (fg_ft (pc := 0) tb_Reader_nextToken 0 rfl) rfl ?_
      refine fg_getV (v := (nI n)) (fg_ft (pc := 1) tb_Reader_nextToken 1 rfl) ff_Reader_51 ly_255 rfl (fg_lt ly_255 (by decide)) hn7 ?_
      refine fg_aloadn (fg_ft (pc := 4) tb_Reader_nextToken 2 rfl) rfl ?_
      refine fg_getV (v := (nI len)) (fg_ft (pc := 5) tb_Reader_nextToken 3 rfl) ff_Reader_47 ly_255 rfl (fg_lt ly_255 (by decide)) ((hag 255 6 (Or.inr (by decide))).trans hl6) ?_
      refine fg_icmp_geN (tgt := 50) (fg_ft (pc := 8) tb_Reader_nextToken 4 rfl) (by decide) (by omega) (by omega) (fun c8 => ?_) (fun c8 => ?_)
      · have hend : pz_bl (pz_b c) len n = false := by
          cases hh : pz_bl (pz_b c) len n with
          | false => rfl
          | true =>
            have h9 := of_decide_eq_true hh
            first
            | omega
            | (rcases h9.2 with q | q
               · exact absurd ((pz_ceq hf hle (by decide) (by decide)).mpr ⟨h9.1, q⟩) c21
               · exact absurd ((pz_ceq hf hle (by decide) (by decide)).mpr ⟨h9.1, q⟩) c34)
        have er : pz_s (pz_b c) len n0 = n := pz_ru_of (P := pz_bl (pz_b c) len) (len := len) (n := n0) (r := n) hsn hnl hdg hend
        exact rest _ hag (by rw [er]; exact hn7)
      · refine fg_aloadn (fg_ft (pc := 11) tb_Reader_nextToken 5 rfl) rfl ?_
        refine fg_aloadn (fg_ft (pc := 12) tb_Reader_nextToken 6 rfl) rfl ?_
        refine fg_getV (v := (nI n)) (fg_ft (pc := 13) tb_Reader_nextToken 7 rfl) ff_Reader_51 ly_255 rfl (fg_lt ly_255 (by decide)) hn7 ?_
        refine fg_callV (fg_ft (pc := 16) tb_Reader_nextToken 8 rfl) cf_Reader_127 (fg_isOf ly_255 rfl (fg_lt ly_255 (by decide))) (as := [.int (nI n)]) (st := []) rfl rfl (Nat.le_of_ble_eq_true rfl) (Nat.le_refl _) (Nat.le_refl _) (ev_Reader_signAt (k := n) hr5 (fun j hj => ((fun j hj => (hag 102 j (Or.inl (by decide))).trans (hc j hj)) j hj)) (((hag 255 6 (Or.inr (by decide))).trans hl6)) hle (by omega) ?_)
        refine fg_bipush (fg_ft (pc := 19) tb_Reader_nextToken 9 rfl) ib_10 ?_
        refine fg_icmp_eq (tgt := 37) (fg_ft (pc := 21) tb_Reader_nextToken 10 rfl) (by decide) (fun c21 => ?_) (fun c21 => ?_)
        · refine fg_aloadn (fg_ft (pc := 37) tb_Reader_nextToken 17 rfl) rfl ?_
          refine fg_dup (fg_ft (pc := 38) tb_Reader_nextToken 18 rfl) rfl ?_
          refine fg_getV (v := (nI n)) (fg_ft (pc := 39) tb_Reader_nextToken 19 rfl) ff_Reader_51 ly_255 rfl (fg_lt ly_255 (by decide)) hn7 ?_
          refine fg_iconst (fg_ft (pc := 42) tb_Reader_nextToken 20 rfl) ic_1 ?_
          refine fg_iaddN (fg_ft (pc := 43) tb_Reader_nextToken 21 rfl) ?_
          refine fg_putI (fg_ft (pc := 44) tb_Reader_nextToken 22 rfl) ff_Reader_51 ly_255 rfl (fg_lt ly_255 (by decide)) (fg_nokI _) (fun _ _ h => by cases h; rfl) ?_
          show fg_wp _ _ _ _ _ _ _ _ _ (fg_u2 ν 255 7 (nI (n + 1)), fg_rho R, 304)
          refine fg_goto (tgt := 0) (fg_ft (pc := 47) tb_Reader_nextToken 23 rfl) (by decide) ?_
          have hb : n < len ∧ (pz_b c n = 10 ∨ pz_b c n = 32) := by
            first
            | exact ⟨((pz_ceq hf hle (by decide) (by decide)).mp c21).1, Or.inl ((pz_ceq hf hle (by decide) (by decide)).mp c21).2⟩
            | exact ⟨((pz_ceq hf hle (by decide) (by decide)).mp c34).1, Or.inr ((pz_ceq hf hle (by decide) (by decide)).mp c34).2⟩
          exact ih (n + 1) _ (by omega) (by omega) (by omega) (fun k k1 k2 => by rcases Nat.lt_or_ge k n with q | q; exact hdg k k1 q; rw [show k = n by omega]; exact decide_eq_true hb) (fun a j h => (fg_u2nx (by omega)).trans (hag a j h)) fg_u2eq
        · refine fg_aloadn (fg_ft (pc := 24) tb_Reader_nextToken 11 rfl) rfl ?_
          refine fg_aloadn (fg_ft (pc := 25) tb_Reader_nextToken 12 rfl) rfl ?_
          refine fg_getV (v := (nI n)) (fg_ft (pc := 26) tb_Reader_nextToken 13 rfl) ff_Reader_51 ly_255 rfl (fg_lt ly_255 (by decide)) hn7 ?_
          refine fg_callV (fg_ft (pc := 29) tb_Reader_nextToken 14 rfl) cf_Reader_127 (fg_isOf ly_255 rfl (fg_lt ly_255 (by decide))) (as := [.int (nI n)]) (st := []) rfl rfl (Nat.le_of_ble_eq_true rfl) (Nat.le_refl _) (Nat.le_refl _) (ev_Reader_signAt (k := n) hr5 (fun j hj => ((fun j hj => (hag 102 j (Or.inl (by decide))).trans (hc j hj)) j hj)) (((hag 255 6 (Or.inr (by decide))).trans hl6)) hle (by omega) ?_)
          refine fg_bipush (fg_ft (pc := 32) tb_Reader_nextToken 15 rfl) ib_32 ?_
          refine fg_icmp_ne (tgt := 50) (fg_ft (pc := 34) tb_Reader_nextToken 16 rfl) (by decide) (fun c34 => ?_) (fun c34 => ?_)
          · have hend : pz_bl (pz_b c) len n = false := by
              cases hh : pz_bl (pz_b c) len n with
              | false => rfl
              | true =>
                have h9 := of_decide_eq_true hh
                first
                | omega
                | (rcases h9.2 with q | q
                   · exact absurd ((pz_ceq hf hle (by decide) (by decide)).mpr ⟨h9.1, q⟩) c21
                   · exact absurd ((pz_ceq hf hle (by decide) (by decide)).mpr ⟨h9.1, q⟩) c34)
            have er : pz_s (pz_b c) len n0 = n := pz_ru_of (P := pz_bl (pz_b c) len) (len := len) (n := n0) (r := n) hsn hnl hdg hend
            exact rest _ hag (by rw [er]; exact hn7)
          · refine fg_aloadn (fg_ft (pc := 37) tb_Reader_nextToken 17 rfl) rfl ?_
            refine fg_dup (fg_ft (pc := 38) tb_Reader_nextToken 18 rfl) rfl ?_
            refine fg_getV (v := (nI n)) (fg_ft (pc := 39) tb_Reader_nextToken 19 rfl) ff_Reader_51 ly_255 rfl (fg_lt ly_255 (by decide)) hn7 ?_
            refine fg_iconst (fg_ft (pc := 42) tb_Reader_nextToken 20 rfl) ic_1 ?_
            refine fg_iaddN (fg_ft (pc := 43) tb_Reader_nextToken 21 rfl) ?_
            refine fg_putI (fg_ft (pc := 44) tb_Reader_nextToken 22 rfl) ff_Reader_51 ly_255 rfl (fg_lt ly_255 (by decide)) (fg_nokI _) (fun _ _ h => by cases h; rfl) ?_
            show fg_wp _ _ _ _ _ _ _ _ _ (fg_u2 ν 255 7 (nI (n + 1)), fg_rho R, 304)
            refine fg_goto (tgt := 0) (fg_ft (pc := 47) tb_Reader_nextToken 23 rfl) (by decide) ?_
            have hb : n < len ∧ (pz_b c n = 10 ∨ pz_b c n = 32) := by
              first
              | exact ⟨((pz_ceq hf hle (by decide) (by decide)).mp c21).1, Or.inl ((pz_ceq hf hle (by decide) (by decide)).mp c21).2⟩
              | exact ⟨((pz_ceq hf hle (by decide) (by decide)).mp c34).1, Or.inr ((pz_ceq hf hle (by decide) (by decide)).mp c34).2⟩
            exact ih (n + 1) _ (by omega) (by omega) (by omega) (fun k k1 k2 => by rcases Nat.lt_or_ge k n with q | q; exact hdg k k1 q; rw [show k = n by omega]; exact decide_eq_true hb) (fun a j h => (fg_u2nx (by omega)).trans (hag a j h)) fg_u2eq
  refine fg_intro (by decide +kernel) (Nat.le_of_ble_eq_true rfl) (fg_okAs rfl) (Nat.le_refl _) ?_
  exact loop (len + 1) n0 μ (by omega) (Nat.le_refl _) hn0 (fun k k1 k2 => absurd k2 (by omega)) (fun a j h => rfl) h7
