/-! the fewest, by going up -/
def fg_mn (X : Nat → Prop) (n : Nat) : Option Nat → Prop
  | none => ∀ q, q < n → ¬ X q
  | some p => p < n ∧ X p ∧ ∀ q, q < n → X q → fg_pc p < fg_pc q ∨ (fg_pc p = fg_pc q ∧ p ≤ q)
theorem fg_mn_0 {X : Nat → Prop} {n : Nat} {r : Option Nat} (h : fg_mn X n r) (hn : ¬ X n) : fg_mn X (n + 1) r := by
  cases r with
  | none =>
    intro q hq
    rcases Nat.lt_or_ge q n with g | g
    · exact h q g
    · rw [show q = n by omega]; exact hn
  | some p =>
    obtain ⟨h1, h2, h3⟩ := h
    refine ⟨by omega, h2, fun q hq hx => ?_⟩
    rcases Nat.lt_or_ge q n with g | g
    · exact h3 q g hx
    · rw [show q = n by omega] at hx; exact absurd hx hn
theorem fg_mn_ge {X : Nat → Prop} {n p : Nat} (h : fg_mn X n (some p)) (hn : fg_pc p ≤ fg_pc n) : fg_mn X (n + 1) (some p) := by
  obtain ⟨h1, h2, h3⟩ := h
  refine ⟨by omega, h2, fun q hq hx => ?_⟩
  rcases Nat.lt_or_ge q n with g | g
  · exact h3 q g hx
  · rw [show q = n by omega]
    rcases Nat.lt_or_ge (fg_pc p) (fg_pc n) with b | b
    · exact Or.inl b
    · exact Or.inr ⟨by omega, by omega⟩
theorem fg_mn_1 {X : Nat → Prop} {n : Nat} (h : fg_mn X n none) (hx : X n) : fg_mn X (n + 1) (some n) := by
  refine ⟨by omega, hx, fun q hq hx => ?_⟩
  rcases Nat.lt_or_ge q n with g | g
  · exact absurd hx (h q g)
  · rw [show q = n by omega]; exact Or.inr ⟨rfl, Nat.le_refl _⟩
theorem fg_mn_2 {X : Nat → Prop} {n p : Nat} (h : fg_mn X n (some p)) (hp : fg_pc n < fg_pc p) (hx : X n) : fg_mn X (n + 1) (some n) := by
  obtain ⟨h1, h2, h3⟩ := h
  refine ⟨by omega, hx, fun q hq hx => ?_⟩
  rcases Nat.lt_or_ge q n with g | g
  · have := h3 q g hx
    exact Or.inl (by omega)
  · rw [show q = n by omega]; exact Or.inr ⟨rfl, Nat.le_refl _⟩
theorem fg_mn_end {X : Nat → Prop} {n : Nat} {r : Option Nat} (h : fg_mn X n r) (hb : ∀ q, X q → q < n) : fg_min X = r := by
  refine fg_min_of ?_
  cases r with
  | none => exact fun q hx => h q (hb q hx) hx
  | some p => exact ⟨h.2.1, fun q hx => h.2.2 q (hb q hx) hx⟩
theorem fg_min_congr {X Y : Nat → Prop} (h : ∀ q, X q ↔ Y q) : fg_min X = fg_min Y := by rw [show X = Y from funext (fun q => propext (h q))]
theorem fg_min_is {X : Nat → Prop} : ∃ r, fg_IsM X r := by
  rcases Classical.em (∃ q, X q) with g | g
  · have key : ∀ (m : Nat), (∃ q, X q ∧ fg_pc q ≤ m) → ∃ q, X q ∧ (∀ r, X r → fg_pc q ≤ fg_pc r) := by
      intro m
      induction m with
      | zero => rintro ⟨q, h1, h2⟩; exact ⟨q, h1, fun r _ => by omega⟩
      | succ m ih =>
        rintro ⟨q, h1, h2⟩
        rcases Classical.em (∃ q, X q ∧ fg_pc q ≤ m) with z | z
        · exact ih z
        · exact ⟨q, h1, fun r hr => by
            rcases Nat.lt_or_ge (fg_pc r) (fg_pc q) with b | b
            · exact absurd ⟨r, hr, by omega⟩ z
            · exact b⟩
    obtain ⟨q0, h0⟩ := g
    obtain ⟨q, h1, h2⟩ := key (fg_pc q0) ⟨q0, h0, Nat.le_refl _⟩
    have key2 : ∀ (m : Nat), (∃ p, X p ∧ fg_pc p = fg_pc q ∧ p ≤ m) → ∃ p, X p ∧ fg_pc p = fg_pc q ∧ ∀ r, X r → fg_pc r = fg_pc q → p ≤ r := by
      intro m
      induction m with
      | zero => rintro ⟨p, a1, a2, a3⟩; exact ⟨p, a1, a2, fun r _ _ => by omega⟩
      | succ m ih =>
        rintro ⟨p, a1, a2, a3⟩
        rcases Classical.em (∃ p, X p ∧ fg_pc p = fg_pc q ∧ p ≤ m) with z | z
        · exact ih z
        · exact ⟨p, a1, a2, fun r hr he => by
            rcases Nat.lt_or_ge r p with b | b
            · exact absurd ⟨r, hr, he, by omega⟩ z
            · exact b⟩
    obtain ⟨p, a1, a2, a3⟩ := key2 q ⟨q, h1, rfl, Nat.le_refl _⟩
    refine ⟨some p, a1, fun r hr => ?_⟩
    have := h2 r hr
    rcases Nat.lt_or_ge (fg_pc p) (fg_pc r) with b | b
    · exact Or.inl b
    · exact Or.inr ⟨by omega, a3 r hr (by omega)⟩
  · exact ⟨none, fun q hq => g ⟨q, hq⟩⟩
/-- a larger set of candidates, each of which has a candidate of the smaller one that is no worse -/
theorem fg_min_sub {X Y : Nat → Prop} (h1 : ∀ q, X q → Y q) (h2 : ∀ q, Y q → ∃ p, X p ∧ fg_pc p ≤ fg_pc q ∧ p ≤ q) : fg_min Y = fg_min X := by
  obtain ⟨r, hr⟩ := fg_min_is (X := X)
  rw [fg_min_of hr]
  refine fg_min_of ?_
  cases r with
  | none => exact fun q hq => by obtain ⟨p, a, _⟩ := h2 q hq; exact hr p a
  | some p =>
    refine ⟨h1 p hr.1, fun q hq => ?_⟩
    obtain ⟨p', a1, a2, a3⟩ := h2 q hq
    rcases hr.2 p' a1 with b | b
    · exact Or.inl (by omega)
    · rcases Nat.lt_or_ge (fg_pc p) (fg_pc q) with c | c
      · exact Or.inl c
      · exact Or.inr ⟨by omega, by omega⟩
theorem fg_zand (x : Nat) : 0 &&& x = 0 := Nat.zero_and x
theorem ev_Mo_fewest {E : fg_E} {d : Nat} {μ : Nat → Nat → Int32} {R : fg_T4} {Q : Option Value → fg_M → Prop} {v : Nat} {T : Nat → Nat} (hM : fg_MT (μ 288) v T) (hok : fg_ok T) (hC : fg_MC μ T) {facts beside need : Nat} (hfa : facts < 2 ^ T 0) (hbe : beside < 2 ^ T 0) (hne : need < 2 ^ 10) (hQ : Q (some (.int (fg_o (fg_min (fun s => fg_le s facts ∧ fg_few T beside need 0 s))))) (μ, fg_rho R, 304))  : fg_Ev E yy_Mo_fewest (d + 3) [.ref 287, .int (nI v), .int (nI facts), .int (nI beside), .int (nI need)] (μ, fg_rho R, 304) 304 Q := by
  have hv0 := hM.1
  have hb0 := hok.1
  have hb1 := hok.2.1
  have hp := hok.p
  have hq := Nat.two_pow_pos (T 0)
  refine fg_intro (by decide +kernel) (Nat.le_of_ble_eq_true rfl) (fg_okAs rfl) (Nat.le_refl _) ?_
  refine fg_iconst (fg_ft (pc := 0) tb_Mo_fewest 0 rfl) ic_m1 ?_
  refine fg_istore (fg_ft (pc := 1) tb_Mo_fewest 1 rfl) (Nat.le_of_ble_eq_true rfl) ?_
  refine fg_iconst (fg_ft (pc := 3) tb_Mo_fewest 2 rfl) ic_0 ?_
  refine fg_istore (fg_ft (pc := 4) tb_Mo_fewest 3 rfl) (Nat.le_of_ble_eq_true rfl) ?_
  have loop : ∀ (m s : Nat) (r : Option Nat), (facts + 1) - s < m → s ≤ facts + 1 → fg_mn (fun s => fg_le s facts ∧ fg_few T beside need 0 s) s r → fg_wp E yy_Mo_fewest (d + 3) 304 304 Q 6 [.ref 287, .int (nI v), .int (nI facts), .int (nI beside), .int (nI need), .int (fg_o r), .int (nI s)] [] (μ, fg_rho R, 304) := by
    intro m
    induction m with
    | zero => intro s r h; exact absurd h (Nat.not_lt_zero _)
    | succ m ih =>
      intro s r hm hs hI
      cases r with
      | none =>
        show fg_wp E yy_Mo_fewest (d + 3) 304 304 Q 6 [.ref 287, .int (nI v), .int (nI facts), .int (nI beside), .int (nI need), .int (-1), .int (nI s)] [] (μ, fg_rho R, 304)
        refine fg_iload (fg_ft (pc := 6) tb_Mo_fewest 4 rfl) rfl ?_
        refine fg_iloadn (fg_ft (pc := 8) tb_Mo_fewest 5 rfl) rfl ?_
        refine fg_icmp_gtN (tgt := 69) (fg_ft (pc := 9) tb_Mo_fewest 6 rfl) (by decide) (by omega) (by omega) (fun c9 => ?_) (fun c9 => ?_)
        · refine fg_iload (fg_ft (pc := 69) tb_Mo_fewest 36 rfl) rfl ?_
          exact fg_iret (fg_ft (pc := 71) tb_Mo_fewest 37 rfl) rfl rfl (by rw [fg_mn_end hI (fun q hq => by have := fg_le_le hq.1; omega)] at hQ; exact hQ)
        · refine fg_iload (fg_ft (pc := 12) tb_Mo_fewest 7 rfl) rfl ?_
          refine fg_iloadn (fg_ft (pc := 14) tb_Mo_fewest 8 rfl) rfl ?_
          refine fg_iconst (fg_ft (pc := 15) tb_Mo_fewest 9 rfl) ic_m1 ?_
          refine fg_ixor (fg_ft (pc := 16) tb_Mo_fewest 10 rfl) ?_
          refine fg_iandD (fg_ft (pc := 17) tb_Mo_fewest 11 rfl) ?_
          refine fg_if_neN (tgt := 63) (fg_ft (pc := 18) tb_Mo_fewest 12 rfl) (by decide) (fg_df_le31 (by omega)) (fun c18 => ?_) (fun c18 => ?_)
          · refine fg_iincN (fg_ft (pc := 63) tb_Mo_fewest 34 rfl) rfl ic_1 rfl ?_
            refine fg_goto (tgt := 6) (fg_ft (pc := 66) tb_Mo_fewest 35 rfl) (by decide) ?_
            exact ih (s + 1) none (by omega) (by omega) (fg_mn_0 hI (fun hh => by first | exact c18 (fg_df0.mpr hh.1) | exact c56 hh.2.1))
          · refine fg_iload (fg_ft (pc := 21) tb_Mo_fewest 13 rfl) rfl ?_
            refine fg_if_lt (tgt := 42) (fg_ft (pc := 23) tb_Mo_fewest 14 rfl) (by decide) (fun c23 => ?_) (fun c23 => (absurd (by decide) c23))
            refine fg_iload (fg_ft (pc := 42) tb_Mo_fewest 21 rfl) rfl ?_
            refine fg_aloadn (fg_ft (pc := 44) tb_Mo_fewest 22 rfl) rfl ?_
            refine fg_iloadn (fg_ft (pc := 45) tb_Mo_fewest 23 rfl) rfl ?_
            refine fg_iloadn (fg_ft (pc := 46) tb_Mo_fewest 24 rfl) rfl ?_
            refine fg_iload (fg_ft (pc := 47) tb_Mo_fewest 25 rfl) rfl ?_
            refine fg_iorN (fg_ft (pc := 49) tb_Mo_fewest 26 rfl) ?_
            refine fg_callV (fg_ft (pc := 50) tb_Mo_fewest 27 rfl) cf_Mo_206 (fg_isOf ly_287 rfl (fg_lt ly_287 (by decide))) (as := [.int (nI v), .int (nI (beside ||| s))]) (st := [.int (nI need)]) rfl rfl (Nat.le_of_ble_eq_true rfl) (Nat.le_refl _) (Nat.le_refl _) (ev_Mo_follow hM hok hC (s := (beside ||| s)) (fg_or_lt hbe (fg_le_lt (fg_df0.mp c18) hfa)) ?_)
            refine fg_iconst (fg_ft (pc := 53) tb_Mo_fewest 28 rfl) ic_m1 ?_
            refine fg_ixor (fg_ft (pc := 54) tb_Mo_fewest 29 rfl) ?_
            refine fg_iandD (fg_ft (pc := 55) tb_Mo_fewest 30 rfl) ?_
            refine fg_if_neN (tgt := 63) (fg_ft (pc := 56) tb_Mo_fewest 31 rfl) (by decide) (fg_df_le31 (by omega)) (fun c56 => ?_) (fun c56 => ?_)
            · refine fg_iincN (fg_ft (pc := 63) tb_Mo_fewest 34 rfl) rfl ic_1 rfl ?_
              refine fg_goto (tgt := 6) (fg_ft (pc := 66) tb_Mo_fewest 35 rfl) (by decide) ?_
              exact ih (s + 1) none (by omega) (by omega) (fg_mn_0 hI (fun hh => by first | exact c18 (fg_df0.mpr hh.1) | exact c56 hh.2.1))
            · refine fg_iload (fg_ft (pc := 59) tb_Mo_fewest 32 rfl) rfl ?_
              refine fg_istore (fg_ft (pc := 61) tb_Mo_fewest 33 rfl) (Nat.le_of_ble_eq_true rfl) ?_
              refine fg_iincN (fg_ft (pc := 63) tb_Mo_fewest 34 rfl) rfl ic_1 rfl ?_
              refine fg_goto (tgt := 6) (fg_ft (pc := 66) tb_Mo_fewest 35 rfl) (by decide) ?_
              exact ih (s + 1) (some s) (by omega) (by omega) (fg_mn_1 hI ⟨fg_df0.mp c18, c56, fg_zand _⟩)
      | some p =>
        show fg_wp E yy_Mo_fewest (d + 3) 304 304 Q 6 [.ref 287, .int (nI v), .int (nI facts), .int (nI beside), .int (nI need), .int (nI p), .int (nI s)] [] (μ, fg_rho R, 304)
        have hps := hI.1
        refine fg_iload (fg_ft (pc := 6) tb_Mo_fewest 4 rfl) rfl ?_
        refine fg_iloadn (fg_ft (pc := 8) tb_Mo_fewest 5 rfl) rfl ?_
        refine fg_icmp_gtN (tgt := 69) (fg_ft (pc := 9) tb_Mo_fewest 6 rfl) (by decide) (by omega) (by omega) (fun c9 => ?_) (fun c9 => ?_)
        · refine fg_iload (fg_ft (pc := 69) tb_Mo_fewest 36 rfl) rfl ?_
          exact fg_iret (fg_ft (pc := 71) tb_Mo_fewest 37 rfl) rfl rfl (by rw [fg_mn_end hI (fun q hq => by have := fg_le_le hq.1; omega)] at hQ; exact hQ)
        · refine fg_iload (fg_ft (pc := 12) tb_Mo_fewest 7 rfl) rfl ?_
          refine fg_iloadn (fg_ft (pc := 14) tb_Mo_fewest 8 rfl) rfl ?_
          refine fg_iconst (fg_ft (pc := 15) tb_Mo_fewest 9 rfl) ic_m1 ?_
          refine fg_ixor (fg_ft (pc := 16) tb_Mo_fewest 10 rfl) ?_
          refine fg_iandD (fg_ft (pc := 17) tb_Mo_fewest 11 rfl) ?_
          refine fg_if_neN (tgt := 63) (fg_ft (pc := 18) tb_Mo_fewest 12 rfl) (by decide) (fg_df_le31 (by omega)) (fun c18 => ?_) (fun c18 => ?_)
          · refine fg_iincN (fg_ft (pc := 63) tb_Mo_fewest 34 rfl) rfl ic_1 rfl ?_
            refine fg_goto (tgt := 6) (fg_ft (pc := 66) tb_Mo_fewest 35 rfl) (by decide) ?_
            exact ih (s + 1) (some p) (by omega) (by omega) (by first | exact fg_mn_ge hI c36 | exact fg_mn_0 hI (fun hh => by first | exact c18 (fg_df0.mpr hh.1) | exact c56 hh.2.1))
          · refine fg_iload (fg_ft (pc := 21) tb_Mo_fewest 13 rfl) rfl ?_
            refine fg_if_ltN (tgt := 42) (fg_ft (pc := 23) tb_Mo_fewest 14 rfl) (by decide) (by omega) ?_
            refine fg_iload (fg_ft (pc := 26) tb_Mo_fewest 15 rfl) rfl ?_
            refine fg_callS (fg_ft (pc := 28) tb_Mo_fewest 16 rfl) cf_Mo_185 (as := [.int (nI s)]) (st := []) rfl rfl (Nat.le_of_ble_eq_true rfl) (Nat.le_refl _) (Nat.le_refl _) (ev_Mo_many (s := s) (by omega) ?_)
            refine fg_iload (fg_ft (pc := 31) tb_Mo_fewest 17 rfl) rfl ?_
            refine fg_callS (fg_ft (pc := 33) tb_Mo_fewest 18 rfl) cf_Mo_185 (as := [.int (nI p)]) (st := [.int (nI (fg_pc s))]) rfl rfl (Nat.le_of_ble_eq_true rfl) (Nat.le_refl _) (Nat.le_refl _) (ev_Mo_many (s := p) (by omega) ?_)
            refine fg_icmp_ltN (tgt := 42) (fg_ft (pc := 36) tb_Mo_fewest 19 rfl) (by decide) (by have := fg_pc_le s; omega) (by have := fg_pc_le p; omega) (fun c36 => ?_) (fun c36 => ?_)
            · refine fg_iload (fg_ft (pc := 42) tb_Mo_fewest 21 rfl) rfl ?_
              refine fg_aloadn (fg_ft (pc := 44) tb_Mo_fewest 22 rfl) rfl ?_
              refine fg_iloadn (fg_ft (pc := 45) tb_Mo_fewest 23 rfl) rfl ?_
              refine fg_iloadn (fg_ft (pc := 46) tb_Mo_fewest 24 rfl) rfl ?_
              refine fg_iload (fg_ft (pc := 47) tb_Mo_fewest 25 rfl) rfl ?_
              refine fg_iorN (fg_ft (pc := 49) tb_Mo_fewest 26 rfl) ?_
              refine fg_callV (fg_ft (pc := 50) tb_Mo_fewest 27 rfl) cf_Mo_206 (fg_isOf ly_287 rfl (fg_lt ly_287 (by decide))) (as := [.int (nI v), .int (nI (beside ||| s))]) (st := [.int (nI need)]) rfl rfl (Nat.le_of_ble_eq_true rfl) (Nat.le_refl _) (Nat.le_refl _) (ev_Mo_follow hM hok hC (s := (beside ||| s)) (fg_or_lt hbe (fg_le_lt (fg_df0.mp c18) hfa)) ?_)
              refine fg_iconst (fg_ft (pc := 53) tb_Mo_fewest 28 rfl) ic_m1 ?_
              refine fg_ixor (fg_ft (pc := 54) tb_Mo_fewest 29 rfl) ?_
              refine fg_iandD (fg_ft (pc := 55) tb_Mo_fewest 30 rfl) ?_
              refine fg_if_neN (tgt := 63) (fg_ft (pc := 56) tb_Mo_fewest 31 rfl) (by decide) (fg_df_le31 (by omega)) (fun c56 => ?_) (fun c56 => ?_)
              · refine fg_iincN (fg_ft (pc := 63) tb_Mo_fewest 34 rfl) rfl ic_1 rfl ?_
                refine fg_goto (tgt := 6) (fg_ft (pc := 66) tb_Mo_fewest 35 rfl) (by decide) ?_
                exact ih (s + 1) (some p) (by omega) (by omega) (by first | exact fg_mn_ge hI c36 | exact fg_mn_0 hI (fun hh => by first | exact c18 (fg_df0.mpr hh.1) | exact c56 hh.2.1))
              · refine fg_iload (fg_ft (pc := 59) tb_Mo_fewest 32 rfl) rfl ?_
                refine fg_istore (fg_ft (pc := 61) tb_Mo_fewest 33 rfl) (Nat.le_of_ble_eq_true rfl) ?_
                refine fg_iincN (fg_ft (pc := 63) tb_Mo_fewest 34 rfl) rfl ic_1 rfl ?_
                refine fg_goto (tgt := 6) (fg_ft (pc := 66) tb_Mo_fewest 35 rfl) (by decide) ?_
                exact ih (s + 1) (some s) (by omega) (by omega) (fg_mn_2 hI c36 ⟨fg_df0.mp c18, c56, fg_zand _⟩)
            · refine fg_goto (tgt := 63) (fg_ft (pc := 39) tb_Mo_fewest 20 rfl) (by decide) ?_
              refine fg_iincN (fg_ft (pc := 63) tb_Mo_fewest 34 rfl) rfl ic_1 rfl ?_
              refine fg_goto (tgt := 6) (fg_ft (pc := 66) tb_Mo_fewest 35 rfl) (by decide) ?_
              exact ih (s + 1) (some p) (by omega) (by omega) (by first | exact fg_mn_ge hI c36 | exact fg_mn_0 hI (fun hh => by first | exact c18 (fg_df0.mpr hh.1) | exact c56 hh.2.1))
  exact loop (facts + 1 + 1) 0 none (by omega) (by omega) (fun q hq => absurd hq (Nat.not_lt_zero _))
theorem ev_Mo_teach {E : fg_E} {d : Nat} {μ : Nat → Nat → Int32} {R : fg_T4} {Q : Option Value → fg_M → Prop} {A : fg_Tl} (hL : fg_ML (μ 288) A) (hw : fg_wA A) (h17 : μ 287 17 = -1) (h19 : μ 287 19 = nI 0) {town day n person other : Nat} (htown : town < 2 ^ 32) (hday : day < 2 ^ 32) (hn : n < 2 ^ 32) (hperson : person < 2 ^ 32) (hother : other < 2 ^ 32) (hQ : ∀ μ' : Nat → Nat → Int32, fg_agR μ μ' → Q (some (.int (an_teach A town day n person other))) (μ', fg_rho R, 304)) : fg_Ev E yy_Mo_teach (d + 12) [.ref 287, .int (nI town), .int (nI day), .int (nI n), .int (nI person), .int (nI other)] (μ, fg_rho R, 304) 304 Q := by
  have ht2 := hw.2.1
  have hd3 := hw.2.2.1
  refine fg_intro (by decide +kernel) (Nat.le_of_ble_eq_true rfl) (fg_okAs rfl) (Nat.le_refl _) ?_
  refine fg_iload (fg_ft (pc := 0) tb_Mo_teach 0 rfl) rfl ?_
  refine fg_iload (fg_ft (pc := 2) tb_Mo_teach 1 rfl) rfl ?_
  refine fg_icmp_eqW (tgt := 33) (fg_ft (pc := 4) tb_Mo_teach 2 rfl) (by decide) (hperson) (hother) (fun c4 => ?_) (fun c4 => ?_)
  · refine fg_iconst (fg_ft (pc := 33) tb_Mo_teach 17 rfl) ic_m1 ?_
    exact fg_iret (fg_ft (pc := 34) tb_Mo_teach 18 rfl) rfl rfl (fg_q (hQ _ (fg_agR_rf μ)) (by unfold an_teach; rw [fg_g1_cst (by intro T S lv; split <;> first | rfl | rw [if_pos c4])]))
  · refine fg_aloadn (fg_ft (pc := 7) tb_Mo_teach 3 rfl) rfl ?_
    refine fg_iloadn (fg_ft (pc := 8) tb_Mo_teach 4 rfl) rfl ?_
    refine fg_iloadn (fg_ft (pc := 9) tb_Mo_teach 5 rfl) rfl ?_
    refine fg_iloadn (fg_ft (pc := 10) tb_Mo_teach 6 rfl) rfl ?_
    refine fg_iload (fg_ft (pc := 11) tb_Mo_teach 7 rfl) rfl ?_
    refine fg_callV (fg_ft (pc := 13) tb_Mo_teach 8 rfl) cf_Mo_258 (fg_isOf ly_287 rfl (fg_lt ly_287 (by decide))) (as := [.int (nI town), .int (nI day), .int (nI n), .int (nI person)]) (st := []) rfl rfl (Nat.le_of_ble_eq_true rfl) (Nat.le_refl _) (Nat.le_refl _) (ev_Mo_isOne hL hw h17 h19 htown hday hn hperson (fun n4 μ1 ha1 => ?_) (fun S lv y4 y5 μ1 n1 y1 ha1 hC1 hS1 => ?_))
    · refine fg_if_eq (tgt := 33) (fg_ft (pc := 16) tb_Mo_teach 9 rfl) (by decide) (fun _ => ?_) (fun h => absurd h (by decide))
      refine fg_iconst (fg_ft (pc := 33) tb_Mo_teach 17 rfl) ic_m1 ?_
      exact fg_iret (fg_ft (pc := 34) tb_Mo_teach 18 rfl) rfl rfl (fg_q (hQ _ (fg_agR_A ha1)) (by unfold an_teach; rw [fg_g1_none n4] <;> ((repeat (first | rw [if_pos (by assumption)] | rw [if_neg (by assumption)] | rw [if_pos (by omega)] | rw [if_neg (by omega)] | rw [if_pos (by constructor <;> assumption)] | rw [if_neg (by intro hh; exact absurd hh.1 (by assumption))] | rw [if_neg (by intro hh; exact absurd hh.2 (by assumption))])); (try rfl))))
    · have ytc := fg_fnd_t y4
      have hok := hw.2.2.2.1 town ytc
      have hM1 := (hL.2.2.1 town ytc).ag ha1.m
      have hz : fg_zok (A.ts town) S.1 (S.2.1.1, 0, 0, 0) S.2.2 := fg_zok.news (fg_fnd_okW hw y4)
      have hv0 := hM1.1
      have hb0 := hok.1
      have hb1 := hok.2.1
      have hp := hok.p
      have hz9 := hz.1
      have hm2 := hz.2.1 person y5
      have hm0 : S.2.1.1 person < 2 ^ A.ts town 0 := hm2.1
      have hmc : fg_clsd (A.ts town) (S.2.1.1 person) := hm2.2
      have hm10 : S.2.1.1 person < 1024 := by omega
      refine fg_if_eq (tgt := 33) (fg_ft (pc := 16) tb_Mo_teach 9 rfl) (by decide) (fun h => absurd h (by decide)) (fun _ => ?_)
      refine fg_aloadn (fg_ft (pc := 19) tb_Mo_teach 10 rfl) rfl ?_
      refine fg_iconst (fg_ft (pc := 20) tb_Mo_teach 11 rfl) ic_0 ?_
      refine fg_iloadn (fg_ft (pc := 21) tb_Mo_teach 12 rfl) rfl ?_
      refine fg_callS (fg_ft (pc := 22) tb_Mo_teach 13 rfl) cf_Mo_166 (as := [.int (nI 0), .int (nI town)]) (st := [.ref 287]) rfl rfl (Nat.le_of_ble_eq_true rfl) (Nat.le_refl _) (Nat.le_refl _) (ev_Mo_placeOf0 (k := town) ?_)
      refine fg_iload (fg_ft (pc := 25) tb_Mo_teach 14 rfl) rfl ?_
      refine fg_callV (fg_ft (pc := 27) tb_Mo_teach 15 rfl) cf_Mo_230 (fg_isOf ly_287 rfl (fg_lt ly_287 (by decide))) (as := [.int (nI (610 + 152 * town)), .int (nI other)]) (st := []) rfl rfl (Nat.le_of_ble_eq_true rfl) (Nat.le_refl _) (Nat.le_refl _) (ev_Mo_isPerson hM1 hok (k := other) (hother) ?_)
      refine fg_ifB_ne (tgt := 35) (fg_ft (pc := 30) tb_Mo_teach 16 rfl) (by decide) (fun c30 => ?_) (fun c30 => ?_)
      · have ho0 : S.2.1.1 other < 2 ^ A.ts town 0 := (hz.2.1 other c30).1
        refine fg_aloadn (fg_ft (pc := 35) tb_Mo_teach 19 rfl) rfl ?_
        refine fg_iconst (fg_ft (pc := 36) tb_Mo_teach 20 rfl) ic_0 ?_
        refine fg_iloadn (fg_ft (pc := 37) tb_Mo_teach 21 rfl) rfl ?_
        refine fg_callS (fg_ft (pc := 38) tb_Mo_teach 22 rfl) cf_Mo_166 (as := [.int (nI 0), .int (nI town)]) (st := [.ref 287]) rfl rfl (Nat.le_of_ble_eq_true rfl) (Nat.le_refl _) (Nat.le_refl _) (ev_Mo_placeOf0 (k := town) ?_)
        refine fg_aloadn (fg_ft (pc := 41) tb_Mo_teach 23 rfl) rfl ?_
        refine fg_getR (fg_ft (pc := 42) tb_Mo_teach 24 rfl) ff_Mo_23 ly_287 rfl (fg_lt ly_287 (by decide)) (rh_287_12 R) ?_
        refine fg_iload (fg_ft (pc := 45) tb_Mo_teach 25 rfl) rfl ?_
        refine fg_ialdV (v := (nI (S.2.1.1 person))) (fg_ft (pc := 47) tb_Mo_teach 26 rfl) ly_292 (fg_lt ly_292 (by decide)) (by omega) (hS1.2.1 _ (by omega)) ?_
        refine fg_aloadn (fg_ft (pc := 48) tb_Mo_teach 27 rfl) rfl ?_
        refine fg_getR (fg_ft (pc := 49) tb_Mo_teach 28 rfl) ff_Mo_23 ly_287 rfl (fg_lt ly_287 (by decide)) (rh_287_12 R) ?_
        refine fg_iload (fg_ft (pc := 52) tb_Mo_teach 29 rfl) rfl ?_
        refine fg_ialdV (v := (nI (S.2.1.1 other))) (fg_ft (pc := 54) tb_Mo_teach 30 rfl) ly_292 (fg_lt ly_292 (by decide)) (by omega) (hS1.2.1 _ (by omega)) ?_
        refine fg_aloadn (fg_ft (pc := 55) tb_Mo_teach 31 rfl) rfl ?_
        refine fg_getR (fg_ft (pc := 56) tb_Mo_teach 32 rfl) ff_Mo_23 ly_287 rfl (fg_lt ly_287 (by decide)) (rh_287_12 R) ?_
        refine fg_iload (fg_ft (pc := 59) tb_Mo_teach 33 rfl) rfl ?_
        refine fg_ialdV (v := (nI (S.2.1.1 person))) (fg_ft (pc := 61) tb_Mo_teach 34 rfl) ly_292 (fg_lt ly_292 (by decide)) (by omega) (hS1.2.1 _ (by omega)) ?_
        refine fg_callV (fg_ft (pc := 62) tb_Mo_teach 35 rfl) cf_Mo_324 (fg_isOf ly_287 rfl (fg_lt ly_287 (by decide))) (as := [.int (nI (610 + 152 * town)), .int (nI (S.2.1.1 person)), .int (nI (S.2.1.1 other)), .int (nI (S.2.1.1 person))]) (st := []) rfl rfl (Nat.le_of_ble_eq_true rfl) (Nat.le_refl _) (Nat.le_refl _) (ev_Mo_fewest hM1 hok hC1 (facts := (S.2.1.1 person)) (beside := (S.2.1.1 other)) (need := (S.2.1.1 person)) (by assumption) (by assumption) (by omega) ?_)
        exact fg_iret (fg_ft (pc := 65) tb_Mo_teach 36 rfl) rfl rfl (fg_q (hQ _ (fg_agR_A ha1)) (by unfold an_teach; rw [fg_g1_some y4 y5] <;> ((repeat (first | rw [if_pos (by assumption)] | rw [if_neg (by assumption)] | rw [if_pos (by omega)] | rw [if_neg (by omega)] | rw [if_pos (by constructor <;> assumption)] | rw [if_neg (by intro hh; exact absurd hh.1 (by assumption))] | rw [if_neg (by intro hh; exact absurd hh.2 (by assumption))])); (try rfl))))
      · refine fg_iconst (fg_ft (pc := 33) tb_Mo_teach 17 rfl) ic_m1 ?_
        exact fg_iret (fg_ft (pc := 34) tb_Mo_teach 18 rfl) rfl rfl (fg_q (hQ _ (fg_agR_A ha1)) (by unfold an_teach; rw [fg_g1_some y4 y5] <;> ((repeat (first | rw [if_pos (by assumption)] | rw [if_neg (by assumption)] | rw [if_pos (by omega)] | rw [if_neg (by omega)] | rw [if_pos (by constructor <;> assumption)] | rw [if_neg (by intro hh; exact absurd hh.1 (by assumption))] | rw [if_neg (by intro hh; exact absurd hh.2 (by assumption))])); (try rfl))))
