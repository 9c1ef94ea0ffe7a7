/-- the least other one who has a fact -/
noncomputable def fg_l1 (M : Nat → Nat) (p f n : Nat) : Nat := (fg_fst (fun q => q ≠ p ∧ (M q).testBit f = true) n).getD 0
noncomputable def fg_lb (M : Nat → Nat) (p s n2 : Nat) : Nat → Nat
  | 0 => 0
  | f + 1 => fg_lb M p s n2 f ||| (if s.testBit f = true then 2 ^ fg_l1 M p f n2 else 0)
theorem fg_fst_spec {X : Nat → Prop} : ∀ n a, fg_fst X n = some a → a < n ∧ X a ∧ ∀ b, b < a → ¬ X b := by
  intro n
  induction n with
  | zero => intro a h; exact absurd h (by unfold fg_fst; exact fun hh => by cases hh)
  | succ n ih =>
    intro a h
    cases hn : fg_fst X n with
    | some b =>
      have e : fg_fst X (n + 1) = some b := by
        show (match fg_fst X n with | some a => some a | none => fg_ifP (X n) (some n) none) = _
        rw [hn]
      rw [e] at h
      cases h
      have := ih _ hn
      exact ⟨by omega, this.2⟩
    | none =>
      have e : fg_fst X (n + 1) = fg_ifP (X n) (some n) none := by
        show (match fg_fst X n with | some a => some a | none => fg_ifP (X n) (some n) none) = _
        rw [hn]
      rw [e] at h
      rcases Classical.em (X n) with g | g
      · rw [fg_ifT g] at h
        cases h
        refine ⟨by omega, g, fun b hb hx => ?_⟩
        have key : ∀ m, b < m → fg_fst X m ≠ none := by
          intro m
          induction m with
          | zero => intro hb; exact absurd hb (Nat.not_lt_zero _)
          | succ m im =>
            intro hb hh
            have hh : (match fg_fst X m with | some a => some a | none => fg_ifP (X m) (some m) none) = none := hh
            cases hm : fg_fst X m with
            | some c => rw [hm] at hh; cases hh
            | none =>
              rw [hm] at hh
              rcases Nat.lt_or_ge b m with z | z
              · exact im z hm
              · rw [show m = b by omega] at hh
                have hh : fg_ifP (X b) (some b) none = none := hh
                rw [fg_ifT hx] at hh; cases hh
        exact key _ hb hn
      · rw [fg_ifF g] at h; cases h
theorem fg_lb_bit {M : Nat → Nat} {p s n2 : Nat} : ∀ n q, (fg_lb M p s n2 n).testBit q = true ↔ ∃ f, f < n ∧ s.testBit f = true ∧ fg_l1 M p f n2 = q := by
  intro n
  induction n with
  | zero => intro q; exact ⟨fun h => absurd h fg_z0, fun ⟨f, h, _⟩ => absurd h (Nat.not_lt_zero _)⟩
  | succ n ih =>
    intro q
    show (fg_lb M p s n2 n ||| (if s.testBit n = true then 2 ^ fg_l1 M p n n2 else 0)).testBit q = true ↔ _
    rw [Nat.testBit_or, Bool.or_eq_true, ih]
    constructor
    · rintro (⟨f, h1, h2, h3⟩ | h)
      · exact ⟨f, by omega, h2, h3⟩
      · by_cases b : s.testBit n = true
        · rw [if_pos b] at h
          refine ⟨n, by omega, b, ?_⟩
          rcases Nat.decEq (fg_l1 M p n n2) q with e | e
          · rw [Nat.testBit_two_pow_of_ne e] at h; cases h
          · exact e
        · rw [if_neg b] at h; exact absurd h fg_z0
    · rintro ⟨f, h1, h2, h3⟩
      rcases Nat.lt_or_ge f n with g | g
      · exact Or.inl ⟨f, g, h2, h3⟩
      · right
        rw [show n = f by omega, if_pos h2, h3]
        exact Nat.testBit_two_pow_self
/-- what the class does: as it goes along the people -/
theorem fg_lwL_bit {M : Nat → Nat} {p s : Nat} : ∀ n, (∀ q, (fg_lwL M p s n).1.testBit q = true ↔ q < n ∧ q ≠ p ∧ ∃ f, s.testBit f = true ∧ (M q).testBit f = true ∧ ∀ r, r < q → r ≠ p → ¬ (M r).testBit f = true) ∧ ∀ f, (fg_lwL M p s n).2.testBit f = true ↔ s.testBit f = true ∧ ∀ r, r < n → r ≠ p → ¬ (M r).testBit f = true := by
  intro n
  induction n with
  | zero => exact ⟨fun q => ⟨fun h => absurd h fg_z0, fun h => absurd h.1 (Nat.not_lt_zero _)⟩, fun f => ⟨fun h => ⟨h, fun r hr => absurd hr (Nat.not_lt_zero _)⟩, fun h => h.1⟩⟩
  | succ n ih =>
    obtain ⟨i1, i2⟩ := ih
    have hand : (fg_lwL M p s n).2 &&& M n ≠ 0 ↔ ∃ f, (fg_lwL M p s n).2.testBit f = true ∧ (M n).testBit f = true := by
      constructor
      · intro h
        obtain ⟨f, hf⟩ := fg_bit_ex h
        rw [Nat.testBit_and, Bool.and_eq_true] at hf
        exact ⟨f, hf⟩
      · rintro ⟨f, h1, h2⟩ h
        have := congrArg (fun z => Nat.testBit z f) h
        simp only [Nat.testBit_and, h1, h2, Nat.zero_testBit] at this
        cases this
    by_cases c : n ≠ p ∧ (fg_lwL M p s n).2 &&& M n ≠ 0
    · have e : fg_lwL M p s (n + 1) = ((fg_lwL M p s n).1 ||| 2 ^ n, fg_df (fg_lwL M p s n).2 (M n)) := by
        show (if n ≠ p ∧ (fg_lwL M p s n).2 &&& M n ≠ 0 then _ else _) = _
        rw [if_pos c]
      rw [e]
      refine ⟨fun q => ?_, fun f => ?_⟩
      · show ((fg_lwL M p s n).1 ||| 2 ^ n).testBit q = true ↔ _
        rw [Nat.testBit_or, Bool.or_eq_true, i1]
        constructor
        · rintro (⟨h1, h2⟩ | h)
          · exact ⟨by omega, h2⟩
          · have : n = q := by
              rcases Nat.decEq n q with z | z
              · rw [Nat.testBit_two_pow_of_ne z] at h; cases h
              · exact z
            subst this
            obtain ⟨f, g1, g2⟩ := hand.mp c.2
            exact ⟨by omega, c.1, f, ((i2 f).mp g1).1, g2, ((i2 f).mp g1).2⟩
        · rintro ⟨h1, h2, h3⟩
          rcases Nat.lt_or_ge q n with z | z
          · exact Or.inl ⟨z, h2, h3⟩
          · right; rw [show q = n by omega]; exact Nat.testBit_two_pow_self
      · show (fg_df (fg_lwL M p s n).2 (M n)).testBit f = true ↔ _
        rw [fg_df_bit, Bool.and_eq_true, i2]
        constructor
        · rintro ⟨⟨h1, h2⟩, h3⟩
          refine ⟨h1, fun r hr hp => ?_⟩
          rcases Nat.lt_or_ge r n with z | z
          · exact h2 r z hp
          · rw [show r = n by omega]; intro hh; rw [hh] at h3; cases h3
        · rintro ⟨h1, h2⟩
          refine ⟨⟨h1, fun r hr hp => h2 r (by omega) hp⟩, ?_⟩
          have := h2 n (by omega) c.1
          cases hb : (M n).testBit f
          · rfl
          · exact absurd hb this
    · have e : fg_lwL M p s (n + 1) = fg_lwL M p s n := by
        show (if n ≠ p ∧ (fg_lwL M p s n).2 &&& M n ≠ 0 then _ else _) = _
        rw [if_neg c]
      rw [e]
      have hno : n ≠ p → ∀ f, (fg_lwL M p s n).2.testBit f = true → ¬ (M n).testBit f = true := fun h1 f h2 h3 => c ⟨h1, hand.mpr ⟨f, h2, h3⟩⟩
      refine ⟨fun q => ?_, fun f => ?_⟩
      · rw [i1]
        constructor
        · rintro ⟨h1, h2⟩; exact ⟨by omega, h2⟩
        · rintro ⟨h1, h2, f, h3, h4, h5⟩
          refine ⟨?_, h2, f, h3, h4, h5⟩
          rcases Nat.lt_or_ge q n with z | z
          · exact z
          · rw [show q = n by omega] at h2 h4 h5
            exact absurd h4 (hno h2 f ((i2 f).mpr ⟨h3, h5⟩))
      · rw [i2]
        constructor
        · rintro ⟨h1, h2⟩
          refine ⟨h1, fun r hr hp => ?_⟩
          rcases Nat.lt_or_ge r n with z | z
          · exact h2 r z hp
          · have hrn : r = n := by omega
            subst hrn
            exact hno hp f ((i2 f).mpr ⟨h1, h2⟩)
        · rintro ⟨h1, h2⟩; exact ⟨h1, fun r hr hp => h2 r (by omega) hp⟩
theorem fg_l1_spec {M : Nat → Nat} {p f n q : Nat} (h : q < n ∧ q ≠ p ∧ (M q).testBit f = true ∧ ∀ r, r < q → r ≠ p → ¬ (M r).testBit f = true) : fg_l1 M p f n = q := by
  unfold fg_l1
  rw [fg_fst_some (a := q) ⟨h.2.1, h.2.2.1⟩ n (fun b hb hh => h.2.2.2 b hb hh.1 hh.2) h.1]
  rfl
theorem fg_l1_ex {M : Nat → Nat} {p f : Nat} : ∀ (m n : Nat), (∃ q, q < n ∧ q ≤ m ∧ q ≠ p ∧ (M q).testBit f = true) → ∃ q, q < n ∧ q ≠ p ∧ (M q).testBit f = true ∧ ∀ r, r < q → r ≠ p → ¬ (M r).testBit f = true := by
  intro m
  induction m with
  | zero => rintro n ⟨q, h1, h2, h3, h4⟩; exact ⟨q, h1, h3, h4, fun r hr => by omega⟩
  | succ m ih =>
    rintro n ⟨q, h1, h2, h3, h4⟩
    rcases Classical.em (∃ q, q < n ∧ q ≤ m ∧ q ≠ p ∧ (M q).testBit f = true) with g | g
    · exact ih n g
    · exact ⟨q, h1, h3, h4, fun r hr hp hb => g ⟨r, by omega, by omega, hp, hb⟩⟩
theorem fg_lb_eq {M : Nat → Nat} {p s n2 n : Nat} (hs : s < 2 ^ n) (hex : ∀ f, s.testBit f = true → ∃ q, q < n2 ∧ q ≠ p ∧ (M q).testBit f = true) : fg_lb M p s n2 n = (fg_lwL M p s n2).1 := by
  apply fg_le_as
  · intro q hq
    obtain ⟨f, h1, h2, h3⟩ := (fg_lb_bit n q).mp hq
    obtain ⟨q0, a1, a2, a3⟩ := hex f h2
    obtain ⟨q1, b1, b2, b3, b4⟩ := fg_l1_ex q0 n2 ⟨q0, a1, Nat.le_refl _, a2, a3⟩
    rw [fg_l1_spec ⟨b1, b2, b3, b4⟩] at h3
    subst h3
    exact ((fg_lwL_bit n2).1 q1).mpr ⟨b1, b2, f, h2, b3, b4⟩
  · intro q hq
    obtain ⟨h1, h2, f, h3, h4, h5⟩ := ((fg_lwL_bit n2).1 q).mp hq
    exact (fg_lb_bit n q).mpr ⟨f, fg_bit_lt hs h3, h3, fg_l1_spec ⟨h1, h2, h4, h5⟩⟩
theorem fg_orL_bit {M : Nat → Nat} {p f : Nat} (hp : p < 2 ^ 31) : ∀ n, n < 2 ^ 31 → (fg_orL M (nI p) n).testBit f = true → ∃ q, q < n ∧ q ≠ p ∧ (M q).testBit f = true := by
  intro n
  induction n with
  | zero => intro _ h; exact absurd h fg_z0
  | succ n ih =>
    intro hn h
    have h : (fg_orL M (nI p) n ||| (if nI n = nI p then 0 else M n)).testBit f = true := h
    rw [Nat.testBit_or, Bool.or_eq_true] at h
    rcases h with h | h
    · obtain ⟨q, a1, a2⟩ := ih (by omega) h
      exact ⟨q, by omega, a2⟩
    · by_cases e : nI n = nI p
      · rw [if_pos e] at h; exact absurd h fg_z0
      · rw [if_neg e] at h
        exact ⟨n, by omega, fun hh => e (by rw [hh]), h⟩
theorem ev_Mo_ask0 {E : fg_E} {d : Nat} {μ : Nat → Nat → Int32} {R : fg_T4} {Q : Option Value → fg_M → Prop} {A : fg_Tl} (hL : fg_ML (μ 288) A) (hw : fg_wA A) (h17 : μ 287 17 = -1) (h19 : μ 287 19 = nI 0) {town day n person fact : Nat} (htown : town < 2 ^ 32) (hday : day < 2 ^ 32) (hn : n < 2 ^ 32) (hperson : person < 2 ^ 32) (hfact : fact < 2 ^ 32) (hQ : ∀ μ' : Nat → Nat → Int32, fg_agR μ μ' → Q (some (.int (an_ask A town day n person fact 0))) (μ', fg_rho R, 304)) : fg_Ev E yy_Mo_ask (d + 12) [.ref 287, .int (nI town), .int (nI day), .int (nI n), .int (nI person), .int (nI fact), .int (nI 0)] (μ, fg_rho R, 304) 304 Q := by
  have ht2 := hw.2.1
  have hd3 := hw.2.2.1
  refine fg_intro (by decide +kernel) (Nat.le_of_ble_eq_true rfl) (fg_okAs rfl) (Nat.le_refl _) ?_
  refine fg_aloadn (fg_ft (pc := 0) tb_Mo_ask 0 rfl) rfl ?_
  refine fg_iloadn (fg_ft (pc := 1) tb_Mo_ask 1 rfl) rfl ?_
  refine fg_iloadn (fg_ft (pc := 2) tb_Mo_ask 2 rfl) rfl ?_
  refine fg_iloadn (fg_ft (pc := 3) tb_Mo_ask 3 rfl) rfl ?_
  refine fg_iload (fg_ft (pc := 4) tb_Mo_ask 4 rfl) rfl ?_
  refine fg_iload (fg_ft (pc := 6) tb_Mo_ask 5 rfl) rfl ?_
  refine fg_callV (fg_ft (pc := 8) tb_Mo_ask 6 rfl) cf_Mo_297 (fg_isOf ly_287 rfl (fg_lt ly_287 (by decide))) (as := [.int (nI town), .int (nI day), .int (nI n), .int (nI person), .int (nI fact)]) (st := []) rfl rfl (Nat.le_of_ble_eq_true rfl) (Nat.le_refl _) (Nat.le_refl _) (ev_Mo_lacks hL hw h17 h19 htown hday hn hperson hfact (fun n4 μ1 ha1 => ?_) (fun S lv y4 y5 hfT y6 μ1 n1 y1 ha1 hC1 hS1 => ?_))
  · refine fg_if_ne (tgt := 16) (fg_ft (pc := 11) tb_Mo_ask 7 rfl) (by decide) (fun h => absurd h (by decide)) (fun _ => ?_)
    refine fg_iconst (fg_ft (pc := 14) tb_Mo_ask 8 rfl) ic_m1 ?_
    exact fg_iret (fg_ft (pc := 15) tb_Mo_ask 9 rfl) rfl rfl (fg_q (hQ _ (fg_agR_A ha1)) (by unfold an_ask; rcases n4 with n4 | ⟨S, lv, y4, y5, y6⟩; rw [fg_g1_none n4]; rw [fg_g1_some y4 y5] <;> (rcases y6 with y6 | y6; (rw [if_neg y6]); ((repeat split) <;> first | rfl | rw [if_pos y6]))))
  · have ytc := fg_fnd_t y4
    have hok := hw.2.2.2.1 town ytc
    have hM1 := (hL.2.2.1 town ytc).ag ha1.m
    have hz : fg_zok (A.ts town) S.1 (S.2.1.1, 0, 0, 0) S.2.2 := fg_zok.news (fg_fnd_okW hw y4)
    have hv0 := hM1.1
    have hb0 := hok.1
    have hb1 := hok.2.1
    have hp := hok.p
    have hz9 := hz.1
    have hm2 := hz.2.1 person y5
    have hm0 : S.2.1.1 person < 2 ^ A.ts town 0 := hm2.1
    have hmc : fg_clsd (A.ts town) (S.2.1.1 person) := hm2.2
    have hm10 : S.2.1.1 person < 1024 := by omega
    refine fg_if_ne (tgt := 16) (fg_ft (pc := 11) tb_Mo_ask 7 rfl) (by decide) (fun _ => ?_) (fun h => absurd h (by decide))
    refine fg_iconst (fg_ft (pc := 16) tb_Mo_ask 10 rfl) ic_0 ?_
    refine fg_iloadn (fg_ft (pc := 17) tb_Mo_ask 11 rfl) rfl ?_
    refine fg_callS (fg_ft (pc := 18) tb_Mo_ask 12 rfl) cf_Mo_166 (as := [.int (nI 0), .int (nI town)]) (st := []) rfl rfl (Nat.le_of_ble_eq_true rfl) (Nat.le_refl _) (Nat.le_refl _) (ev_Mo_placeOf0 (k := town) ?_)
    refine fg_istore (fg_ft (pc := 21) tb_Mo_ask 13 rfl) (Nat.le_of_ble_eq_true rfl) ?_
    refine fg_iconst (fg_ft (pc := 23) tb_Mo_ask 14 rfl) ic_0 ?_
    refine fg_istore (fg_ft (pc := 24) tb_Mo_ask 15 rfl) (Nat.le_of_ble_eq_true rfl) ?_
    refine fg_iconst (fg_ft (pc := 26) tb_Mo_ask 16 rfl) ic_0 ?_
    refine fg_istore (fg_ft (pc := 27) tb_Mo_ask 17 rfl) (Nat.le_of_ble_eq_true rfl) ?_
    have loop : ∀ (m k a : Nat) (v10 v11 v12 : Value), A.ts town 2 - k < m → k ≤ A.ts town 2 → a = fg_orL S.2.1.1 (nI person) k → fg_wp E yy_Mo_ask (d + 12) 304 304 Q 29 [.ref 287, .int (nI town), .int (nI day), .int (nI n), .int (nI person), .int (nI fact), .int (nI 0), .int (nI (610 + 152 * town)), .int (nI a), .int (nI k), v10, v11, v12] [] (μ1, fg_rho R, 304) := by
      intro m
      induction m with
      | zero => intro k a v10 v11 v12 h; exact absurd h (Nat.not_lt_zero _)
      | succ m ih =>
        intro k a v10 v11 v12 hm hk ha
        refine fg_iload (fg_ft (pc := 29) tb_Mo_ask 18 rfl) rfl ?_
        refine fg_aloadn (fg_ft (pc := 31) tb_Mo_ask 19 rfl) rfl ?_
        refine fg_getR (fg_ft (pc := 32) tb_Mo_ask 20 rfl) ff_Mo_7 ly_287 rfl (fg_lt ly_287 (by decide)) (rh_287_0 R) ?_
        refine fg_iload (fg_ft (pc := 35) tb_Mo_ask 21 rfl) rfl ?_
        refine fg_iconst (fg_ft (pc := 37) tb_Mo_ask 22 rfl) ic_2 ?_
        refine fg_iaddN (fg_ft (pc := 38) tb_Mo_ask 23 rfl) ?_
        refine fg_ialdV (v := (nI ((A.ts town) 2))) (fg_ft (pc := 39) tb_Mo_ask 24 rfl) ly_288 (fg_lt ly_288 (by decide)) (by omega) (fg_MTat hM1 (i := (610 + 152 * town) + 2) (k := 2) (by omega) (by omega)) ?_
        refine fg_icmp_geN (tgt := 72) (fg_ft (pc := 40) tb_Mo_ask 25 rfl) (by decide) (by omega) (by omega) (fun c40 => ?_) (fun c40 => ?_)
        · have ea : a = fg_orL S.2.1.1 (nI person) (A.ts town 2) := by rw [ha, show k = A.ts town 2 by omega]
          rw [ea]
          have hth : (fg_df (fg_orL S.2.1.1 (nI person) (A.ts town 2)) (S.2.1.1 person)) < 2 ^ A.ts town 0 := fg_df_lt (fg_orL_lt (fun p hp => (hz.2.1 p hp).1))
          refine fg_iload (fg_ft (pc := 72) tb_Mo_ask 40 rfl) rfl ?_
          refine fg_aloadn (fg_ft (pc := 74) tb_Mo_ask 41 rfl) rfl ?_
          refine fg_getR (fg_ft (pc := 75) tb_Mo_ask 42 rfl) ff_Mo_23 ly_287 rfl (fg_lt ly_287 (by decide)) (rh_287_12 R) ?_
          refine fg_iload (fg_ft (pc := 78) tb_Mo_ask 43 rfl) rfl ?_
          refine fg_ialdV (v := (nI (S.2.1.1 person))) (fg_ft (pc := 80) tb_Mo_ask 44 rfl) ly_292 (fg_lt ly_292 (by decide)) (by omega) (hS1.2.1 _ (by omega)) ?_
          refine fg_iconst (fg_ft (pc := 81) tb_Mo_ask 45 rfl) ic_m1 ?_
          refine fg_ixor (fg_ft (pc := 82) tb_Mo_ask 46 rfl) ?_
          refine fg_iandD (fg_ft (pc := 83) tb_Mo_ask 47 rfl) ?_
          refine fg_istore (fg_ft (pc := 84) tb_Mo_ask 48 rfl) (Nat.le_of_ble_eq_true rfl) ?_
          refine fg_iconst (fg_ft (pc := 86) tb_Mo_ask 49 rfl) ic_m1 ?_
          refine fg_istore (fg_ft (pc := 87) tb_Mo_ask 50 rfl) (Nat.le_of_ble_eq_true rfl) ?_
          refine fg_iconst (fg_ft (pc := 89) tb_Mo_ask 51 rfl) ic_1 ?_
          refine fg_istore (fg_ft (pc := 90) tb_Mo_ask 52 rfl) (Nat.le_of_ble_eq_true rfl) ?_
          have loop : ∀ (m s : Nat) (r : Option Nat), (((fg_df (fg_orL S.2.1.1 (nI person) (A.ts town 2)) (S.2.1.1 person)) + 1)) - s < m → s ≤ ((fg_df (fg_orL S.2.1.1 (nI person) (A.ts town 2)) (S.2.1.1 person)) + 1) → fg_mn (fun s => fg_le s (fg_df (fg_orL S.2.1.1 (nI person) (A.ts town 2)) (S.2.1.1 person)) ∧ fg_few (A.ts town) (S.2.1.1 person) (2 ^ fact) 0 s) s r → fg_wp E yy_Mo_ask (d + 12) 304 304 Q 92 [.ref 287, .int (nI town), .int (nI day), .int (nI n), .int (nI person), .int (nI fact), .int (nI 0), .int (nI (610 + 152 * town)), .int (nI (fg_df (fg_orL S.2.1.1 (nI person) (A.ts town 2)) (S.2.1.1 person))), .int (fg_o r), .int (nI s), v11, v12] [] (μ1, fg_rho R, 304) := by
            intro m
            induction m with
            | zero => intro s r h; exact absurd h (Nat.not_lt_zero _)
            | succ m ih =>
              intro s r hm hs hI
              cases r with
              | none =>
                show fg_wp E yy_Mo_ask (d + 12) 304 304 Q 92 [.ref 287, .int (nI town), .int (nI day), .int (nI n), .int (nI person), .int (nI fact), .int (nI 0), .int (nI (610 + 152 * town)), .int (nI (fg_df (fg_orL S.2.1.1 (nI person) (A.ts town 2)) (S.2.1.1 person))), .int (-1), .int (nI s), v11, v12] [] (μ1, fg_rho R, 304)
                refine fg_iload (fg_ft (pc := 92) tb_Mo_ask 53 rfl) rfl ?_
                refine fg_iload (fg_ft (pc := 94) tb_Mo_ask 54 rfl) rfl ?_
                refine fg_icmp_gtN (tgt := 165) (fg_ft (pc := 96) tb_Mo_ask 55 rfl) (by decide) (by omega) (by omega) (fun c96 => ?_) (fun c96 => ?_)
                · refine fg_iload (fg_ft (pc := 165) tb_Mo_ask 89 rfl) rfl ?_
                  refine fg_if_lt (tgt := 175) (fg_ft (pc := 167) tb_Mo_ask 90 rfl) (by decide) (fun c167 => ?_) (fun c167 => (absurd (by decide) c167))
                  refine fg_iload (fg_ft (pc := 175) tb_Mo_ask 93 rfl) rfl ?_
                  exact fg_iret (fg_ft (pc := 177) tb_Mo_ask 94 rfl) rfl rfl (fg_q (hQ _ (fg_agR_A ha1)) (by unfold an_ask; rw [fg_g1_some y4 y5] <;> (rw [if_pos hfT, if_neg y6, fg_mn_end hI (fun q hq => by have := fg_le_le hq.1; omega)]; rfl)))
                · refine fg_iload (fg_ft (pc := 99) tb_Mo_ask 56 rfl) rfl ?_
                  refine fg_iload (fg_ft (pc := 101) tb_Mo_ask 57 rfl) rfl ?_
                  refine fg_iconst (fg_ft (pc := 103) tb_Mo_ask 58 rfl) ic_m1 ?_
                  refine fg_ixor (fg_ft (pc := 104) tb_Mo_ask 59 rfl) ?_
                  refine fg_iandD (fg_ft (pc := 105) tb_Mo_ask 60 rfl) ?_
                  refine fg_if_neN (tgt := 159) (fg_ft (pc := 106) tb_Mo_ask 61 rfl) (by decide) (fg_df_le31 (by omega)) (fun c106 => ?_) (fun c106 => ?_)
                  · refine fg_iincN (fg_ft (pc := 159) tb_Mo_ask 87 rfl) rfl ic_1 rfl ?_
                    refine fg_goto (tgt := 92) (fg_ft (pc := 162) tb_Mo_ask 88 rfl) (by decide) ?_
                    exact ih (s + 1) none (by omega) (by omega) (fg_mn_0 hI (fun hh => by first | exact c106 (fg_df0.mpr hh.1) | (have z9 := fg_few_1.mp hh.2; rw [c152] at z9; exact absurd z9 (by decide))))
                  · refine fg_iload (fg_ft (pc := 109) tb_Mo_ask 62 rfl) rfl ?_
                    refine fg_if_lt (tgt := 130) (fg_ft (pc := 111) tb_Mo_ask 63 rfl) (by decide) (fun c111 => ?_) (fun c111 => (absurd (by decide) c111))
                    have hsm : (S.2.1.1 person) ||| s < 2 ^ A.ts town 0 := fg_or_lt hm0 (fg_le_lt (fg_df0.mp c106) hth)
                    have hcs := fg_clo_lt hok hsm
                    refine fg_aloadn (fg_ft (pc := 130) tb_Mo_ask 70 rfl) rfl ?_
                    refine fg_iload (fg_ft (pc := 131) tb_Mo_ask 71 rfl) rfl ?_
                    refine fg_aloadn (fg_ft (pc := 133) tb_Mo_ask 72 rfl) rfl ?_
                    refine fg_getR (fg_ft (pc := 134) tb_Mo_ask 73 rfl) ff_Mo_23 ly_287 rfl (fg_lt ly_287 (by decide)) (rh_287_12 R) ?_
                    refine fg_iload (fg_ft (pc := 137) tb_Mo_ask 74 rfl) rfl ?_
                    refine fg_ialdV (v := (nI (S.2.1.1 person))) (fg_ft (pc := 139) tb_Mo_ask 75 rfl) ly_292 (fg_lt ly_292 (by decide)) (by omega) (hS1.2.1 _ (by omega)) ?_
                    refine fg_iload (fg_ft (pc := 140) tb_Mo_ask 76 rfl) rfl ?_
                    refine fg_iorN (fg_ft (pc := 142) tb_Mo_ask 77 rfl) ?_
                    refine fg_callV (fg_ft (pc := 143) tb_Mo_ask 78 rfl) cf_Mo_206 (fg_isOf ly_287 rfl (fg_lt ly_287 (by decide))) (as := [.int (nI (610 + 152 * town)), .int (nI ((S.2.1.1 person) ||| s))]) (st := []) rfl rfl (Nat.le_of_ble_eq_true rfl) (Nat.le_refl _) (Nat.le_refl _) (ev_Mo_follow hM1 hok hC1 (s := ((S.2.1.1 person) ||| s)) (hsm) ?_)
                    refine fg_iload (fg_ft (pc := 146) tb_Mo_ask 79 rfl) rfl ?_
                    refine fg_ishrN (fg_ft (pc := 148) tb_Mo_ask 80 rfl) (by omega) (by omega) ?_
                    refine fg_iconst (fg_ft (pc := 149) tb_Mo_ask 81 rfl) ic_1 ?_
                    refine fg_iandN (fg_ft (pc := 150) tb_Mo_ask 82 rfl) ?_
                    refine fg_iconst (fg_ft (pc := 151) tb_Mo_ask 83 rfl) ic_1 ?_
                    refine fg_icmpbit_ne (tgt := 159) (fg_ft (pc := 152) tb_Mo_ask 84 rfl) (by decide) (fun c152 => ?_) (fun c152 => ?_)
                    · refine fg_iincN (fg_ft (pc := 159) tb_Mo_ask 87 rfl) rfl ic_1 rfl ?_
                      refine fg_goto (tgt := 92) (fg_ft (pc := 162) tb_Mo_ask 88 rfl) (by decide) ?_
                      exact ih (s + 1) none (by omega) (by omega) (fg_mn_0 hI (fun hh => by first | exact c106 (fg_df0.mpr hh.1) | (have z9 := fg_few_1.mp hh.2; rw [c152] at z9; exact absurd z9 (by decide))))
                    · refine fg_iload (fg_ft (pc := 155) tb_Mo_ask 85 rfl) rfl ?_
                      refine fg_istore (fg_ft (pc := 157) tb_Mo_ask 86 rfl) (Nat.le_of_ble_eq_true rfl) ?_
                      refine fg_iincN (fg_ft (pc := 159) tb_Mo_ask 87 rfl) rfl ic_1 rfl ?_
                      refine fg_goto (tgt := 92) (fg_ft (pc := 162) tb_Mo_ask 88 rfl) (by decide) ?_
                      exact ih (s + 1) (some s) (by omega) (by omega) (fg_mn_1 hI ⟨fg_df0.mp c106, fg_few_1.mpr c152⟩)
              | some p =>
                show fg_wp E yy_Mo_ask (d + 12) 304 304 Q 92 [.ref 287, .int (nI town), .int (nI day), .int (nI n), .int (nI person), .int (nI fact), .int (nI 0), .int (nI (610 + 152 * town)), .int (nI (fg_df (fg_orL S.2.1.1 (nI person) (A.ts town 2)) (S.2.1.1 person))), .int (nI p), .int (nI s), v11, v12] [] (μ1, fg_rho R, 304)
                have hps := hI.1
                refine fg_iload (fg_ft (pc := 92) tb_Mo_ask 53 rfl) rfl ?_
                refine fg_iload (fg_ft (pc := 94) tb_Mo_ask 54 rfl) rfl ?_
                refine fg_icmp_gtN (tgt := 165) (fg_ft (pc := 96) tb_Mo_ask 55 rfl) (by decide) (by omega) (by omega) (fun c96 => ?_) (fun c96 => ?_)
                · refine fg_iload (fg_ft (pc := 165) tb_Mo_ask 89 rfl) rfl ?_
                  refine fg_if_ltN (tgt := 175) (fg_ft (pc := 167) tb_Mo_ask 90 rfl) (by decide) (by omega) ?_
                  refine fg_iload (fg_ft (pc := 170) tb_Mo_ask 91 rfl) rfl ?_
                  refine fg_if_ne (tgt := 178) (fg_ft (pc := 172) tb_Mo_ask 92 rfl) (by decide) (fun h => absurd h (by decide)) (fun _ => ?_)
                  refine fg_iload (fg_ft (pc := 175) tb_Mo_ask 93 rfl) rfl ?_
                  exact fg_iret (fg_ft (pc := 177) tb_Mo_ask 94 rfl) rfl rfl (fg_q (hQ _ (fg_agR_A ha1)) (by unfold an_ask; rw [fg_g1_some y4 y5] <;> (rw [if_pos hfT, if_neg y6, fg_mn_end hI (fun q hq => by have := fg_le_le hq.1; omega)]; rfl)))
                · refine fg_iload (fg_ft (pc := 99) tb_Mo_ask 56 rfl) rfl ?_
                  refine fg_iload (fg_ft (pc := 101) tb_Mo_ask 57 rfl) rfl ?_
                  refine fg_iconst (fg_ft (pc := 103) tb_Mo_ask 58 rfl) ic_m1 ?_
                  refine fg_ixor (fg_ft (pc := 104) tb_Mo_ask 59 rfl) ?_
                  refine fg_iandD (fg_ft (pc := 105) tb_Mo_ask 60 rfl) ?_
                  refine fg_if_neN (tgt := 159) (fg_ft (pc := 106) tb_Mo_ask 61 rfl) (by decide) (fg_df_le31 (by omega)) (fun c106 => ?_) (fun c106 => ?_)
                  · refine fg_iincN (fg_ft (pc := 159) tb_Mo_ask 87 rfl) rfl ic_1 rfl ?_
                    refine fg_goto (tgt := 92) (fg_ft (pc := 162) tb_Mo_ask 88 rfl) (by decide) ?_
                    exact ih (s + 1) (some p) (by omega) (by omega) (by first | exact fg_mn_ge hI c124 | exact fg_mn_0 hI (fun hh => by first | exact c106 (fg_df0.mpr hh.1) | (have z9 := fg_few_1.mp hh.2; rw [c152] at z9; exact absurd z9 (by decide))))
                  · refine fg_iload (fg_ft (pc := 109) tb_Mo_ask 62 rfl) rfl ?_
                    refine fg_if_ltN (tgt := 130) (fg_ft (pc := 111) tb_Mo_ask 63 rfl) (by decide) (by omega) ?_
                    refine fg_iload (fg_ft (pc := 114) tb_Mo_ask 64 rfl) rfl ?_
                    refine fg_callS (fg_ft (pc := 116) tb_Mo_ask 65 rfl) cf_Mo_185 (as := [.int (nI s)]) (st := []) rfl rfl (Nat.le_of_ble_eq_true rfl) (Nat.le_refl _) (Nat.le_refl _) (ev_Mo_many (s := s) (by omega) ?_)
                    refine fg_iload (fg_ft (pc := 119) tb_Mo_ask 66 rfl) rfl ?_
                    refine fg_callS (fg_ft (pc := 121) tb_Mo_ask 67 rfl) cf_Mo_185 (as := [.int (nI p)]) (st := [.int (nI (fg_pc s))]) rfl rfl (Nat.le_of_ble_eq_true rfl) (Nat.le_refl _) (Nat.le_refl _) (ev_Mo_many (s := p) (by omega) ?_)
                    refine fg_icmp_ltN (tgt := 130) (fg_ft (pc := 124) tb_Mo_ask 68 rfl) (by decide) (by have := fg_pc_le s; omega) (by have := fg_pc_le p; omega) (fun c124 => ?_) (fun c124 => ?_)
                    · have hsm : (S.2.1.1 person) ||| s < 2 ^ A.ts town 0 := fg_or_lt hm0 (fg_le_lt (fg_df0.mp c106) hth)
                      have hcs := fg_clo_lt hok hsm
                      refine fg_aloadn (fg_ft (pc := 130) tb_Mo_ask 70 rfl) rfl ?_
                      refine fg_iload (fg_ft (pc := 131) tb_Mo_ask 71 rfl) rfl ?_
                      refine fg_aloadn (fg_ft (pc := 133) tb_Mo_ask 72 rfl) rfl ?_
                      refine fg_getR (fg_ft (pc := 134) tb_Mo_ask 73 rfl) ff_Mo_23 ly_287 rfl (fg_lt ly_287 (by decide)) (rh_287_12 R) ?_
                      refine fg_iload (fg_ft (pc := 137) tb_Mo_ask 74 rfl) rfl ?_
                      refine fg_ialdV (v := (nI (S.2.1.1 person))) (fg_ft (pc := 139) tb_Mo_ask 75 rfl) ly_292 (fg_lt ly_292 (by decide)) (by omega) (hS1.2.1 _ (by omega)) ?_
                      refine fg_iload (fg_ft (pc := 140) tb_Mo_ask 76 rfl) rfl ?_
                      refine fg_iorN (fg_ft (pc := 142) tb_Mo_ask 77 rfl) ?_
                      refine fg_callV (fg_ft (pc := 143) tb_Mo_ask 78 rfl) cf_Mo_206 (fg_isOf ly_287 rfl (fg_lt ly_287 (by decide))) (as := [.int (nI (610 + 152 * town)), .int (nI ((S.2.1.1 person) ||| s))]) (st := []) rfl rfl (Nat.le_of_ble_eq_true rfl) (Nat.le_refl _) (Nat.le_refl _) (ev_Mo_follow hM1 hok hC1 (s := ((S.2.1.1 person) ||| s)) (hsm) ?_)
                      refine fg_iload (fg_ft (pc := 146) tb_Mo_ask 79 rfl) rfl ?_
                      refine fg_ishrN (fg_ft (pc := 148) tb_Mo_ask 80 rfl) (by omega) (by omega) ?_
                      refine fg_iconst (fg_ft (pc := 149) tb_Mo_ask 81 rfl) ic_1 ?_
                      refine fg_iandN (fg_ft (pc := 150) tb_Mo_ask 82 rfl) ?_
                      refine fg_iconst (fg_ft (pc := 151) tb_Mo_ask 83 rfl) ic_1 ?_
                      refine fg_icmpbit_ne (tgt := 159) (fg_ft (pc := 152) tb_Mo_ask 84 rfl) (by decide) (fun c152 => ?_) (fun c152 => ?_)
                      · refine fg_iincN (fg_ft (pc := 159) tb_Mo_ask 87 rfl) rfl ic_1 rfl ?_
                        refine fg_goto (tgt := 92) (fg_ft (pc := 162) tb_Mo_ask 88 rfl) (by decide) ?_
                        exact ih (s + 1) (some p) (by omega) (by omega) (by first | exact fg_mn_ge hI c124 | exact fg_mn_0 hI (fun hh => by first | exact c106 (fg_df0.mpr hh.1) | (have z9 := fg_few_1.mp hh.2; rw [c152] at z9; exact absurd z9 (by decide))))
                      · refine fg_iload (fg_ft (pc := 155) tb_Mo_ask 85 rfl) rfl ?_
                        refine fg_istore (fg_ft (pc := 157) tb_Mo_ask 86 rfl) (Nat.le_of_ble_eq_true rfl) ?_
                        refine fg_iincN (fg_ft (pc := 159) tb_Mo_ask 87 rfl) rfl ic_1 rfl ?_
                        refine fg_goto (tgt := 92) (fg_ft (pc := 162) tb_Mo_ask 88 rfl) (by decide) ?_
                        exact ih (s + 1) (some s) (by omega) (by omega) (fg_mn_2 hI c124 ⟨fg_df0.mp c106, fg_few_1.mpr c152⟩)
                    · refine fg_goto (tgt := 159) (fg_ft (pc := 127) tb_Mo_ask 69 rfl) (by decide) ?_
                      refine fg_iincN (fg_ft (pc := 159) tb_Mo_ask 87 rfl) rfl ic_1 rfl ?_
                      refine fg_goto (tgt := 92) (fg_ft (pc := 162) tb_Mo_ask 88 rfl) (by decide) ?_
                      exact ih (s + 1) (some p) (by omega) (by omega) (by first | exact fg_mn_ge hI c124 | exact fg_mn_0 hI (fun hh => by first | exact c106 (fg_df0.mpr hh.1) | (have z9 := fg_few_1.mp hh.2; rw [c152] at z9; exact absurd z9 (by decide))))
          exact loop (((fg_df (fg_orL S.2.1.1 (nI person) (A.ts town 2)) (S.2.1.1 person)) + 1) + 1) 1 none (by omega) (by omega) (fun q hq => by
            obtain rfl : q = 0 := by omega
            intro hh
            have z9 := fg_few_1.mp hh.2
            rw [Nat.or_zero, fg_clo_cl hmc] at z9
            exact y6 z9)
        · refine fg_iload (fg_ft (pc := 43) tb_Mo_ask 26 rfl) rfl ?_
          refine fg_iload (fg_ft (pc := 45) tb_Mo_ask 27 rfl) rfl ?_
          refine fg_iload (fg_ft (pc := 47) tb_Mo_ask 28 rfl) rfl ?_
          refine fg_icmp_neN (tgt := 56) (fg_ft (pc := 49) tb_Mo_ask 29 rfl) (by decide) (by omega) (by omega) (fun c49 => ?_) (fun c49 => ?_)
          · refine fg_aloadn (fg_ft (pc := 56) tb_Mo_ask 32 rfl) rfl ?_
            refine fg_getR (fg_ft (pc := 57) tb_Mo_ask 33 rfl) ff_Mo_23 ly_287 rfl (fg_lt ly_287 (by decide)) (rh_287_12 R) ?_
            refine fg_iload (fg_ft (pc := 60) tb_Mo_ask 34 rfl) rfl ?_
            refine fg_ialdV (v := (nI (S.2.1.1 k))) (fg_ft (pc := 62) tb_Mo_ask 35 rfl) ly_292 (fg_lt ly_292 (by decide)) (by omega) (hS1.2.1 _ (by omega)) ?_
            refine fg_iorN (fg_ft (pc := 63) tb_Mo_ask 36 rfl) ?_
            refine fg_istore (fg_ft (pc := 64) tb_Mo_ask 37 rfl) (Nat.le_of_ble_eq_true rfl) ?_
            refine fg_iincN (fg_ft (pc := 66) tb_Mo_ask 38 rfl) rfl ic_1 rfl ?_
            refine fg_goto (tgt := 29) (fg_ft (pc := 69) tb_Mo_ask 39 rfl) (by decide) ?_
            exact ih (k + 1) _ _ _ _ (by omega) (by omega) (by rw [ha]; show _ = fg_orL S.2.1.1 (nI person) k ||| (if nI k = nI person then 0 else S.2.1.1 k); first | rw [if_pos (by rw [c49])] | rw [if_neg (fun hh => c49 ((nI_eq (by omega) (by omega)).mp hh))])
          · refine fg_iconst (fg_ft (pc := 52) tb_Mo_ask 30 rfl) ic_0 ?_
            refine fg_goto (tgt := 63) (fg_ft (pc := 53) tb_Mo_ask 31 rfl) (by decide) ?_
            refine fg_iorN (fg_ft (pc := 63) tb_Mo_ask 36 rfl) ?_
            refine fg_istore (fg_ft (pc := 64) tb_Mo_ask 37 rfl) (Nat.le_of_ble_eq_true rfl) ?_
            refine fg_iincN (fg_ft (pc := 66) tb_Mo_ask 38 rfl) rfl ic_1 rfl ?_
            refine fg_goto (tgt := 29) (fg_ft (pc := 69) tb_Mo_ask 39 rfl) (by decide) ?_
            exact ih (k + 1) _ _ _ _ (by omega) (by omega) (by rw [ha]; show _ = fg_orL S.2.1.1 (nI person) k ||| (if nI k = nI person then 0 else S.2.1.1 k); first | rw [if_pos (by rw [c49])] | rw [if_neg (fun hh => c49 ((nI_eq (by omega) (by omega)).mp hh))])
    exact loop (A.ts town 2 + 1) 0 0 _ _ _ (by omega) (by omega) rfl
theorem ev_Mo_ask1 {E : fg_E} {d : Nat} {μ : Nat → Nat → Int32} {R : fg_T4} {Q : Option Value → fg_M → Prop} {A : fg_Tl} (hL : fg_ML (μ 288) A) (hw : fg_wA A) (h17 : μ 287 17 = -1) (h19 : μ 287 19 = nI 0) {town day n person fact : Nat} (htown : town < 2 ^ 32) (hday : day < 2 ^ 32) (hn : n < 2 ^ 32) (hperson : person < 2 ^ 32) (hfact : fact < 2 ^ 32) (hQ : ∀ μ' : Nat → Nat → Int32, fg_agR μ μ' → Q (some (.int (an_ask A town day n person fact 1))) (μ', fg_rho R, 304)) : fg_Ev E yy_Mo_ask (d + 12) [.ref 287, .int (nI town), .int (nI day), .int (nI n), .int (nI person), .int (nI fact), .int (nI 1)] (μ, fg_rho R, 304) 304 Q := by
  have ht2 := hw.2.1
  have hd3 := hw.2.2.1
  refine fg_intro (by decide +kernel) (Nat.le_of_ble_eq_true rfl) (fg_okAs rfl) (Nat.le_refl _) ?_
  refine fg_aloadn (fg_ft (pc := 0) tb_Mo_ask 0 rfl) rfl ?_
  refine fg_iloadn (fg_ft (pc := 1) tb_Mo_ask 1 rfl) rfl ?_
  refine fg_iloadn (fg_ft (pc := 2) tb_Mo_ask 2 rfl) rfl ?_
  refine fg_iloadn (fg_ft (pc := 3) tb_Mo_ask 3 rfl) rfl ?_
  refine fg_iload (fg_ft (pc := 4) tb_Mo_ask 4 rfl) rfl ?_
  refine fg_iload (fg_ft (pc := 6) tb_Mo_ask 5 rfl) rfl ?_
  refine fg_callV (fg_ft (pc := 8) tb_Mo_ask 6 rfl) cf_Mo_297 (fg_isOf ly_287 rfl (fg_lt ly_287 (by decide))) (as := [.int (nI town), .int (nI day), .int (nI n), .int (nI person), .int (nI fact)]) (st := []) rfl rfl (Nat.le_of_ble_eq_true rfl) (Nat.le_refl _) (Nat.le_refl _) (ev_Mo_lacks hL hw h17 h19 htown hday hn hperson hfact (fun n4 μ1 ha1 => ?_) (fun S lv y4 y5 hfT y6 μ1 n1 y1 ha1 hC1 hS1 => ?_))
  · refine fg_if_ne (tgt := 16) (fg_ft (pc := 11) tb_Mo_ask 7 rfl) (by decide) (fun h => absurd h (by decide)) (fun _ => ?_)
    refine fg_iconst (fg_ft (pc := 14) tb_Mo_ask 8 rfl) ic_m1 ?_
    exact fg_iret (fg_ft (pc := 15) tb_Mo_ask 9 rfl) rfl rfl (fg_q (hQ _ (fg_agR_A ha1)) (by unfold an_ask; rcases n4 with n4 | ⟨S, lv, y4, y5, y6⟩; rw [fg_g1_none n4]; rw [fg_g1_some y4 y5] <;> (rcases y6 with y6 | y6; (rw [if_neg y6]); ((repeat split) <;> first | rfl | rw [if_pos y6]))))
  · have ytc := fg_fnd_t y4
    have hok := hw.2.2.2.1 town ytc
    have hM1 := (hL.2.2.1 town ytc).ag ha1.m
    have hz : fg_zok (A.ts town) S.1 (S.2.1.1, 0, 0, 0) S.2.2 := fg_zok.news (fg_fnd_okW hw y4)
    have hv0 := hM1.1
    have hb0 := hok.1
    have hb1 := hok.2.1
    have hp := hok.p
    have hz9 := hz.1
    have hm2 := hz.2.1 person y5
    have hm0 : S.2.1.1 person < 2 ^ A.ts town 0 := hm2.1
    have hmc : fg_clsd (A.ts town) (S.2.1.1 person) := hm2.2
    have hm10 : S.2.1.1 person < 1024 := by omega
    refine fg_if_ne (tgt := 16) (fg_ft (pc := 11) tb_Mo_ask 7 rfl) (by decide) (fun _ => ?_) (fun h => absurd h (by decide))
    refine fg_iconst (fg_ft (pc := 16) tb_Mo_ask 10 rfl) ic_0 ?_
    refine fg_iloadn (fg_ft (pc := 17) tb_Mo_ask 11 rfl) rfl ?_
    refine fg_callS (fg_ft (pc := 18) tb_Mo_ask 12 rfl) cf_Mo_166 (as := [.int (nI 0), .int (nI town)]) (st := []) rfl rfl (Nat.le_of_ble_eq_true rfl) (Nat.le_refl _) (Nat.le_refl _) (ev_Mo_placeOf0 (k := town) ?_)
    refine fg_istore (fg_ft (pc := 21) tb_Mo_ask 13 rfl) (Nat.le_of_ble_eq_true rfl) ?_
    refine fg_iconst (fg_ft (pc := 23) tb_Mo_ask 14 rfl) ic_0 ?_
    refine fg_istore (fg_ft (pc := 24) tb_Mo_ask 15 rfl) (Nat.le_of_ble_eq_true rfl) ?_
    refine fg_iconst (fg_ft (pc := 26) tb_Mo_ask 16 rfl) ic_0 ?_
    refine fg_istore (fg_ft (pc := 27) tb_Mo_ask 17 rfl) (Nat.le_of_ble_eq_true rfl) ?_
    have loop : ∀ (m k a : Nat) (v10 v11 v12 : Value), A.ts town 2 - k < m → k ≤ A.ts town 2 → a = fg_orL S.2.1.1 (nI person) k → fg_wp E yy_Mo_ask (d + 12) 304 304 Q 29 [.ref 287, .int (nI town), .int (nI day), .int (nI n), .int (nI person), .int (nI fact), .int (nI 1), .int (nI (610 + 152 * town)), .int (nI a), .int (nI k), v10, v11, v12] [] (μ1, fg_rho R, 304) := by
      intro m
      induction m with
      | zero => intro k a v10 v11 v12 h; exact absurd h (Nat.not_lt_zero _)
      | succ m ih =>
        intro k a v10 v11 v12 hm hk ha
        refine fg_iload (fg_ft (pc := 29) tb_Mo_ask 18 rfl) rfl ?_
        refine fg_aloadn (fg_ft (pc := 31) tb_Mo_ask 19 rfl) rfl ?_
        refine fg_getR (fg_ft (pc := 32) tb_Mo_ask 20 rfl) ff_Mo_7 ly_287 rfl (fg_lt ly_287 (by decide)) (rh_287_0 R) ?_
        refine fg_iload (fg_ft (pc := 35) tb_Mo_ask 21 rfl) rfl ?_
        refine fg_iconst (fg_ft (pc := 37) tb_Mo_ask 22 rfl) ic_2 ?_
        refine fg_iaddN (fg_ft (pc := 38) tb_Mo_ask 23 rfl) ?_
        refine fg_ialdV (v := (nI ((A.ts town) 2))) (fg_ft (pc := 39) tb_Mo_ask 24 rfl) ly_288 (fg_lt ly_288 (by decide)) (by omega) (fg_MTat hM1 (i := (610 + 152 * town) + 2) (k := 2) (by omega) (by omega)) ?_
        refine fg_icmp_geN (tgt := 72) (fg_ft (pc := 40) tb_Mo_ask 25 rfl) (by decide) (by omega) (by omega) (fun c40 => ?_) (fun c40 => ?_)
        · have ea : a = fg_orL S.2.1.1 (nI person) (A.ts town 2) := by rw [ha, show k = A.ts town 2 by omega]
          rw [ea]
          have hth : (fg_df (fg_orL S.2.1.1 (nI person) (A.ts town 2)) (S.2.1.1 person)) < 2 ^ A.ts town 0 := fg_df_lt (fg_orL_lt (fun p hp => (hz.2.1 p hp).1))
          refine fg_iload (fg_ft (pc := 72) tb_Mo_ask 40 rfl) rfl ?_
          refine fg_aloadn (fg_ft (pc := 74) tb_Mo_ask 41 rfl) rfl ?_
          refine fg_getR (fg_ft (pc := 75) tb_Mo_ask 42 rfl) ff_Mo_23 ly_287 rfl (fg_lt ly_287 (by decide)) (rh_287_12 R) ?_
          refine fg_iload (fg_ft (pc := 78) tb_Mo_ask 43 rfl) rfl ?_
          refine fg_ialdV (v := (nI (S.2.1.1 person))) (fg_ft (pc := 80) tb_Mo_ask 44 rfl) ly_292 (fg_lt ly_292 (by decide)) (by omega) (hS1.2.1 _ (by omega)) ?_
          refine fg_iconst (fg_ft (pc := 81) tb_Mo_ask 45 rfl) ic_m1 ?_
          refine fg_ixor (fg_ft (pc := 82) tb_Mo_ask 46 rfl) ?_
          refine fg_iandD (fg_ft (pc := 83) tb_Mo_ask 47 rfl) ?_
          refine fg_istore (fg_ft (pc := 84) tb_Mo_ask 48 rfl) (Nat.le_of_ble_eq_true rfl) ?_
          refine fg_iconst (fg_ft (pc := 86) tb_Mo_ask 49 rfl) ic_m1 ?_
          refine fg_istore (fg_ft (pc := 87) tb_Mo_ask 50 rfl) (Nat.le_of_ble_eq_true rfl) ?_
          refine fg_iconst (fg_ft (pc := 89) tb_Mo_ask 51 rfl) ic_1 ?_
          refine fg_istore (fg_ft (pc := 90) tb_Mo_ask 52 rfl) (Nat.le_of_ble_eq_true rfl) ?_
          have loop : ∀ (m s : Nat) (r : Option Nat), (((fg_df (fg_orL S.2.1.1 (nI person) (A.ts town 2)) (S.2.1.1 person)) + 1)) - s < m → s ≤ ((fg_df (fg_orL S.2.1.1 (nI person) (A.ts town 2)) (S.2.1.1 person)) + 1) → fg_mn (fun s => fg_le s (fg_df (fg_orL S.2.1.1 (nI person) (A.ts town 2)) (S.2.1.1 person)) ∧ fg_few (A.ts town) (S.2.1.1 person) (2 ^ fact) 0 s) s r → fg_wp E yy_Mo_ask (d + 12) 304 304 Q 92 [.ref 287, .int (nI town), .int (nI day), .int (nI n), .int (nI person), .int (nI fact), .int (nI 1), .int (nI (610 + 152 * town)), .int (nI (fg_df (fg_orL S.2.1.1 (nI person) (A.ts town 2)) (S.2.1.1 person))), .int (fg_o r), .int (nI s), v11, v12] [] (μ1, fg_rho R, 304) := by
            intro m
            induction m with
            | zero => intro s r h; exact absurd h (Nat.not_lt_zero _)
            | succ m ih =>
              intro s r hm hs hI
              cases r with
              | none =>
                show fg_wp E yy_Mo_ask (d + 12) 304 304 Q 92 [.ref 287, .int (nI town), .int (nI day), .int (nI n), .int (nI person), .int (nI fact), .int (nI 1), .int (nI (610 + 152 * town)), .int (nI (fg_df (fg_orL S.2.1.1 (nI person) (A.ts town 2)) (S.2.1.1 person))), .int (-1), .int (nI s), v11, v12] [] (μ1, fg_rho R, 304)
                refine fg_iload (fg_ft (pc := 92) tb_Mo_ask 53 rfl) rfl ?_
                refine fg_iload (fg_ft (pc := 94) tb_Mo_ask 54 rfl) rfl ?_
                refine fg_icmp_gtN (tgt := 165) (fg_ft (pc := 96) tb_Mo_ask 55 rfl) (by decide) (by omega) (by omega) (fun c96 => ?_) (fun c96 => ?_)
                · refine fg_iload (fg_ft (pc := 165) tb_Mo_ask 89 rfl) rfl ?_
                  refine fg_if_lt (tgt := 175) (fg_ft (pc := 167) tb_Mo_ask 90 rfl) (by decide) (fun c167 => ?_) (fun c167 => (absurd (by decide) c167))
                  refine fg_iload (fg_ft (pc := 175) tb_Mo_ask 93 rfl) rfl ?_
                  exact fg_iret (fg_ft (pc := 177) tb_Mo_ask 94 rfl) rfl rfl (fg_q (hQ _ (fg_agR_A ha1)) (by unfold an_ask; rw [fg_g1_some y4 y5] <;> (rw [if_pos hfT, if_neg y6, fg_mn_end hI (fun q hq => by have := fg_le_le hq.1; omega)]; rfl)))
                · refine fg_iload (fg_ft (pc := 99) tb_Mo_ask 56 rfl) rfl ?_
                  refine fg_iload (fg_ft (pc := 101) tb_Mo_ask 57 rfl) rfl ?_
                  refine fg_iconst (fg_ft (pc := 103) tb_Mo_ask 58 rfl) ic_m1 ?_
                  refine fg_ixor (fg_ft (pc := 104) tb_Mo_ask 59 rfl) ?_
                  refine fg_iandD (fg_ft (pc := 105) tb_Mo_ask 60 rfl) ?_
                  refine fg_if_neN (tgt := 159) (fg_ft (pc := 106) tb_Mo_ask 61 rfl) (by decide) (fg_df_le31 (by omega)) (fun c106 => ?_) (fun c106 => ?_)
                  · refine fg_iincN (fg_ft (pc := 159) tb_Mo_ask 87 rfl) rfl ic_1 rfl ?_
                    refine fg_goto (tgt := 92) (fg_ft (pc := 162) tb_Mo_ask 88 rfl) (by decide) ?_
                    exact ih (s + 1) none (by omega) (by omega) (fg_mn_0 hI (fun hh => by first | exact c106 (fg_df0.mpr hh.1) | (have z9 := fg_few_1.mp hh.2; rw [c152] at z9; exact absurd z9 (by decide))))
                  · refine fg_iload (fg_ft (pc := 109) tb_Mo_ask 62 rfl) rfl ?_
                    refine fg_if_lt (tgt := 130) (fg_ft (pc := 111) tb_Mo_ask 63 rfl) (by decide) (fun c111 => ?_) (fun c111 => (absurd (by decide) c111))
                    have hsm : (S.2.1.1 person) ||| s < 2 ^ A.ts town 0 := fg_or_lt hm0 (fg_le_lt (fg_df0.mp c106) hth)
                    have hcs := fg_clo_lt hok hsm
                    refine fg_aloadn (fg_ft (pc := 130) tb_Mo_ask 70 rfl) rfl ?_
                    refine fg_iload (fg_ft (pc := 131) tb_Mo_ask 71 rfl) rfl ?_
                    refine fg_aloadn (fg_ft (pc := 133) tb_Mo_ask 72 rfl) rfl ?_
                    refine fg_getR (fg_ft (pc := 134) tb_Mo_ask 73 rfl) ff_Mo_23 ly_287 rfl (fg_lt ly_287 (by decide)) (rh_287_12 R) ?_
                    refine fg_iload (fg_ft (pc := 137) tb_Mo_ask 74 rfl) rfl ?_
                    refine fg_ialdV (v := (nI (S.2.1.1 person))) (fg_ft (pc := 139) tb_Mo_ask 75 rfl) ly_292 (fg_lt ly_292 (by decide)) (by omega) (hS1.2.1 _ (by omega)) ?_
                    refine fg_iload (fg_ft (pc := 140) tb_Mo_ask 76 rfl) rfl ?_
                    refine fg_iorN (fg_ft (pc := 142) tb_Mo_ask 77 rfl) ?_
                    refine fg_callV (fg_ft (pc := 143) tb_Mo_ask 78 rfl) cf_Mo_206 (fg_isOf ly_287 rfl (fg_lt ly_287 (by decide))) (as := [.int (nI (610 + 152 * town)), .int (nI ((S.2.1.1 person) ||| s))]) (st := []) rfl rfl (Nat.le_of_ble_eq_true rfl) (Nat.le_refl _) (Nat.le_refl _) (ev_Mo_follow hM1 hok hC1 (s := ((S.2.1.1 person) ||| s)) (hsm) ?_)
                    refine fg_iload (fg_ft (pc := 146) tb_Mo_ask 79 rfl) rfl ?_
                    refine fg_ishrN (fg_ft (pc := 148) tb_Mo_ask 80 rfl) (by omega) (by omega) ?_
                    refine fg_iconst (fg_ft (pc := 149) tb_Mo_ask 81 rfl) ic_1 ?_
                    refine fg_iandN (fg_ft (pc := 150) tb_Mo_ask 82 rfl) ?_
                    refine fg_iconst (fg_ft (pc := 151) tb_Mo_ask 83 rfl) ic_1 ?_
                    refine fg_icmpbit_ne (tgt := 159) (fg_ft (pc := 152) tb_Mo_ask 84 rfl) (by decide) (fun c152 => ?_) (fun c152 => ?_)
                    · refine fg_iincN (fg_ft (pc := 159) tb_Mo_ask 87 rfl) rfl ic_1 rfl ?_
                      refine fg_goto (tgt := 92) (fg_ft (pc := 162) tb_Mo_ask 88 rfl) (by decide) ?_
                      exact ih (s + 1) none (by omega) (by omega) (fg_mn_0 hI (fun hh => by first | exact c106 (fg_df0.mpr hh.1) | (have z9 := fg_few_1.mp hh.2; rw [c152] at z9; exact absurd z9 (by decide))))
                    · refine fg_iload (fg_ft (pc := 155) tb_Mo_ask 85 rfl) rfl ?_
                      refine fg_istore (fg_ft (pc := 157) tb_Mo_ask 86 rfl) (Nat.le_of_ble_eq_true rfl) ?_
                      refine fg_iincN (fg_ft (pc := 159) tb_Mo_ask 87 rfl) rfl ic_1 rfl ?_
                      refine fg_goto (tgt := 92) (fg_ft (pc := 162) tb_Mo_ask 88 rfl) (by decide) ?_
                      exact ih (s + 1) (some s) (by omega) (by omega) (fg_mn_1 hI ⟨fg_df0.mp c106, fg_few_1.mpr c152⟩)
              | some p =>
                show fg_wp E yy_Mo_ask (d + 12) 304 304 Q 92 [.ref 287, .int (nI town), .int (nI day), .int (nI n), .int (nI person), .int (nI fact), .int (nI 1), .int (nI (610 + 152 * town)), .int (nI (fg_df (fg_orL S.2.1.1 (nI person) (A.ts town 2)) (S.2.1.1 person))), .int (nI p), .int (nI s), v11, v12] [] (μ1, fg_rho R, 304)
                have hps := hI.1
                refine fg_iload (fg_ft (pc := 92) tb_Mo_ask 53 rfl) rfl ?_
                refine fg_iload (fg_ft (pc := 94) tb_Mo_ask 54 rfl) rfl ?_
                refine fg_icmp_gtN (tgt := 165) (fg_ft (pc := 96) tb_Mo_ask 55 rfl) (by decide) (by omega) (by omega) (fun c96 => ?_) (fun c96 => ?_)
                · refine fg_iload (fg_ft (pc := 165) tb_Mo_ask 89 rfl) rfl ?_
                  refine fg_if_ltN (tgt := 175) (fg_ft (pc := 167) tb_Mo_ask 90 rfl) (by decide) (by omega) ?_
                  refine fg_iload (fg_ft (pc := 170) tb_Mo_ask 91 rfl) rfl ?_
                  refine fg_if_ne (tgt := 178) (fg_ft (pc := 172) tb_Mo_ask 92 rfl) (by decide) (fun _ => ?_) (fun h => absurd h (by decide))
                  refine fg_iconst (fg_ft (pc := 178) tb_Mo_ask 95 rfl) ic_0 ?_
                  refine fg_istore (fg_ft (pc := 179) tb_Mo_ask 96 rfl) (Nat.le_of_ble_eq_true rfl) ?_
                  refine fg_iconst (fg_ft (pc := 181) tb_Mo_ask 97 rfl) ic_0 ?_
                  refine fg_istore (fg_ft (pc := 182) tb_Mo_ask 98 rfl) (Nat.le_of_ble_eq_true rfl) ?_
                  have hmin := fg_mn_end hI (fun q hq => by have := fg_le_le hq.1; omega)
                  have hpl : p < 2 ^ A.ts town 0 := fg_le_lt hI.2.1.1 hth
                  have hex : ∀ f, p.testBit f = true → ∃ q, q < A.ts town 2 ∧ q ≠ person ∧ (S.2.1.1 q).testBit f = true := fun f hf => fg_orL_bit (by omega) (A.ts town 2) (by omega) (fg_df_le _ _ _ (hI.2.1.1 f hf))
                  have loop2 : ∀ (m f bits : Nat) (v12 : Value), A.ts town 0 - f < m → f ≤ A.ts town 0 → bits = fg_lb S.2.1.1 person p (A.ts town 2) f → fg_wp E yy_Mo_ask (d + 12) 304 304 Q 184 [.ref 287, .int (nI town), .int (nI day), .int (nI n), .int (nI person), .int (nI fact), .int (nI 1), .int (nI (610 + 152 * town)), .int (nI (fg_df (fg_orL S.2.1.1 (nI person) (A.ts town 2)) (S.2.1.1 person))), .int (nI p), .int (nI bits), .int (nI f), v12] [] (μ1, fg_rho R, 304) := by
                    intro m
                    induction m with
                    | zero => intro f bits v12 h; exact absurd h (Nat.not_lt_zero _)
                    | succ m ih2 =>
                      intro f bits v12 hm2 hf hb
                      refine fg_iload (fg_ft (pc := 184) tb_Mo_ask 99 rfl) rfl ?_
                      refine fg_aloadn (fg_ft (pc := 186) tb_Mo_ask 100 rfl) rfl ?_
                      refine fg_getR (fg_ft (pc := 187) tb_Mo_ask 101 rfl) ff_Mo_7 ly_287 rfl (fg_lt ly_287 (by decide)) (rh_287_0 R) ?_
                      refine fg_iload (fg_ft (pc := 190) tb_Mo_ask 102 rfl) rfl ?_
                      refine fg_iconst (fg_ft (pc := 192) tb_Mo_ask 103 rfl) ic_0 ?_
                      refine fg_iaddN (fg_ft (pc := 193) tb_Mo_ask 104 rfl) ?_
                      refine fg_ialdV (v := (nI ((A.ts town) 0))) (fg_ft (pc := 194) tb_Mo_ask 105 rfl) ly_288 (fg_lt ly_288 (by decide)) (by omega) (fg_MTat hM1 (i := (610 + 152 * town) + 0) (k := 0) (by omega) (by omega)) ?_
                      refine fg_icmp_geN (tgt := 253) (fg_ft (pc := 195) tb_Mo_ask 106 rfl) (by decide) (by omega) (by omega) (fun c195 => ?_) (fun c195 => ?_)
                      · refine fg_iload (fg_ft (pc := 253) tb_Mo_ask 134 rfl) rfl ?_
                        exact fg_iret (fg_ft (pc := 255) tb_Mo_ask 135 rfl) rfl rfl (fg_q (hQ _ (fg_agR_A ha1)) (by unfold an_ask; rw [fg_g1_some y4 y5] <;> (rw [if_pos hfT, if_neg y6, hmin]; show (if (1 : Nat) = 0 then nI p else nI (fg_lwL S.2.1.1 person p (A.ts town 2)).1) = _; rw [if_neg (by decide), hb, show f = A.ts town 0 by omega, fg_lb_eq hpl hex])))
                      · refine fg_iload (fg_ft (pc := 198) tb_Mo_ask 107 rfl) rfl ?_
                        refine fg_iload (fg_ft (pc := 200) tb_Mo_ask 108 rfl) rfl ?_
                        refine fg_ishrN (fg_ft (pc := 202) tb_Mo_ask 109 rfl) (by omega) (by omega) ?_
                        refine fg_iconst (fg_ft (pc := 203) tb_Mo_ask 110 rfl) ic_1 ?_
                        refine fg_iandN (fg_ft (pc := 204) tb_Mo_ask 111 rfl) ?_
                        refine fg_ifbit_ne (tgt := 211) (fg_ft (pc := 205) tb_Mo_ask 112 rfl) (by decide) (fun c205 => ?_) (fun c205 => ?_)
                        · refine fg_iconst (fg_ft (pc := 211) tb_Mo_ask 114 rfl) ic_0 ?_
                          refine fg_istore (fg_ft (pc := 212) tb_Mo_ask 115 rfl) (Nat.le_of_ble_eq_true rfl) ?_
                          obtain ⟨w0, u1, u2, u3⟩ := hex f c205
                          obtain ⟨w1, t1, t2, t3, t4⟩ := fg_l1_ex w0 (A.ts town 2) ⟨w0, u1, Nat.le_refl _, u2, u3⟩
                          have hl1 := fg_l1_spec ⟨t1, t2, t3, t4⟩
                          have loop3 : ∀ (m w : Nat), w1 - w < m → w ≤ w1 → fg_wp E yy_Mo_ask (d + 12) 304 304 Q 214 [.ref 287, .int (nI town), .int (nI day), .int (nI n), .int (nI person), .int (nI fact), .int (nI 1), .int (nI (610 + 152 * town)), .int (nI (fg_df (fg_orL S.2.1.1 (nI person) (A.ts town 2)) (S.2.1.1 person))), .int (nI p), .int (nI bits), .int (nI f), .int (nI w)] [] (μ1, fg_rho R, 304) := by
                            intro m
                            induction m with
                            | zero => intro w h; exact absurd h (Nat.not_lt_zero _)
                            | succ m ih3 =>
                              intro w hm3 hw1
                              refine fg_iload (fg_ft (pc := 214) tb_Mo_ask 116 rfl) rfl ?_
                              refine fg_iload (fg_ft (pc := 216) tb_Mo_ask 117 rfl) rfl ?_
                              refine fg_icmp_eqN (tgt := 232) (fg_ft (pc := 218) tb_Mo_ask 118 rfl) (by decide) (by omega) (by omega) (fun c218 => ?_) (fun c218 => ?_)
                              · refine fg_iincN (fg_ft (pc := 232) tb_Mo_ask 124 rfl) rfl ic_1 rfl ?_
                                refine fg_goto (tgt := 214) (fg_ft (pc := 235) tb_Mo_ask 125 rfl) (by decide) ?_
                                have hwl : w < w1 := by
                                  rcases Nat.decEq w w1 with z | z
                                  · omega
                                  · exfalso; subst z; first | exact t2 c218 | exact c229 t3
                                exact ih3 (w + 1) (by omega) (by omega)
                              · refine fg_aloadn (fg_ft (pc := 221) tb_Mo_ask 119 rfl) rfl ?_
                                refine fg_iload (fg_ft (pc := 222) tb_Mo_ask 120 rfl) rfl ?_
                                refine fg_iload (fg_ft (pc := 224) tb_Mo_ask 121 rfl) rfl ?_
                                refine fg_callV (fg_ft (pc := 226) tb_Mo_ask 122 rfl) cf_Mo_212 (fg_isOf ly_287 rfl (fg_lt ly_287 (by decide))) (as := [.int (nI w), .int (nI f)]) (st := []) rfl rfl (Nat.le_of_ble_eq_true rfl) (Nat.le_refl _) (Nat.le_refl _) (ev_Mo_knows (Mv := S.2.1.1) (T := (A.ts town)) (hS1.2.1) (p := w) (f := f) (by omega) (by omega) (fg_km hok hz (by omega)) ?_)
                                refine fg_ifB_ne (tgt := 238) (fg_ft (pc := 229) tb_Mo_ask 123 rfl) (by decide) (fun c229 => ?_) (fun c229 => ?_)
                                · refine fg_iload (fg_ft (pc := 238) tb_Mo_ask 126 rfl) rfl ?_
                                  refine fg_iconst (fg_ft (pc := 240) tb_Mo_ask 127 rfl) ic_1 ?_
                                  refine fg_iload (fg_ft (pc := 241) tb_Mo_ask 128 rfl) rfl ?_
                                  refine fg_ishl1 (fg_ft (pc := 243) tb_Mo_ask 129 rfl) (by omega) ?_
                                  refine fg_iorN (fg_ft (pc := 244) tb_Mo_ask 130 rfl) ?_
                                  refine fg_istore (fg_ft (pc := 245) tb_Mo_ask 131 rfl) (Nat.le_of_ble_eq_true rfl) ?_
                                  refine fg_iincN (fg_ft (pc := 247) tb_Mo_ask 132 rfl) rfl ic_1 rfl ?_
                                  refine fg_goto (tgt := 184) (fg_ft (pc := 250) tb_Mo_ask 133 rfl) (by decide) ?_
                                  obtain rfl : w = w1 := by
                                    rcases Nat.lt_or_ge w w1 with z | z
                                    · exact absurd c229 (t4 w z c218)
                                    · omega
                                  exact ih2 (f + 1) _ _ (by omega) (by omega) (by rw [hb]; show _ = fg_lb S.2.1.1 person p (A.ts town 2) f ||| _; rw [if_pos c205, hl1])
                                · refine fg_iincN (fg_ft (pc := 232) tb_Mo_ask 124 rfl) rfl ic_1 rfl ?_
                                  refine fg_goto (tgt := 214) (fg_ft (pc := 235) tb_Mo_ask 125 rfl) (by decide) ?_
                                  have hwl : w < w1 := by
                                    rcases Nat.decEq w w1 with z | z
                                    · omega
                                    · exfalso; subst z; first | exact t2 c218 | exact c229 t3
                                  exact ih3 (w + 1) (by omega) (by omega)
                          exact loop3 (w1 + 1) 0 (by omega) (by omega)
                        · refine fg_goto (tgt := 247) (fg_ft (pc := 208) tb_Mo_ask 113 rfl) (by decide) ?_
                          refine fg_iincN (fg_ft (pc := 247) tb_Mo_ask 132 rfl) rfl ic_1 rfl ?_
                          refine fg_goto (tgt := 184) (fg_ft (pc := 250) tb_Mo_ask 133 rfl) (by decide) ?_
                          exact ih2 (f + 1) _ _ (by omega) (by omega) (by rw [hb]; show _ = fg_lb S.2.1.1 person p (A.ts town 2) f ||| _; rw [if_neg (by rw [c205]; decide), Nat.or_zero])
                  exact loop2 (A.ts town 0 + 1) 0 0 _ (by omega) (by omega) rfl
                · refine fg_iload (fg_ft (pc := 99) tb_Mo_ask 56 rfl) rfl ?_
                  refine fg_iload (fg_ft (pc := 101) tb_Mo_ask 57 rfl) rfl ?_
                  refine fg_iconst (fg_ft (pc := 103) tb_Mo_ask 58 rfl) ic_m1 ?_
                  refine fg_ixor (fg_ft (pc := 104) tb_Mo_ask 59 rfl) ?_
                  refine fg_iandD (fg_ft (pc := 105) tb_Mo_ask 60 rfl) ?_
                  refine fg_if_neN (tgt := 159) (fg_ft (pc := 106) tb_Mo_ask 61 rfl) (by decide) (fg_df_le31 (by omega)) (fun c106 => ?_) (fun c106 => ?_)
                  · refine fg_iincN (fg_ft (pc := 159) tb_Mo_ask 87 rfl) rfl ic_1 rfl ?_
                    refine fg_goto (tgt := 92) (fg_ft (pc := 162) tb_Mo_ask 88 rfl) (by decide) ?_
                    exact ih (s + 1) (some p) (by omega) (by omega) (by first | exact fg_mn_ge hI c124 | exact fg_mn_0 hI (fun hh => by first | exact c106 (fg_df0.mpr hh.1) | (have z9 := fg_few_1.mp hh.2; rw [c152] at z9; exact absurd z9 (by decide))))
                  · refine fg_iload (fg_ft (pc := 109) tb_Mo_ask 62 rfl) rfl ?_
                    refine fg_if_ltN (tgt := 130) (fg_ft (pc := 111) tb_Mo_ask 63 rfl) (by decide) (by omega) ?_
                    refine fg_iload (fg_ft (pc := 114) tb_Mo_ask 64 rfl) rfl ?_
                    refine fg_callS (fg_ft (pc := 116) tb_Mo_ask 65 rfl) cf_Mo_185 (as := [.int (nI s)]) (st := []) rfl rfl (Nat.le_of_ble_eq_true rfl) (Nat.le_refl _) (Nat.le_refl _) (ev_Mo_many (s := s) (by omega) ?_)
                    refine fg_iload (fg_ft (pc := 119) tb_Mo_ask 66 rfl) rfl ?_
                    refine fg_callS (fg_ft (pc := 121) tb_Mo_ask 67 rfl) cf_Mo_185 (as := [.int (nI p)]) (st := [.int (nI (fg_pc s))]) rfl rfl (Nat.le_of_ble_eq_true rfl) (Nat.le_refl _) (Nat.le_refl _) (ev_Mo_many (s := p) (by omega) ?_)
                    refine fg_icmp_ltN (tgt := 130) (fg_ft (pc := 124) tb_Mo_ask 68 rfl) (by decide) (by have := fg_pc_le s; omega) (by have := fg_pc_le p; omega) (fun c124 => ?_) (fun c124 => ?_)
                    · have hsm : (S.2.1.1 person) ||| s < 2 ^ A.ts town 0 := fg_or_lt hm0 (fg_le_lt (fg_df0.mp c106) hth)
                      have hcs := fg_clo_lt hok hsm
                      refine fg_aloadn (fg_ft (pc := 130) tb_Mo_ask 70 rfl) rfl ?_
                      refine fg_iload (fg_ft (pc := 131) tb_Mo_ask 71 rfl) rfl ?_
                      refine fg_aloadn (fg_ft (pc := 133) tb_Mo_ask 72 rfl) rfl ?_
                      refine fg_getR (fg_ft (pc := 134) tb_Mo_ask 73 rfl) ff_Mo_23 ly_287 rfl (fg_lt ly_287 (by decide)) (rh_287_12 R) ?_
                      refine fg_iload (fg_ft (pc := 137) tb_Mo_ask 74 rfl) rfl ?_
                      refine fg_ialdV (v := (nI (S.2.1.1 person))) (fg_ft (pc := 139) tb_Mo_ask 75 rfl) ly_292 (fg_lt ly_292 (by decide)) (by omega) (hS1.2.1 _ (by omega)) ?_
                      refine fg_iload (fg_ft (pc := 140) tb_Mo_ask 76 rfl) rfl ?_
                      refine fg_iorN (fg_ft (pc := 142) tb_Mo_ask 77 rfl) ?_
                      refine fg_callV (fg_ft (pc := 143) tb_Mo_ask 78 rfl) cf_Mo_206 (fg_isOf ly_287 rfl (fg_lt ly_287 (by decide))) (as := [.int (nI (610 + 152 * town)), .int (nI ((S.2.1.1 person) ||| s))]) (st := []) rfl rfl (Nat.le_of_ble_eq_true rfl) (Nat.le_refl _) (Nat.le_refl _) (ev_Mo_follow hM1 hok hC1 (s := ((S.2.1.1 person) ||| s)) (hsm) ?_)
                      refine fg_iload (fg_ft (pc := 146) tb_Mo_ask 79 rfl) rfl ?_
                      refine fg_ishrN (fg_ft (pc := 148) tb_Mo_ask 80 rfl) (by omega) (by omega) ?_
                      refine fg_iconst (fg_ft (pc := 149) tb_Mo_ask 81 rfl) ic_1 ?_
                      refine fg_iandN (fg_ft (pc := 150) tb_Mo_ask 82 rfl) ?_
                      refine fg_iconst (fg_ft (pc := 151) tb_Mo_ask 83 rfl) ic_1 ?_
                      refine fg_icmpbit_ne (tgt := 159) (fg_ft (pc := 152) tb_Mo_ask 84 rfl) (by decide) (fun c152 => ?_) (fun c152 => ?_)
                      · refine fg_iincN (fg_ft (pc := 159) tb_Mo_ask 87 rfl) rfl ic_1 rfl ?_
                        refine fg_goto (tgt := 92) (fg_ft (pc := 162) tb_Mo_ask 88 rfl) (by decide) ?_
                        exact ih (s + 1) (some p) (by omega) (by omega) (by first | exact fg_mn_ge hI c124 | exact fg_mn_0 hI (fun hh => by first | exact c106 (fg_df0.mpr hh.1) | (have z9 := fg_few_1.mp hh.2; rw [c152] at z9; exact absurd z9 (by decide))))
                      · refine fg_iload (fg_ft (pc := 155) tb_Mo_ask 85 rfl) rfl ?_
                        refine fg_istore (fg_ft (pc := 157) tb_Mo_ask 86 rfl) (Nat.le_of_ble_eq_true rfl) ?_
                        refine fg_iincN (fg_ft (pc := 159) tb_Mo_ask 87 rfl) rfl ic_1 rfl ?_
                        refine fg_goto (tgt := 92) (fg_ft (pc := 162) tb_Mo_ask 88 rfl) (by decide) ?_
                        exact ih (s + 1) (some s) (by omega) (by omega) (fg_mn_2 hI c124 ⟨fg_df0.mp c106, fg_few_1.mpr c152⟩)
                    · refine fg_goto (tgt := 159) (fg_ft (pc := 127) tb_Mo_ask 69 rfl) (by decide) ?_
                      refine fg_iincN (fg_ft (pc := 159) tb_Mo_ask 87 rfl) rfl ic_1 rfl ?_
                      refine fg_goto (tgt := 92) (fg_ft (pc := 162) tb_Mo_ask 88 rfl) (by decide) ?_
                      exact ih (s + 1) (some p) (by omega) (by omega) (by first | exact fg_mn_ge hI c124 | exact fg_mn_0 hI (fun hh => by first | exact c106 (fg_df0.mpr hh.1) | (have z9 := fg_few_1.mp hh.2; rw [c152] at z9; exact absurd z9 (by decide))))
          exact loop (((fg_df (fg_orL S.2.1.1 (nI person) (A.ts town 2)) (S.2.1.1 person)) + 1) + 1) 1 none (by omega) (by omega) (fun q hq => by
            obtain rfl : q = 0 := by omega
            intro hh
            have z9 := fg_few_1.mp hh.2
            rw [Nat.or_zero, fg_clo_cl hmc] at z9
            exact y6 z9)
        · refine fg_iload (fg_ft (pc := 43) tb_Mo_ask 26 rfl) rfl ?_
          refine fg_iload (fg_ft (pc := 45) tb_Mo_ask 27 rfl) rfl ?_
          refine fg_iload (fg_ft (pc := 47) tb_Mo_ask 28 rfl) rfl ?_
          refine fg_icmp_neN (tgt := 56) (fg_ft (pc := 49) tb_Mo_ask 29 rfl) (by decide) (by omega) (by omega) (fun c49 => ?_) (fun c49 => ?_)
          · refine fg_aloadn (fg_ft (pc := 56) tb_Mo_ask 32 rfl) rfl ?_
            refine fg_getR (fg_ft (pc := 57) tb_Mo_ask 33 rfl) ff_Mo_23 ly_287 rfl (fg_lt ly_287 (by decide)) (rh_287_12 R) ?_
            refine fg_iload (fg_ft (pc := 60) tb_Mo_ask 34 rfl) rfl ?_
            refine fg_ialdV (v := (nI (S.2.1.1 k))) (fg_ft (pc := 62) tb_Mo_ask 35 rfl) ly_292 (fg_lt ly_292 (by decide)) (by omega) (hS1.2.1 _ (by omega)) ?_
            refine fg_iorN (fg_ft (pc := 63) tb_Mo_ask 36 rfl) ?_
            refine fg_istore (fg_ft (pc := 64) tb_Mo_ask 37 rfl) (Nat.le_of_ble_eq_true rfl) ?_
            refine fg_iincN (fg_ft (pc := 66) tb_Mo_ask 38 rfl) rfl ic_1 rfl ?_
            refine fg_goto (tgt := 29) (fg_ft (pc := 69) tb_Mo_ask 39 rfl) (by decide) ?_
            exact ih (k + 1) _ _ _ _ (by omega) (by omega) (by rw [ha]; show _ = fg_orL S.2.1.1 (nI person) k ||| (if nI k = nI person then 0 else S.2.1.1 k); first | rw [if_pos (by rw [c49])] | rw [if_neg (fun hh => c49 ((nI_eq (by omega) (by omega)).mp hh))])
          · refine fg_iconst (fg_ft (pc := 52) tb_Mo_ask 30 rfl) ic_0 ?_
            refine fg_goto (tgt := 63) (fg_ft (pc := 53) tb_Mo_ask 31 rfl) (by decide) ?_
            refine fg_iorN (fg_ft (pc := 63) tb_Mo_ask 36 rfl) ?_
            refine fg_istore (fg_ft (pc := 64) tb_Mo_ask 37 rfl) (Nat.le_of_ble_eq_true rfl) ?_
            refine fg_iincN (fg_ft (pc := 66) tb_Mo_ask 38 rfl) rfl ic_1 rfl ?_
            refine fg_goto (tgt := 29) (fg_ft (pc := 69) tb_Mo_ask 39 rfl) (by decide) ?_
            exact ih (k + 1) _ _ _ _ (by omega) (by omega) (by rw [ha]; show _ = fg_orL S.2.1.1 (nI person) k ||| (if nI k = nI person then 0 else S.2.1.1 k); first | rw [if_pos (by rw [c49])] | rw [if_neg (fun hh => c49 ((nI_eq (by omega) (by omega)).mp hh))])
    exact loop (A.ts town 2 + 1) 0 0 _ _ _ (by omega) (by omega) rfl
