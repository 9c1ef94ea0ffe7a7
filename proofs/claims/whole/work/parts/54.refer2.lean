/-- a pass over the rules -/
noncomputable def fg_fp (T : Nat → Nat) (s : Nat) : Nat → Nat
  | 0 => s
  | n + 1 => fg_fp T s n ||| (if fg_df (T (9 + 2 * n)) (fg_fp T s n) = 0 then 2 ^ T (8 + 2 * n) else 0)
theorem fg_fp_gr (T : Nat → Nat) (s : Nat) : ∀ n, fg_le s (fg_fp T s n) := by
  intro n
  induction n with
  | zero => exact fg_le_rf _
  | succ n ih => exact fg_le_tr ih (fg_le_or1 _ _)
theorem fg_fp_mono (T : Nat → Nat) (s k : Nat) : ∀ n, fg_le (fg_fp T s k) (fg_fp T s (k + n)) := by
  intro n
  induction n with
  | zero => exact fg_le_rf _
  | succ n ih => exact fg_le_tr ih (fg_le_or1 _ _)
theorem fg_fp_lt {T : Nat → Nat} (hok : fg_ok T) {s : Nat} (hs : s < 2 ^ T 0) : ∀ n, n ≤ T 1 → fg_fp T s n < 2 ^ T 0 := by
  intro n
  induction n with
  | zero => intro _; exact hs
  | succ n ih =>
    intro hn
    refine fg_or_lt (ih (by omega)) ?_
    split
    · exact Nat.pow_lt_pow_right (by decide) (hok.2.2.1 n (by omega)).1
    · exact Nat.two_pow_pos _
theorem fg_fp_clo {T : Nat → Nat} (hok : fg_ok T) {s : Nat} (hs : s < 2 ^ T 0) : ∀ n, n ≤ T 1 → fg_clo T (fg_fp T s n) = fg_clo T s := by
  intro n
  induction n with
  | zero => intro _; rfl
  | succ n ih =>
    intro hn
    have h1 := fg_fp_lt hok hs n (by omega)
    show fg_clo T (fg_fp T s n ||| (if fg_df (T (9 + 2 * n)) (fg_fp T s n) = 0 then 2 ^ T (8 + 2 * n) else 0)) = _
    split
    · rename_i h
      rw [← ih (by omega)]
      have h2 : fg_fp T s n ||| 2 ^ T (8 + 2 * n) < 2 ^ T 0 := fg_or_lt h1 (Nat.pow_lt_pow_right (by decide) (hok.2.2.1 n (by omega)).1)
      exact (fg_clo_of ((fg_clo_is hok h2).step (by omega) (fg_df0.mp h))).symm
    · rw [Nat.or_zero]; exact ih (by omega)
theorem fg_fp_lt2 {T : Nat → Nat} {s : Nat} (h : ¬ fg_clsd T s) : s < fg_fp T s (T 1) := by
  have h1 := fg_le_le (fg_fp_gr T s (T 1))
  rcases Nat.lt_or_ge s (fg_fp T s (T 1)) with g | g
  · exact g
  · exfalso
    refine h (fun r hr hb => ?_)
    have e : fg_fp T s (T 1) = s := Nat.le_antisymm g h1
    have m1 := fg_fp_mono T s (r + 1) (T 1 - (r + 1))
    rw [show r + 1 + (T 1 - (r + 1)) = T 1 by omega, e] at m1
    refine m1 _ ?_
    show (fg_fp T s r ||| (if fg_df (T (9 + 2 * r)) (fg_fp T s r) = 0 then 2 ^ T (8 + 2 * r) else 0)).testBit _ = true
    rw [if_pos (fg_df0.mpr (fg_le_tr hb (fg_fp_gr T s r))), Nat.testBit_or, Nat.testBit_two_pow_self, Bool.or_true]
theorem ev_Mo_follow {E : fg_E} {d : Nat} {μ : Nat → Nat → Int32} {R : fg_T4} {Q : Option Value → fg_M → Prop} {v : Nat} {T : Nat → Nat} (hM : fg_MT (μ 288) v T) (hok : fg_ok T) (hC : fg_MC μ T) {s : Nat} (hs : s < 2 ^ T 0) (hQ : Q (some (.int (nI (fg_clo T s)))) (μ, fg_rho R, 304)) : fg_Ev E yy_Mo_follow (d + 2) [.ref 287, .int (nI v), .int (nI s)] (μ, fg_rho R, 304) 304 Q := by
  have hv0 := hM.1
  have hb0 := hok.1
  have hb1 := hok.2.1
  have hp := hok.p
  have hq := Nat.two_pow_pos (T 0)
  have inner : ∀ x, x < 2 ^ T 0 → ¬ fg_clsd T x → (∀ v4 : Value, fg_wp E yy_Mo_follow (d + 2) 304 304 Q 2 [.ref 287, .int (nI v), .int (nI s), .int (nI (fg_fp T x (T 1))), v4] [] (μ, fg_rho R, 304)) → ∀ (m r a : Nat), T 1 - r < m → r ≤ T 1 → a = fg_fp T x r → fg_wp E yy_Mo_follow (d + 2) 304 304 Q 14 [.ref 287, .int (nI v), .int (nI s), .int (nI a), .int (nI r)] [] (μ, fg_rho R, 304) := by
    intro x hx hn hk m
    induction m with
    | zero => intro r a h; exact absurd h (Nat.not_lt_zero _)
    | succ m ih =>
      intro r a hm hr ha
      have ha0 : a < 2 ^ T 0 := by rw [ha]; exact fg_fp_lt hok hx r hr
      refine fg_iload (fg_ft (pc := 14) tb_Mo_follow 9 rfl) rfl ?_
      refine fg_aloadn (fg_ft (pc := 16) tb_Mo_follow 10 rfl) rfl ?_
      refine fg_getR (fg_ft (pc := 17) tb_Mo_follow 11 rfl) ff_Mo_7 ly_287 rfl (fg_lt ly_287 (by decide)) (rh_287_0 R) ?_
      refine fg_iloadn (fg_ft (pc := 20) tb_Mo_follow 12 rfl) rfl ?_
      refine fg_iconst (fg_ft (pc := 21) tb_Mo_follow 13 rfl) ic_1 ?_
      refine fg_iaddN (fg_ft (pc := 22) tb_Mo_follow 14 rfl) ?_
      refine fg_ialdV (v := (nI (T 1))) (fg_ft (pc := 23) tb_Mo_follow 15 rfl) ly_288 (fg_lt ly_288 (by decide)) (by omega) (fg_MTat hM (i := v + 1) (k := 1) (by omega) (by omega)) ?_
      refine fg_icmp_geN (tgt := 61) (fg_ft (pc := 24) tb_Mo_follow 16 rfl) (by decide) (by omega) (by omega) (fun c24 => ?_) (fun c24 => ?_)
      · refine fg_goto (tgt := 2) (fg_ft (pc := 61) tb_Mo_follow 37 rfl) (by decide) ?_
        have q9 := hk (.int (nI r))
        rw [show fg_fp T x (T 1) = a by rw [ha, show r = T 1 by omega]] at q9
        exact q9
      · refine fg_iloadn (fg_ft (pc := 27) tb_Mo_follow 17 rfl) rfl ?_
        refine fg_aloadn (fg_ft (pc := 28) tb_Mo_follow 18 rfl) rfl ?_
        refine fg_iloadn (fg_ft (pc := 29) tb_Mo_follow 19 rfl) rfl ?_
        refine fg_iload (fg_ft (pc := 30) tb_Mo_follow 20 rfl) rfl ?_
        refine fg_callV (fg_ft (pc := 32) tb_Mo_follow 21 rfl) cf_Mo_179 (fg_isOf ly_287 rfl (fg_lt ly_287 (by decide))) (as := [.int (nI v), .int (nI r)]) (st := [.int (nI a)]) rfl rfl (Nat.le_of_ble_eq_true rfl) (Nat.le_refl _) (Nat.le_refl _) (ev_Mo_bodyOf hM hok (r := r) (by omega) ?_)
        refine fg_iloadn (fg_ft (pc := 35) tb_Mo_follow 22 rfl) rfl ?_
        refine fg_iconst (fg_ft (pc := 36) tb_Mo_follow 23 rfl) ic_m1 ?_
        refine fg_ixor (fg_ft (pc := 37) tb_Mo_follow 24 rfl) ?_
        refine fg_iandD (fg_ft (pc := 38) tb_Mo_follow 25 rfl) ?_
        refine fg_if_neN (tgt := 52) (fg_ft (pc := 39) tb_Mo_follow 26 rfl) (by decide) (fg_df_le31 (by have := (hok.2.2.1 r (by omega)).2.1; omega)) (fun c39 => ?_) (fun c39 => ?_)
        · refine fg_iconst (fg_ft (pc := 52) tb_Mo_follow 32 rfl) ic_0 ?_
          refine fg_iorN (fg_ft (pc := 53) tb_Mo_follow 33 rfl) ?_
          refine fg_istoren (fg_ft (pc := 54) tb_Mo_follow 34 rfl) (Nat.le_of_ble_eq_true rfl) ?_
          refine fg_iincN (fg_ft (pc := 55) tb_Mo_follow 35 rfl) rfl ic_1 rfl ?_
          refine fg_goto (tgt := 14) (fg_ft (pc := 58) tb_Mo_follow 36 rfl) (by decide) ?_
          exact ih (r + 1) _ (by omega) (by omega) (by rw [ha]; show _ = fg_fp T x r ||| _; rw [if_neg (by rw [← ha]; exact c39)])
        · refine fg_aloadn (fg_ft (pc := 42) tb_Mo_follow 27 rfl) rfl ?_
          refine fg_iloadn (fg_ft (pc := 43) tb_Mo_follow 28 rfl) rfl ?_
          refine fg_iload (fg_ft (pc := 44) tb_Mo_follow 29 rfl) rfl ?_
          refine fg_callV (fg_ft (pc := 46) tb_Mo_follow 30 rfl) cf_Mo_182 (fg_isOf ly_287 rfl (fg_lt ly_287 (by decide))) (as := [.int (nI v), .int (nI r)]) (st := [.int (nI a)]) rfl rfl (Nat.le_of_ble_eq_true rfl) (Nat.le_refl _) (Nat.le_refl _) (ev_Mo_headOf hM hok (r := r) (by omega) ?_)
          refine fg_goto (tgt := 53) (fg_ft (pc := 49) tb_Mo_follow 31 rfl) (by decide) ?_
          refine fg_iorN (fg_ft (pc := 53) tb_Mo_follow 33 rfl) ?_
          refine fg_istoren (fg_ft (pc := 54) tb_Mo_follow 34 rfl) (Nat.le_of_ble_eq_true rfl) ?_
          refine fg_iincN (fg_ft (pc := 55) tb_Mo_follow 35 rfl) rfl ic_1 rfl ?_
          refine fg_goto (tgt := 14) (fg_ft (pc := 58) tb_Mo_follow 36 rfl) (by decide) ?_
          exact ih (r + 1) _ (by omega) (by omega) (by rw [ha]; show _ = fg_fp T x r ||| _; rw [if_pos (by rw [← ha]; exact c39)])
  have outer : ∀ (m x : Nat) (v4 : Value), 2 ^ T 0 - x < m → x < 2 ^ T 0 → fg_clo T x = fg_clo T s → fg_wp E yy_Mo_follow (d + 2) 304 304 Q 2 [.ref 287, .int (nI v), .int (nI s), .int (nI x), v4] [] (μ, fg_rho R, 304) := by
    intro m
    induction m with
    | zero => intro x v4 h; exact absurd h (Nat.not_lt_zero _)
    | succ m ih =>
      intro x v4 hm hx he
      refine fg_aloadn (fg_ft (pc := 2) tb_Mo_follow 2 rfl) rfl ?_
      refine fg_getR (fg_ft (pc := 3) tb_Mo_follow 3 rfl) ff_Mo_20 ly_287 rfl (fg_lt ly_287 (by decide)) (rh_287_11 R) ?_
      refine fg_iloadn (fg_ft (pc := 6) tb_Mo_follow 4 rfl) rfl ?_
      refine fg_zaldV (v := (fg_bI (fg_clsd T x))) (fg_ft (pc := 7) tb_Mo_follow 5 rfl) ly_291 (fg_lt ly_291 (by decide)) (by omega) (hC x (by omega)) ?_
      refine fg_ifB_ne (tgt := 64) (fg_ft (pc := 8) tb_Mo_follow 6 rfl) (by decide) (fun c8 => ?_) (fun c8 => ?_)
      · refine fg_iloadn (fg_ft (pc := 64) tb_Mo_follow 38 rfl) rfl ?_
        exact fg_iret (fg_ft (pc := 65) tb_Mo_follow 39 rfl) rfl rfl (by rw [← he, fg_clo_cl c8] at hQ; exact hQ)
      · refine fg_iconst (fg_ft (pc := 11) tb_Mo_follow 7 rfl) ic_0 ?_
        refine fg_istore (fg_ft (pc := 12) tb_Mo_follow 8 rfl) (Nat.le_of_ble_eq_true rfl) ?_
        exact inner x hx c8 (fun v4' => ih _ v4' (by have := fg_fp_lt2 c8; have := fg_fp_lt hok hx (T 1) (Nat.le_refl _); omega) (fg_fp_lt hok hx (T 1) (Nat.le_refl _)) (by rw [fg_fp_clo hok hx _ (Nat.le_refl _)]; exact he)) (T 1 + 1) 0 x (by omega) (by omega) rfl
  refine fg_intro (by decide +kernel) (Nat.le_of_ble_eq_true rfl) (fg_okAs rfl) (Nat.le_refl _) ?_
  refine fg_iloadn (fg_ft (pc := 0) tb_Mo_follow 0 rfl) rfl ?_
  refine fg_istoren (fg_ft (pc := 1) tb_Mo_follow 1 rfl) (Nat.le_of_ble_eq_true rfl) ?_
  exact outer (2 ^ T 0 + 1) s _ (by omega) hs rfl
theorem fg_df_anti {m p q : Nat} (hp : fg_le p m) (hq : fg_le q m) (h : p ≤ q) : fg_df m q ≤ fg_df m p := by
  have e : ∀ x, fg_le x m → fg_df m x + x = m := fun x hx => by
    rw [← fg_or_add (fg_df m x) (fg_df m x) x (Nat.le_refl _) (fg_df_dis _ _)]
    exact fg_df_or hx
  have := e p hp
  have := e q hq
  omega
def fg_bI2 (T : Nat → Nat) (mind gone kept : Nat) (X : Nat → Prop) (s : Int32 × Int32) : Prop := (s = (-1, -1) ∧ ∀ q, X q → ¬ (fg_clsd T q ∧ fg_le kept q)) ∨ ∃ p, X p ∧ fg_clsd T p ∧ fg_le kept p ∧ s = (nI p, nI (fg_pc p)) ∧ ∀ q, X q → fg_clsd T q → fg_le kept q → fg_pc q < fg_pc p ∨ (fg_pc q = fg_pc p ∧ q ≤ p)
theorem fg_okp_iff {T : Nat → Nat} {mind gone kept q : Nat} : fg_okp T mind gone kept q ↔ fg_le q (fg_df mind gone) ∧ fg_clsd T q ∧ fg_le kept q := by
  constructor
  · rintro ⟨h1, h2, h3, h4⟩
    refine ⟨fun i hi => ?_, h4, h3⟩
    rw [fg_df_bit, h1 i hi]
    have h5 := congrArg (fun z => Nat.testBit z i) h2
    simp only [Nat.testBit_and, hi, Nat.zero_testBit, Bool.true_and] at h5
    rw [h5]; rfl
  · rintro ⟨h1, h2, h3⟩
    refine ⟨fg_le_tr h1 (fg_df_le _ _), ?_, h3, h2⟩
    apply Nat.eq_of_testBit_eq
    intro i
    rw [Nat.testBit_and, Nat.zero_testBit]
    cases hq : q.testBit i
    · rfl
    · have := h1 i hq
      rw [fg_df_bit] at this
      cases hg : gone.testBit i
      · rfl
      · rw [hg, Bool.not_true, Bool.and_false] at this; cases this
theorem fg_bI2_end {T : Nat → Nat} {mind gone kept : Nat} {s : Int32 × Int32} (h : fg_bI2 T mind gone kept (fun q => fg_le q (fg_df mind gone)) s) : fg_o (fg_bst T mind gone kept) = s.1 := by
  rcases h with ⟨rfl, h⟩ | ⟨p, h1, h2, h3, rfl, h4⟩
  · rw [fg_bst_of (r := none) (fun p hp => h p (fg_okp_iff.mp hp).1 (fg_okp_iff.mp hp).2)]; rfl
  · rw [fg_bst_of (r := some p) ⟨fg_okp_iff.mpr ⟨h1, h2, h3⟩, fun q hq => h4 q (fg_okp_iff.mp hq).1 (fg_okp_iff.mp hq).2.1 (fg_okp_iff.mp hq).2.2⟩]; rfl
theorem fg_bI2_0 {T : Nat → Nat} {mind gone kept part free : Nat} {s : Int32 × Int32} (h : fg_bI2 T mind gone kept (fun q => fg_le q free ∧ part < q) s) (hn : ¬ (fg_clsd T part ∧ fg_le kept part)) : fg_bI2 T mind gone kept (fun q => fg_le q free ∧ part ≤ q) s := by
  rcases h with ⟨e, h⟩ | ⟨p, h1, h2, h3, e, h4⟩
  · refine Or.inl ⟨e, fun q hq => ?_⟩
    rcases Nat.lt_or_ge part q with g | g
    · exact h q ⟨hq.1, g⟩
    · obtain rfl : q = part := by have := hq.2; omega
      exact hn
  · refine Or.inr ⟨p, ⟨h1.1, Nat.le_of_lt h1.2⟩, h2, h3, e, fun q hq g1 g2 => ?_⟩
    rcases Nat.lt_or_ge part q with g | g
    · exact h4 q ⟨hq.1, g⟩ g1 g2
    · obtain rfl : q = part := by have := hq.2; omega
      exact absurd ⟨g1, g2⟩ hn
theorem fg_bI2_n {T : Nat → Nat} {mind gone kept part free : Nat} (h : fg_bI2 T mind gone kept (fun q => fg_le q free ∧ part < q) (-1, -1)) (hp : fg_le part free) (h1 : fg_clsd T part) (h2 : fg_le kept part) : fg_bI2 T mind gone kept (fun q => fg_le q free ∧ part ≤ q) (nI part, nI (fg_pc part)) := by
  rcases h with ⟨e, h⟩ | ⟨p, g1, g2, g3, e, g4⟩
  · refine Or.inr ⟨part, ⟨hp, Nat.le_refl _⟩, h1, h2, rfl, fun q hq a1 a2 => ?_⟩
    rcases Nat.lt_or_ge part q with g | g
    · exact absurd ⟨a1, a2⟩ (h q ⟨hq.1, g⟩)
    · obtain rfl : q = part := by have := hq.2; omega
      exact Or.inr ⟨rfl, Nat.le_refl _⟩
  · exact absurd (congrArg Prod.snd e).symm (fg_nIm1 (by have := fg_pc_le p; omega))
theorem fg_bI2_s {T : Nat → Nat} {mind gone kept part free p : Nat} (hI : fg_le p free ∧ part < p) (g1 : fg_clsd T p) (g2 : fg_le kept p) (g4 : ∀ q, (fg_le q free ∧ part < q) → fg_clsd T q → fg_le kept q → fg_pc q < fg_pc p ∨ (fg_pc q = fg_pc p ∧ q ≤ p)) (hp : fg_le part free) (h1 : fg_clsd T part) (h2 : fg_le kept part) : (fg_pc p < fg_pc part → fg_bI2 T mind gone kept (fun q => fg_le q free ∧ part ≤ q) (nI part, nI (fg_pc part))) ∧ (fg_pc part ≤ fg_pc p → fg_bI2 T mind gone kept (fun q => fg_le q free ∧ part ≤ q) (nI p, nI (fg_pc p))) := by
  constructor
  · intro hlt
    refine Or.inr ⟨part, ⟨hp, Nat.le_refl _⟩, h1, h2, rfl, fun q hq a1 a2 => ?_⟩
    rcases Nat.lt_or_ge part q with g | g
    · have := g4 q ⟨hq.1, g⟩ a1 a2
      exact Or.inl (by omega)
    · obtain rfl : q = part := by have := hq.2; omega
      exact Or.inr ⟨rfl, Nat.le_refl _⟩
  · intro hle
    refine Or.inr ⟨p, ⟨hI.1, Nat.le_of_lt hI.2⟩, g1, g2, rfl, fun q hq a1 a2 => ?_⟩
    rcases Nat.lt_or_ge part q with g | g
    · exact g4 q ⟨hq.1, g⟩ a1 a2
    · obtain rfl : q = part := by have := hq.2; omega
      have := hI.2
      rcases Nat.lt_or_ge (fg_pc q) (fg_pc p) with b | b
      · exact Or.inl b
      · exact Or.inr ⟨by omega, by omega⟩
theorem ev_Mo_bestPart {E : fg_E} {d : Nat} {μ : Nat → Nat → Int32} {R : fg_T4} {Q : Option Value → fg_M → Prop} {v : Nat} {T : Nat → Nat} (hM : fg_MT (μ 288) v T) (hok : fg_ok T) (hC : fg_MC μ T) {mind gone kept : Nat} (hm : mind < 2 ^ T 0) (hkp : kept < 2 ^ 10) (hQ : Q (some (.int (fg_o (fg_bst T mind gone kept)))) (μ, fg_rho R, 304)) : fg_Ev E yy_Mo_bestPart (d + 2) [.ref 287, .int (nI mind), .int (nI gone), .int (nI kept)] (μ, fg_rho R, 304) 304 Q := by
  have hv0 := hM.1
  have hb0 := hok.1
  have hb1 := hok.2.1
  have hp := hok.p
  have hq := Nat.two_pow_pos (T 0)
  refine fg_intro (by decide +kernel) (Nat.le_of_ble_eq_true rfl) (fg_okAs rfl) (Nat.le_refl _) ?_
  refine fg_iconst (fg_ft (pc := 0) tb_Mo_bestPart 0 rfl) ic_m1 ?_
  refine fg_istore (fg_ft (pc := 1) tb_Mo_bestPart 1 rfl) (Nat.le_of_ble_eq_true rfl) ?_
  refine fg_iloadn (fg_ft (pc := 3) tb_Mo_bestPart 2 rfl) rfl ?_
  refine fg_iloadn (fg_ft (pc := 4) tb_Mo_bestPart 3 rfl) rfl ?_
  refine fg_iconst (fg_ft (pc := 5) tb_Mo_bestPart 4 rfl) ic_m1 ?_
  refine fg_ixor (fg_ft (pc := 6) tb_Mo_bestPart 5 rfl) ?_
  refine fg_iandD (fg_ft (pc := 7) tb_Mo_bestPart 6 rfl) ?_
  refine fg_if_eqN (tgt := 13) (fg_ft (pc := 8) tb_Mo_bestPart 7 rfl) (by decide) (fg_df_le31 (by omega)) (fun c8 => ?_) (fun c8 => ?_)
  · refine fg_iloadn (fg_ft (pc := 13) tb_Mo_bestPart 10 rfl) rfl ?_
    refine fg_iloadn (fg_ft (pc := 14) tb_Mo_bestPart 11 rfl) rfl ?_
    refine fg_iconst (fg_ft (pc := 15) tb_Mo_bestPart 12 rfl) ic_m1 ?_
    refine fg_ixor (fg_ft (pc := 16) tb_Mo_bestPart 13 rfl) ?_
    refine fg_iandD (fg_ft (pc := 17) tb_Mo_bestPart 14 rfl) ?_
    refine fg_istore (fg_ft (pc := 18) tb_Mo_bestPart 15 rfl) (Nat.le_of_ble_eq_true rfl) ?_
    refine fg_iconst (fg_ft (pc := 20) tb_Mo_bestPart 16 rfl) ic_m1 ?_
    refine fg_istore (fg_ft (pc := 21) tb_Mo_bestPart 17 rfl) (Nat.le_of_ble_eq_true rfl) ?_
    refine fg_iload (fg_ft (pc := 23) tb_Mo_bestPart 18 rfl) rfl ?_
    refine fg_istore (fg_ft (pc := 25) tb_Mo_bestPart 19 rfl) (Nat.le_of_ble_eq_true rfl) ?_
    refine fg_iconst (fg_ft (pc := 27) tb_Mo_bestPart 20 rfl) ic_1 ?_
    refine fg_istore (fg_ft (pc := 28) tb_Mo_bestPart 21 rfl) (Nat.le_of_ble_eq_true rfl) ?_
    refine fg_descLoop2 (free := (fg_df mind gone)) (fun (part : Nat) (s : Int32 × Int32) => ∀ v9 v10 : Value, fg_wp E yy_Mo_bestPart (d + 2) 304 304 Q 30 [.ref 287, .int (nI mind), .int (nI gone), .int (nI kept), .int (s.1), .int (nI (fg_df mind gone)), .int (s.2), .int (nI part), .int (nI 1), v9, v10] [] (μ, fg_rho R, 304)) (fun (s : Int32 × Int32) => ∀ (v7 v9 v10 : Value), fg_wp E yy_Mo_bestPart (d + 2) 304 304 Q 30 [.ref 287, .int (nI mind), .int (nI gone), .int (nI kept), .int (s.1), .int (nI (fg_df mind gone)), .int (s.2), v7, .int (nI 0), v9, v10] [] (μ, fg_rho R, 304)) (fg_bI2 T mind gone kept) ?_ ?_ (-1, -1) (Or.inl ⟨rfl, fun _ h => h.elim⟩) _ _
    · intro s hI v7 v9 v10
      rw [fg_bI2_end hI] at hQ
      refine fg_iload (fg_ft (pc := 30) tb_Mo_bestPart 22 rfl) rfl ?_
      refine fg_if_eq (tgt := 146) (fg_ft (pc := 32) tb_Mo_bestPart 23 rfl) (by decide) (fun _ => ?_) (fun h => absurd h (by decide))
      refine fg_iload (fg_ft (pc := 146) tb_Mo_bestPart 83 rfl) rfl ?_
      exact fg_iret (fg_ft (pc := 148) tb_Mo_bestPart 84 rfl) rfl rfl (hQ)
    · intro part s hp hI hz hk v9 v10
      have hp0 : part < 2 ^ T 0 := fg_le_lt hp (fg_df_lt hm)
      have hpp := fg_pc_le part
      rcases Classical.em (fg_clsd T part ∧ fg_le kept part) with hcc | hcc
      · rcases hI with ⟨rfl, hI⟩ | ⟨p, g0, g1, g2, rfl, g4⟩
        · have hI : fg_bI2 T mind gone kept (fun q => fg_le q (fg_df mind gone) ∧ part < q) (-1, -1) := Or.inl ⟨rfl, hI⟩
          refine fg_iload (fg_ft (pc := 30) tb_Mo_bestPart 22 rfl) rfl ?_
          refine fg_if_eq (tgt := 146) (fg_ft (pc := 32) tb_Mo_bestPart 23 rfl) (by decide) (fun h => absurd h (by decide)) (fun _ => ?_)
          refine fg_aloadn (fg_ft (pc := 35) tb_Mo_bestPart 24 rfl) rfl ?_
          refine fg_getR (fg_ft (pc := 36) tb_Mo_bestPart 25 rfl) ff_Mo_20 ly_287 rfl (fg_lt ly_287 (by decide)) (rh_287_11 R) ?_
          refine fg_iload (fg_ft (pc := 39) tb_Mo_bestPart 26 rfl) rfl ?_
          refine fg_zaldV (v := (fg_bI (fg_clsd T part))) (fg_ft (pc := 41) tb_Mo_bestPart 27 rfl) ly_291 (fg_lt ly_291 (by decide)) (by omega) (hC part (hp0)) ?_
          refine fg_ifB_eq (tgt := 122) (fg_ft (pc := 42) tb_Mo_bestPart 28 rfl) (by decide) (fun c42 => (absurd hcc.1 c42)) (fun c42 => ?_)
          refine fg_iloadn (fg_ft (pc := 45) tb_Mo_bestPart 29 rfl) rfl ?_
          refine fg_iload (fg_ft (pc := 46) tb_Mo_bestPart 30 rfl) rfl ?_
          refine fg_iconst (fg_ft (pc := 48) tb_Mo_bestPart 31 rfl) ic_m1 ?_
          refine fg_ixor (fg_ft (pc := 49) tb_Mo_bestPart 32 rfl) ?_
          refine fg_iandD (fg_ft (pc := 50) tb_Mo_bestPart 33 rfl) ?_
          refine fg_if_neN (tgt := 122) (fg_ft (pc := 51) tb_Mo_bestPart 34 rfl) (by decide) (fg_df_le31 (by omega)) (fun c51 => (absurd (fg_df0.mpr hcc.2) c51)) (fun c51 => ?_)
          refine fg_iload (fg_ft (pc := 54) tb_Mo_bestPart 35 rfl) rfl ?_
          refine fg_callS (fg_ft (pc := 56) tb_Mo_bestPart 36 rfl) cf_Mo_185 (as := [.int (nI part)]) (st := []) rfl rfl (Nat.le_of_ble_eq_true rfl) (Nat.le_refl _) (Nat.le_refl _) (ev_Mo_many (s := part) (by omega) ?_)
          refine fg_istore (fg_ft (pc := 59) tb_Mo_bestPart 37 rfl) (Nat.le_of_ble_eq_true rfl) ?_
          refine fg_iload (fg_ft (pc := 61) tb_Mo_bestPart 38 rfl) rfl ?_
          refine fg_iload (fg_ft (pc := 63) tb_Mo_bestPart 39 rfl) rfl ?_
          refine fg_icmp_neM (tgt := 87) (fg_ft (pc := 65) tb_Mo_bestPart 40 rfl) (by decide) (Nat.lt_trans (show _ < 2 ^ 31 from by omega) (by decide)) (fun c65 => ?_) (fun c65 => (absurd c65 (by omega)))
          refine fg_iconst (fg_ft (pc := 87) tb_Mo_bestPart 54 rfl) ic_0 ?_
          refine fg_istore (fg_ft (pc := 88) tb_Mo_bestPart 55 rfl) (Nat.le_of_ble_eq_true rfl) ?_
          refine fg_iload (fg_ft (pc := 90) tb_Mo_bestPart 56 rfl) rfl ?_
          refine fg_iload (fg_ft (pc := 92) tb_Mo_bestPart 57 rfl) rfl ?_
          refine fg_icmp_gt (tgt := 102) (fg_ft (pc := 94) tb_Mo_bestPart 58 rfl) (by decide) (fun c94 => ?_) (fun c94 => (absurd (fg_neglt (a := fg_pc part) (by omega)) c94))
          refine fg_iload (fg_ft (pc := 102) tb_Mo_bestPart 61 rfl) rfl ?_
          refine fg_istore (fg_ft (pc := 104) tb_Mo_bestPart 62 rfl) (Nat.le_of_ble_eq_true rfl) ?_
          refine fg_iload (fg_ft (pc := 106) tb_Mo_bestPart 63 rfl) rfl ?_
          refine fg_iload (fg_ft (pc := 108) tb_Mo_bestPart 64 rfl) rfl ?_
          refine fg_icmp_le (tgt := 118) (fg_ft (pc := 110) tb_Mo_bestPart 65 rfl) (by decide) (fun c110 => (absurd c110 (fg_negle (by omega)))) (fun c110 => ?_)
          refine fg_iload (fg_ft (pc := 113) tb_Mo_bestPart 66 rfl) rfl ?_
          refine fg_goto (tgt := 120) (fg_ft (pc := 115) tb_Mo_bestPart 67 rfl) (by decide) ?_
          refine fg_istore (fg_ft (pc := 120) tb_Mo_bestPart 69 rfl) (Nat.le_of_ble_eq_true rfl) ?_
          refine fg_iload (fg_ft (pc := 122) tb_Mo_bestPart 70 rfl) rfl ?_
          refine fg_if_leN (tgt := 131) (fg_ft (pc := 124) tb_Mo_bestPart 71 rfl) (by decide) (by omega) (fun c124 => ?_) (fun c124 => ?_)
          · refine fg_iconst (fg_ft (pc := 131) tb_Mo_bestPart 74 rfl) ic_0 ?_
            refine fg_istore (fg_ft (pc := 132) tb_Mo_bestPart 75 rfl) (Nat.le_of_ble_eq_true rfl) ?_
            refine fg_iload (fg_ft (pc := 134) tb_Mo_bestPart 76 rfl) rfl ?_
            refine fg_iconst (fg_ft (pc := 136) tb_Mo_bestPart 77 rfl) ic_1 ?_
            refine fg_isub (fg_ft (pc := 137) tb_Mo_bestPart 78 rfl) ?_
            refine fg_iload (fg_ft (pc := 138) tb_Mo_bestPart 79 rfl) rfl ?_
            refine fg_iand (fg_ft (pc := 140) tb_Mo_bestPart 80 rfl) ?_
            refine fg_top fg_nx_I ?_
            refine fg_istore (fg_ft (pc := 141) tb_Mo_bestPart 81 rfl) (Nat.le_of_ble_eq_true rfl) ?_
            refine fg_goto (tgt := 30) (fg_ft (pc := 143) tb_Mo_bestPart 82 rfl) (by decide) ?_
            first | (exfalso; omega) | (exact hz _ (fg_bI2_n hI hp c42 (fg_df0.mp c51)) (by omega) _ _ _)
          · refine fg_iconst (fg_ft (pc := 127) tb_Mo_bestPart 72 rfl) ic_1 ?_
            refine fg_goto (tgt := 132) (fg_ft (pc := 128) tb_Mo_bestPart 73 rfl) (by decide) ?_
            refine fg_istore (fg_ft (pc := 132) tb_Mo_bestPart 75 rfl) (Nat.le_of_ble_eq_true rfl) ?_
            refine fg_iload (fg_ft (pc := 134) tb_Mo_bestPart 76 rfl) rfl ?_
            refine fg_iconst (fg_ft (pc := 136) tb_Mo_bestPart 77 rfl) ic_1 ?_
            refine fg_isub (fg_ft (pc := 137) tb_Mo_bestPart 78 rfl) ?_
            refine fg_iload (fg_ft (pc := 138) tb_Mo_bestPart 79 rfl) rfl ?_
            refine fg_iand (fg_ft (pc := 140) tb_Mo_bestPart 80 rfl) ?_
            refine fg_top fg_nx_I ?_
            refine fg_istore (fg_ft (pc := 141) tb_Mo_bestPart 81 rfl) (Nat.le_of_ble_eq_true rfl) ?_
            refine fg_goto (tgt := 30) (fg_ft (pc := 143) tb_Mo_bestPart 82 rfl) (by decide) ?_
            first | (exfalso; omega) | (exact hk _ (fg_bI2_n hI hp c42 (fg_df0.mp c51)) (by omega) _ _)
        · have hpl := fg_le_le g0.1
          have hp1 : p < 2 ^ T 0 := fg_le_lt g0.1 (fg_df_lt hm)
          have hpq := fg_pc_le p
          have ha := fg_df_anti (fg_le_tr hp (fg_df_le _ _)) (fg_le_tr g0.1 (fg_df_le _ _)) (Nat.le_of_lt g0.2)
          refine fg_iload (fg_ft (pc := 30) tb_Mo_bestPart 22 rfl) rfl ?_
          refine fg_if_eq (tgt := 146) (fg_ft (pc := 32) tb_Mo_bestPart 23 rfl) (by decide) (fun h => absurd h (by decide)) (fun _ => ?_)
          refine fg_aloadn (fg_ft (pc := 35) tb_Mo_bestPart 24 rfl) rfl ?_
          refine fg_getR (fg_ft (pc := 36) tb_Mo_bestPart 25 rfl) ff_Mo_20 ly_287 rfl (fg_lt ly_287 (by decide)) (rh_287_11 R) ?_
          refine fg_iload (fg_ft (pc := 39) tb_Mo_bestPart 26 rfl) rfl ?_
          refine fg_zaldV (v := (fg_bI (fg_clsd T part))) (fg_ft (pc := 41) tb_Mo_bestPart 27 rfl) ly_291 (fg_lt ly_291 (by decide)) (by omega) (hC part (hp0)) ?_
          refine fg_ifB_eq (tgt := 122) (fg_ft (pc := 42) tb_Mo_bestPart 28 rfl) (by decide) (fun c42 => (absurd hcc.1 c42)) (fun c42 => ?_)
          refine fg_iloadn (fg_ft (pc := 45) tb_Mo_bestPart 29 rfl) rfl ?_
          refine fg_iload (fg_ft (pc := 46) tb_Mo_bestPart 30 rfl) rfl ?_
          refine fg_iconst (fg_ft (pc := 48) tb_Mo_bestPart 31 rfl) ic_m1 ?_
          refine fg_ixor (fg_ft (pc := 49) tb_Mo_bestPart 32 rfl) ?_
          refine fg_iandD (fg_ft (pc := 50) tb_Mo_bestPart 33 rfl) ?_
          refine fg_if_neN (tgt := 122) (fg_ft (pc := 51) tb_Mo_bestPart 34 rfl) (by decide) (fg_df_le31 (by omega)) (fun c51 => (absurd (fg_df0.mpr hcc.2) c51)) (fun c51 => ?_)
          refine fg_iload (fg_ft (pc := 54) tb_Mo_bestPart 35 rfl) rfl ?_
          refine fg_callS (fg_ft (pc := 56) tb_Mo_bestPart 36 rfl) cf_Mo_185 (as := [.int (nI part)]) (st := []) rfl rfl (Nat.le_of_ble_eq_true rfl) (Nat.le_refl _) (Nat.le_refl _) (ev_Mo_many (s := part) (by omega) ?_)
          refine fg_istore (fg_ft (pc := 59) tb_Mo_bestPart 37 rfl) (Nat.le_of_ble_eq_true rfl) ?_
          refine fg_iload (fg_ft (pc := 61) tb_Mo_bestPart 38 rfl) rfl ?_
          refine fg_iload (fg_ft (pc := 63) tb_Mo_bestPart 39 rfl) rfl ?_
          refine fg_icmp_neN (tgt := 87) (fg_ft (pc := 65) tb_Mo_bestPart 40 rfl) (by decide) (by omega) (by omega) (fun c65 => ?_) (fun c65 => ?_)
          · refine fg_iconst (fg_ft (pc := 87) tb_Mo_bestPart 54 rfl) ic_0 ?_
            refine fg_istore (fg_ft (pc := 88) tb_Mo_bestPart 55 rfl) (Nat.le_of_ble_eq_true rfl) ?_
            refine fg_iload (fg_ft (pc := 90) tb_Mo_bestPart 56 rfl) rfl ?_
            refine fg_iload (fg_ft (pc := 92) tb_Mo_bestPart 57 rfl) rfl ?_
            refine fg_icmp_gtN (tgt := 102) (fg_ft (pc := 94) tb_Mo_bestPart 58 rfl) (by decide) (by omega) (by omega) (fun c94 => ?_) (fun c94 => ?_)
            · refine fg_iload (fg_ft (pc := 102) tb_Mo_bestPart 61 rfl) rfl ?_
              refine fg_istore (fg_ft (pc := 104) tb_Mo_bestPart 62 rfl) (Nat.le_of_ble_eq_true rfl) ?_
              refine fg_iload (fg_ft (pc := 106) tb_Mo_bestPart 63 rfl) rfl ?_
              refine fg_iload (fg_ft (pc := 108) tb_Mo_bestPart 64 rfl) rfl ?_
              refine fg_icmp_leN (tgt := 118) (fg_ft (pc := 110) tb_Mo_bestPart 65 rfl) (by decide) (by omega) (by omega) (fun c110 => ?_) (fun c110 => ?_)
              · refine fg_iload (fg_ft (pc := 118) tb_Mo_bestPart 68 rfl) rfl ?_
                refine fg_istore (fg_ft (pc := 120) tb_Mo_bestPart 69 rfl) (Nat.le_of_ble_eq_true rfl) ?_
                refine fg_iload (fg_ft (pc := 122) tb_Mo_bestPart 70 rfl) rfl ?_
                refine fg_if_leN (tgt := 131) (fg_ft (pc := 124) tb_Mo_bestPart 71 rfl) (by decide) (by omega) (fun c124 => ?_) (fun c124 => ?_)
                · refine fg_iconst (fg_ft (pc := 131) tb_Mo_bestPart 74 rfl) ic_0 ?_
                  refine fg_istore (fg_ft (pc := 132) tb_Mo_bestPart 75 rfl) (Nat.le_of_ble_eq_true rfl) ?_
                  refine fg_iload (fg_ft (pc := 134) tb_Mo_bestPart 76 rfl) rfl ?_
                  refine fg_iconst (fg_ft (pc := 136) tb_Mo_bestPart 77 rfl) ic_1 ?_
                  refine fg_isub (fg_ft (pc := 137) tb_Mo_bestPart 78 rfl) ?_
                  refine fg_iload (fg_ft (pc := 138) tb_Mo_bestPart 79 rfl) rfl ?_
                  refine fg_iand (fg_ft (pc := 140) tb_Mo_bestPart 80 rfl) ?_
                  refine fg_top fg_nx_I ?_
                  refine fg_istore (fg_ft (pc := 141) tb_Mo_bestPart 81 rfl) (Nat.le_of_ble_eq_true rfl) ?_
                  refine fg_goto (tgt := 30) (fg_ft (pc := 143) tb_Mo_bestPart 82 rfl) (by decide) ?_
                  first | (exfalso; omega) | (exact hz _ ((fg_bI2_s g0 g1 g2 g4 hp c42 (fg_df0.mp c51)).1 (by omega)) (by omega) _ _ _)
                · refine fg_iconst (fg_ft (pc := 127) tb_Mo_bestPart 72 rfl) ic_1 ?_
                  refine fg_goto (tgt := 132) (fg_ft (pc := 128) tb_Mo_bestPart 73 rfl) (by decide) ?_
                  refine fg_istore (fg_ft (pc := 132) tb_Mo_bestPart 75 rfl) (Nat.le_of_ble_eq_true rfl) ?_
                  refine fg_iload (fg_ft (pc := 134) tb_Mo_bestPart 76 rfl) rfl ?_
                  refine fg_iconst (fg_ft (pc := 136) tb_Mo_bestPart 77 rfl) ic_1 ?_
                  refine fg_isub (fg_ft (pc := 137) tb_Mo_bestPart 78 rfl) ?_
                  refine fg_iload (fg_ft (pc := 138) tb_Mo_bestPart 79 rfl) rfl ?_
                  refine fg_iand (fg_ft (pc := 140) tb_Mo_bestPart 80 rfl) ?_
                  refine fg_top fg_nx_I ?_
                  refine fg_istore (fg_ft (pc := 141) tb_Mo_bestPart 81 rfl) (Nat.le_of_ble_eq_true rfl) ?_
                  refine fg_goto (tgt := 30) (fg_ft (pc := 143) tb_Mo_bestPart 82 rfl) (by decide) ?_
                  first | (exfalso; omega) | (exact hk _ ((fg_bI2_s g0 g1 g2 g4 hp c42 (fg_df0.mp c51)).1 (by omega)) (by omega) _ _)
              · refine fg_iload (fg_ft (pc := 113) tb_Mo_bestPart 66 rfl) rfl ?_
                refine fg_goto (tgt := 120) (fg_ft (pc := 115) tb_Mo_bestPart 67 rfl) (by decide) ?_
                refine fg_istore (fg_ft (pc := 120) tb_Mo_bestPart 69 rfl) (Nat.le_of_ble_eq_true rfl) ?_
                refine fg_iload (fg_ft (pc := 122) tb_Mo_bestPart 70 rfl) rfl ?_
                refine fg_if_leN (tgt := 131) (fg_ft (pc := 124) tb_Mo_bestPart 71 rfl) (by decide) (by omega) (fun c124 => ?_) (fun c124 => ?_)
                · refine fg_iconst (fg_ft (pc := 131) tb_Mo_bestPart 74 rfl) ic_0 ?_
                  refine fg_istore (fg_ft (pc := 132) tb_Mo_bestPart 75 rfl) (Nat.le_of_ble_eq_true rfl) ?_
                  refine fg_iload (fg_ft (pc := 134) tb_Mo_bestPart 76 rfl) rfl ?_
                  refine fg_iconst (fg_ft (pc := 136) tb_Mo_bestPart 77 rfl) ic_1 ?_
                  refine fg_isub (fg_ft (pc := 137) tb_Mo_bestPart 78 rfl) ?_
                  refine fg_iload (fg_ft (pc := 138) tb_Mo_bestPart 79 rfl) rfl ?_
                  refine fg_iand (fg_ft (pc := 140) tb_Mo_bestPart 80 rfl) ?_
                  refine fg_top fg_nx_I ?_
                  refine fg_istore (fg_ft (pc := 141) tb_Mo_bestPart 81 rfl) (Nat.le_of_ble_eq_true rfl) ?_
                  refine fg_goto (tgt := 30) (fg_ft (pc := 143) tb_Mo_bestPart 82 rfl) (by decide) ?_
                  first | (exfalso; omega) | (exact hz _ ((fg_bI2_s g0 g1 g2 g4 hp c42 (fg_df0.mp c51)).1 (by omega)) (by omega) _ _ _)
                · refine fg_iconst (fg_ft (pc := 127) tb_Mo_bestPart 72 rfl) ic_1 ?_
                  refine fg_goto (tgt := 132) (fg_ft (pc := 128) tb_Mo_bestPart 73 rfl) (by decide) ?_
                  refine fg_istore (fg_ft (pc := 132) tb_Mo_bestPart 75 rfl) (Nat.le_of_ble_eq_true rfl) ?_
                  refine fg_iload (fg_ft (pc := 134) tb_Mo_bestPart 76 rfl) rfl ?_
                  refine fg_iconst (fg_ft (pc := 136) tb_Mo_bestPart 77 rfl) ic_1 ?_
                  refine fg_isub (fg_ft (pc := 137) tb_Mo_bestPart 78 rfl) ?_
                  refine fg_iload (fg_ft (pc := 138) tb_Mo_bestPart 79 rfl) rfl ?_
                  refine fg_iand (fg_ft (pc := 140) tb_Mo_bestPart 80 rfl) ?_
                  refine fg_top fg_nx_I ?_
                  refine fg_istore (fg_ft (pc := 141) tb_Mo_bestPart 81 rfl) (Nat.le_of_ble_eq_true rfl) ?_
                  refine fg_goto (tgt := 30) (fg_ft (pc := 143) tb_Mo_bestPart 82 rfl) (by decide) ?_
                  first | (exfalso; omega) | (exact hk _ ((fg_bI2_s g0 g1 g2 g4 hp c42 (fg_df0.mp c51)).1 (by omega)) (by omega) _ _)
            · refine fg_iload (fg_ft (pc := 97) tb_Mo_bestPart 59 rfl) rfl ?_
              refine fg_if_eq (tgt := 106) (fg_ft (pc := 99) tb_Mo_bestPart 60 rfl) (by decide) (fun _ => ?_) (fun h => absurd h (by decide))
              refine fg_iload (fg_ft (pc := 106) tb_Mo_bestPart 63 rfl) rfl ?_
              refine fg_iload (fg_ft (pc := 108) tb_Mo_bestPart 64 rfl) rfl ?_
              refine fg_icmp_leN (tgt := 118) (fg_ft (pc := 110) tb_Mo_bestPart 65 rfl) (by decide) (by omega) (by omega) (fun c110 => ?_) (fun c110 => ?_)
              · refine fg_iload (fg_ft (pc := 118) tb_Mo_bestPart 68 rfl) rfl ?_
                refine fg_istore (fg_ft (pc := 120) tb_Mo_bestPart 69 rfl) (Nat.le_of_ble_eq_true rfl) ?_
                refine fg_iload (fg_ft (pc := 122) tb_Mo_bestPart 70 rfl) rfl ?_
                refine fg_if_leN (tgt := 131) (fg_ft (pc := 124) tb_Mo_bestPart 71 rfl) (by decide) (by omega) (fun c124 => ?_) (fun c124 => ?_)
                · refine fg_iconst (fg_ft (pc := 131) tb_Mo_bestPart 74 rfl) ic_0 ?_
                  refine fg_istore (fg_ft (pc := 132) tb_Mo_bestPart 75 rfl) (Nat.le_of_ble_eq_true rfl) ?_
                  refine fg_iload (fg_ft (pc := 134) tb_Mo_bestPart 76 rfl) rfl ?_
                  refine fg_iconst (fg_ft (pc := 136) tb_Mo_bestPart 77 rfl) ic_1 ?_
                  refine fg_isub (fg_ft (pc := 137) tb_Mo_bestPart 78 rfl) ?_
                  refine fg_iload (fg_ft (pc := 138) tb_Mo_bestPart 79 rfl) rfl ?_
                  refine fg_iand (fg_ft (pc := 140) tb_Mo_bestPart 80 rfl) ?_
                  refine fg_top fg_nx_I ?_
                  refine fg_istore (fg_ft (pc := 141) tb_Mo_bestPart 81 rfl) (Nat.le_of_ble_eq_true rfl) ?_
                  refine fg_goto (tgt := 30) (fg_ft (pc := 143) tb_Mo_bestPart 82 rfl) (by decide) ?_
                  first | (exfalso; omega) | (exact hz _ ((fg_bI2_s g0 g1 g2 g4 hp c42 (fg_df0.mp c51)).2 (by omega)) (by omega) _ _ _)
                · refine fg_iconst (fg_ft (pc := 127) tb_Mo_bestPart 72 rfl) ic_1 ?_
                  refine fg_goto (tgt := 132) (fg_ft (pc := 128) tb_Mo_bestPart 73 rfl) (by decide) ?_
                  refine fg_istore (fg_ft (pc := 132) tb_Mo_bestPart 75 rfl) (Nat.le_of_ble_eq_true rfl) ?_
                  refine fg_iload (fg_ft (pc := 134) tb_Mo_bestPart 76 rfl) rfl ?_
                  refine fg_iconst (fg_ft (pc := 136) tb_Mo_bestPart 77 rfl) ic_1 ?_
                  refine fg_isub (fg_ft (pc := 137) tb_Mo_bestPart 78 rfl) ?_
                  refine fg_iload (fg_ft (pc := 138) tb_Mo_bestPart 79 rfl) rfl ?_
                  refine fg_iand (fg_ft (pc := 140) tb_Mo_bestPart 80 rfl) ?_
                  refine fg_top fg_nx_I ?_
                  refine fg_istore (fg_ft (pc := 141) tb_Mo_bestPart 81 rfl) (Nat.le_of_ble_eq_true rfl) ?_
                  refine fg_goto (tgt := 30) (fg_ft (pc := 143) tb_Mo_bestPart 82 rfl) (by decide) ?_
                  first | (exfalso; omega) | (exact hk _ ((fg_bI2_s g0 g1 g2 g4 hp c42 (fg_df0.mp c51)).2 (by omega)) (by omega) _ _)
              · refine fg_iload (fg_ft (pc := 113) tb_Mo_bestPart 66 rfl) rfl ?_
                refine fg_goto (tgt := 120) (fg_ft (pc := 115) tb_Mo_bestPart 67 rfl) (by decide) ?_
                refine fg_istore (fg_ft (pc := 120) tb_Mo_bestPart 69 rfl) (Nat.le_of_ble_eq_true rfl) ?_
                refine fg_iload (fg_ft (pc := 122) tb_Mo_bestPart 70 rfl) rfl ?_
                refine fg_if_leN (tgt := 131) (fg_ft (pc := 124) tb_Mo_bestPart 71 rfl) (by decide) (by omega) (fun c124 => ?_) (fun c124 => ?_)
                · refine fg_iconst (fg_ft (pc := 131) tb_Mo_bestPart 74 rfl) ic_0 ?_
                  refine fg_istore (fg_ft (pc := 132) tb_Mo_bestPart 75 rfl) (Nat.le_of_ble_eq_true rfl) ?_
                  refine fg_iload (fg_ft (pc := 134) tb_Mo_bestPart 76 rfl) rfl ?_
                  refine fg_iconst (fg_ft (pc := 136) tb_Mo_bestPart 77 rfl) ic_1 ?_
                  refine fg_isub (fg_ft (pc := 137) tb_Mo_bestPart 78 rfl) ?_
                  refine fg_iload (fg_ft (pc := 138) tb_Mo_bestPart 79 rfl) rfl ?_
                  refine fg_iand (fg_ft (pc := 140) tb_Mo_bestPart 80 rfl) ?_
                  refine fg_top fg_nx_I ?_
                  refine fg_istore (fg_ft (pc := 141) tb_Mo_bestPart 81 rfl) (Nat.le_of_ble_eq_true rfl) ?_
                  refine fg_goto (tgt := 30) (fg_ft (pc := 143) tb_Mo_bestPart 82 rfl) (by decide) ?_
                  first | (exfalso; omega) | (exact hz _ ((fg_bI2_s g0 g1 g2 g4 hp c42 (fg_df0.mp c51)).2 (by omega)) (by omega) _ _ _)
                · refine fg_iconst (fg_ft (pc := 127) tb_Mo_bestPart 72 rfl) ic_1 ?_
                  refine fg_goto (tgt := 132) (fg_ft (pc := 128) tb_Mo_bestPart 73 rfl) (by decide) ?_
                  refine fg_istore (fg_ft (pc := 132) tb_Mo_bestPart 75 rfl) (Nat.le_of_ble_eq_true rfl) ?_
                  refine fg_iload (fg_ft (pc := 134) tb_Mo_bestPart 76 rfl) rfl ?_
                  refine fg_iconst (fg_ft (pc := 136) tb_Mo_bestPart 77 rfl) ic_1 ?_
                  refine fg_isub (fg_ft (pc := 137) tb_Mo_bestPart 78 rfl) ?_
                  refine fg_iload (fg_ft (pc := 138) tb_Mo_bestPart 79 rfl) rfl ?_
                  refine fg_iand (fg_ft (pc := 140) tb_Mo_bestPart 80 rfl) ?_
                  refine fg_top fg_nx_I ?_
                  refine fg_istore (fg_ft (pc := 141) tb_Mo_bestPart 81 rfl) (Nat.le_of_ble_eq_true rfl) ?_
                  refine fg_goto (tgt := 30) (fg_ft (pc := 143) tb_Mo_bestPart 82 rfl) (by decide) ?_
                  first | (exfalso; omega) | (exact hk _ ((fg_bI2_s g0 g1 g2 g4 hp c42 (fg_df0.mp c51)).2 (by omega)) (by omega) _ _)
          · refine fg_iloadn (fg_ft (pc := 68) tb_Mo_bestPart 41 rfl) rfl ?_
            refine fg_iload (fg_ft (pc := 69) tb_Mo_bestPart 42 rfl) rfl ?_
            refine fg_iconst (fg_ft (pc := 71) tb_Mo_bestPart 43 rfl) ic_m1 ?_
            refine fg_ixor (fg_ft (pc := 72) tb_Mo_bestPart 44 rfl) ?_
            refine fg_iandD (fg_ft (pc := 73) tb_Mo_bestPart 45 rfl) ?_
            refine fg_iloadn (fg_ft (pc := 74) tb_Mo_bestPart 46 rfl) rfl ?_
            refine fg_iload (fg_ft (pc := 75) tb_Mo_bestPart 47 rfl) rfl ?_
            refine fg_iconst (fg_ft (pc := 77) tb_Mo_bestPart 48 rfl) ic_m1 ?_
            refine fg_ixor (fg_ft (pc := 78) tb_Mo_bestPart 49 rfl) ?_
            refine fg_iandD (fg_ft (pc := 79) tb_Mo_bestPart 50 rfl) ?_
            refine fg_icmp_geN (tgt := 87) (fg_ft (pc := 80) tb_Mo_bestPart 51 rfl) (by decide) (fg_df_le31 (by omega)) (fg_df_le31 (by omega)) (fun c80 => ?_) (fun c80 => ?_)
            · refine fg_iconst (fg_ft (pc := 87) tb_Mo_bestPart 54 rfl) ic_0 ?_
              refine fg_istore (fg_ft (pc := 88) tb_Mo_bestPart 55 rfl) (Nat.le_of_ble_eq_true rfl) ?_
              refine fg_iload (fg_ft (pc := 90) tb_Mo_bestPart 56 rfl) rfl ?_
              refine fg_iload (fg_ft (pc := 92) tb_Mo_bestPart 57 rfl) rfl ?_
              refine fg_icmp_gtN (tgt := 102) (fg_ft (pc := 94) tb_Mo_bestPart 58 rfl) (by decide) (by omega) (by omega) (fun c94 => ?_) (fun c94 => ?_)
              · refine fg_iload (fg_ft (pc := 102) tb_Mo_bestPart 61 rfl) rfl ?_
                refine fg_istore (fg_ft (pc := 104) tb_Mo_bestPart 62 rfl) (Nat.le_of_ble_eq_true rfl) ?_
                refine fg_iload (fg_ft (pc := 106) tb_Mo_bestPart 63 rfl) rfl ?_
                refine fg_iload (fg_ft (pc := 108) tb_Mo_bestPart 64 rfl) rfl ?_
                refine fg_icmp_leN (tgt := 118) (fg_ft (pc := 110) tb_Mo_bestPart 65 rfl) (by decide) (by omega) (by omega) (fun c110 => ?_) (fun c110 => ?_)
                · refine fg_iload (fg_ft (pc := 118) tb_Mo_bestPart 68 rfl) rfl ?_
                  refine fg_istore (fg_ft (pc := 120) tb_Mo_bestPart 69 rfl) (Nat.le_of_ble_eq_true rfl) ?_
                  refine fg_iload (fg_ft (pc := 122) tb_Mo_bestPart 70 rfl) rfl ?_
                  refine fg_if_leN (tgt := 131) (fg_ft (pc := 124) tb_Mo_bestPart 71 rfl) (by decide) (by omega) (fun c124 => ?_) (fun c124 => ?_)
                  · refine fg_iconst (fg_ft (pc := 131) tb_Mo_bestPart 74 rfl) ic_0 ?_
                    refine fg_istore (fg_ft (pc := 132) tb_Mo_bestPart 75 rfl) (Nat.le_of_ble_eq_true rfl) ?_
                    refine fg_iload (fg_ft (pc := 134) tb_Mo_bestPart 76 rfl) rfl ?_
                    refine fg_iconst (fg_ft (pc := 136) tb_Mo_bestPart 77 rfl) ic_1 ?_
                    refine fg_isub (fg_ft (pc := 137) tb_Mo_bestPart 78 rfl) ?_
                    refine fg_iload (fg_ft (pc := 138) tb_Mo_bestPart 79 rfl) rfl ?_
                    refine fg_iand (fg_ft (pc := 140) tb_Mo_bestPart 80 rfl) ?_
                    refine fg_top fg_nx_I ?_
                    refine fg_istore (fg_ft (pc := 141) tb_Mo_bestPart 81 rfl) (Nat.le_of_ble_eq_true rfl) ?_
                    refine fg_goto (tgt := 30) (fg_ft (pc := 143) tb_Mo_bestPart 82 rfl) (by decide) ?_
                    first | (exfalso; omega) | (exact hz _ ((fg_bI2_s g0 g1 g2 g4 hp c42 (fg_df0.mp c51)).1 (by omega)) (by omega) _ _ _)
                  · refine fg_iconst (fg_ft (pc := 127) tb_Mo_bestPart 72 rfl) ic_1 ?_
                    refine fg_goto (tgt := 132) (fg_ft (pc := 128) tb_Mo_bestPart 73 rfl) (by decide) ?_
                    refine fg_istore (fg_ft (pc := 132) tb_Mo_bestPart 75 rfl) (Nat.le_of_ble_eq_true rfl) ?_
                    refine fg_iload (fg_ft (pc := 134) tb_Mo_bestPart 76 rfl) rfl ?_
                    refine fg_iconst (fg_ft (pc := 136) tb_Mo_bestPart 77 rfl) ic_1 ?_
                    refine fg_isub (fg_ft (pc := 137) tb_Mo_bestPart 78 rfl) ?_
                    refine fg_iload (fg_ft (pc := 138) tb_Mo_bestPart 79 rfl) rfl ?_
                    refine fg_iand (fg_ft (pc := 140) tb_Mo_bestPart 80 rfl) ?_
                    refine fg_top fg_nx_I ?_
                    refine fg_istore (fg_ft (pc := 141) tb_Mo_bestPart 81 rfl) (Nat.le_of_ble_eq_true rfl) ?_
                    refine fg_goto (tgt := 30) (fg_ft (pc := 143) tb_Mo_bestPart 82 rfl) (by decide) ?_
                    first | (exfalso; omega) | (exact hk _ ((fg_bI2_s g0 g1 g2 g4 hp c42 (fg_df0.mp c51)).1 (by omega)) (by omega) _ _)
                · refine fg_iload (fg_ft (pc := 113) tb_Mo_bestPart 66 rfl) rfl ?_
                  refine fg_goto (tgt := 120) (fg_ft (pc := 115) tb_Mo_bestPart 67 rfl) (by decide) ?_
                  refine fg_istore (fg_ft (pc := 120) tb_Mo_bestPart 69 rfl) (Nat.le_of_ble_eq_true rfl) ?_
                  refine fg_iload (fg_ft (pc := 122) tb_Mo_bestPart 70 rfl) rfl ?_
                  refine fg_if_leN (tgt := 131) (fg_ft (pc := 124) tb_Mo_bestPart 71 rfl) (by decide) (by omega) (fun c124 => ?_) (fun c124 => ?_)
                  · refine fg_iconst (fg_ft (pc := 131) tb_Mo_bestPart 74 rfl) ic_0 ?_
                    refine fg_istore (fg_ft (pc := 132) tb_Mo_bestPart 75 rfl) (Nat.le_of_ble_eq_true rfl) ?_
                    refine fg_iload (fg_ft (pc := 134) tb_Mo_bestPart 76 rfl) rfl ?_
                    refine fg_iconst (fg_ft (pc := 136) tb_Mo_bestPart 77 rfl) ic_1 ?_
                    refine fg_isub (fg_ft (pc := 137) tb_Mo_bestPart 78 rfl) ?_
                    refine fg_iload (fg_ft (pc := 138) tb_Mo_bestPart 79 rfl) rfl ?_
                    refine fg_iand (fg_ft (pc := 140) tb_Mo_bestPart 80 rfl) ?_
                    refine fg_top fg_nx_I ?_
                    refine fg_istore (fg_ft (pc := 141) tb_Mo_bestPart 81 rfl) (Nat.le_of_ble_eq_true rfl) ?_
                    refine fg_goto (tgt := 30) (fg_ft (pc := 143) tb_Mo_bestPart 82 rfl) (by decide) ?_
                    first | (exfalso; omega) | (exact hz _ ((fg_bI2_s g0 g1 g2 g4 hp c42 (fg_df0.mp c51)).1 (by omega)) (by omega) _ _ _)
                  · refine fg_iconst (fg_ft (pc := 127) tb_Mo_bestPart 72 rfl) ic_1 ?_
                    refine fg_goto (tgt := 132) (fg_ft (pc := 128) tb_Mo_bestPart 73 rfl) (by decide) ?_
                    refine fg_istore (fg_ft (pc := 132) tb_Mo_bestPart 75 rfl) (Nat.le_of_ble_eq_true rfl) ?_
                    refine fg_iload (fg_ft (pc := 134) tb_Mo_bestPart 76 rfl) rfl ?_
                    refine fg_iconst (fg_ft (pc := 136) tb_Mo_bestPart 77 rfl) ic_1 ?_
                    refine fg_isub (fg_ft (pc := 137) tb_Mo_bestPart 78 rfl) ?_
                    refine fg_iload (fg_ft (pc := 138) tb_Mo_bestPart 79 rfl) rfl ?_
                    refine fg_iand (fg_ft (pc := 140) tb_Mo_bestPart 80 rfl) ?_
                    refine fg_top fg_nx_I ?_
                    refine fg_istore (fg_ft (pc := 141) tb_Mo_bestPart 81 rfl) (Nat.le_of_ble_eq_true rfl) ?_
                    refine fg_goto (tgt := 30) (fg_ft (pc := 143) tb_Mo_bestPart 82 rfl) (by decide) ?_
                    first | (exfalso; omega) | (exact hk _ ((fg_bI2_s g0 g1 g2 g4 hp c42 (fg_df0.mp c51)).1 (by omega)) (by omega) _ _)
              · refine fg_iload (fg_ft (pc := 97) tb_Mo_bestPart 59 rfl) rfl ?_
                refine fg_if_eq (tgt := 106) (fg_ft (pc := 99) tb_Mo_bestPart 60 rfl) (by decide) (fun _ => ?_) (fun h => absurd h (by decide))
                refine fg_iload (fg_ft (pc := 106) tb_Mo_bestPart 63 rfl) rfl ?_
                refine fg_iload (fg_ft (pc := 108) tb_Mo_bestPart 64 rfl) rfl ?_
                refine fg_icmp_leN (tgt := 118) (fg_ft (pc := 110) tb_Mo_bestPart 65 rfl) (by decide) (by omega) (by omega) (fun c110 => ?_) (fun c110 => ?_)
                · refine fg_iload (fg_ft (pc := 118) tb_Mo_bestPart 68 rfl) rfl ?_
                  refine fg_istore (fg_ft (pc := 120) tb_Mo_bestPart 69 rfl) (Nat.le_of_ble_eq_true rfl) ?_
                  refine fg_iload (fg_ft (pc := 122) tb_Mo_bestPart 70 rfl) rfl ?_
                  refine fg_if_leN (tgt := 131) (fg_ft (pc := 124) tb_Mo_bestPart 71 rfl) (by decide) (by omega) (fun c124 => ?_) (fun c124 => ?_)
                  · refine fg_iconst (fg_ft (pc := 131) tb_Mo_bestPart 74 rfl) ic_0 ?_
                    refine fg_istore (fg_ft (pc := 132) tb_Mo_bestPart 75 rfl) (Nat.le_of_ble_eq_true rfl) ?_
                    refine fg_iload (fg_ft (pc := 134) tb_Mo_bestPart 76 rfl) rfl ?_
                    refine fg_iconst (fg_ft (pc := 136) tb_Mo_bestPart 77 rfl) ic_1 ?_
                    refine fg_isub (fg_ft (pc := 137) tb_Mo_bestPart 78 rfl) ?_
                    refine fg_iload (fg_ft (pc := 138) tb_Mo_bestPart 79 rfl) rfl ?_
                    refine fg_iand (fg_ft (pc := 140) tb_Mo_bestPart 80 rfl) ?_
                    refine fg_top fg_nx_I ?_
                    refine fg_istore (fg_ft (pc := 141) tb_Mo_bestPart 81 rfl) (Nat.le_of_ble_eq_true rfl) ?_
                    refine fg_goto (tgt := 30) (fg_ft (pc := 143) tb_Mo_bestPart 82 rfl) (by decide) ?_
                    first | (exfalso; omega) | (exact hz _ ((fg_bI2_s g0 g1 g2 g4 hp c42 (fg_df0.mp c51)).2 (by omega)) (by omega) _ _ _)
                  · refine fg_iconst (fg_ft (pc := 127) tb_Mo_bestPart 72 rfl) ic_1 ?_
                    refine fg_goto (tgt := 132) (fg_ft (pc := 128) tb_Mo_bestPart 73 rfl) (by decide) ?_
                    refine fg_istore (fg_ft (pc := 132) tb_Mo_bestPart 75 rfl) (Nat.le_of_ble_eq_true rfl) ?_
                    refine fg_iload (fg_ft (pc := 134) tb_Mo_bestPart 76 rfl) rfl ?_
                    refine fg_iconst (fg_ft (pc := 136) tb_Mo_bestPart 77 rfl) ic_1 ?_
                    refine fg_isub (fg_ft (pc := 137) tb_Mo_bestPart 78 rfl) ?_
                    refine fg_iload (fg_ft (pc := 138) tb_Mo_bestPart 79 rfl) rfl ?_
                    refine fg_iand (fg_ft (pc := 140) tb_Mo_bestPart 80 rfl) ?_
                    refine fg_top fg_nx_I ?_
                    refine fg_istore (fg_ft (pc := 141) tb_Mo_bestPart 81 rfl) (Nat.le_of_ble_eq_true rfl) ?_
                    refine fg_goto (tgt := 30) (fg_ft (pc := 143) tb_Mo_bestPart 82 rfl) (by decide) ?_
                    first | (exfalso; omega) | (exact hk _ ((fg_bI2_s g0 g1 g2 g4 hp c42 (fg_df0.mp c51)).2 (by omega)) (by omega) _ _)
                · refine fg_iload (fg_ft (pc := 113) tb_Mo_bestPart 66 rfl) rfl ?_
                  refine fg_goto (tgt := 120) (fg_ft (pc := 115) tb_Mo_bestPart 67 rfl) (by decide) ?_
                  refine fg_istore (fg_ft (pc := 120) tb_Mo_bestPart 69 rfl) (Nat.le_of_ble_eq_true rfl) ?_
                  refine fg_iload (fg_ft (pc := 122) tb_Mo_bestPart 70 rfl) rfl ?_
                  refine fg_if_leN (tgt := 131) (fg_ft (pc := 124) tb_Mo_bestPart 71 rfl) (by decide) (by omega) (fun c124 => ?_) (fun c124 => ?_)
                  · refine fg_iconst (fg_ft (pc := 131) tb_Mo_bestPart 74 rfl) ic_0 ?_
                    refine fg_istore (fg_ft (pc := 132) tb_Mo_bestPart 75 rfl) (Nat.le_of_ble_eq_true rfl) ?_
                    refine fg_iload (fg_ft (pc := 134) tb_Mo_bestPart 76 rfl) rfl ?_
                    refine fg_iconst (fg_ft (pc := 136) tb_Mo_bestPart 77 rfl) ic_1 ?_
                    refine fg_isub (fg_ft (pc := 137) tb_Mo_bestPart 78 rfl) ?_
                    refine fg_iload (fg_ft (pc := 138) tb_Mo_bestPart 79 rfl) rfl ?_
                    refine fg_iand (fg_ft (pc := 140) tb_Mo_bestPart 80 rfl) ?_
                    refine fg_top fg_nx_I ?_
                    refine fg_istore (fg_ft (pc := 141) tb_Mo_bestPart 81 rfl) (Nat.le_of_ble_eq_true rfl) ?_
                    refine fg_goto (tgt := 30) (fg_ft (pc := 143) tb_Mo_bestPart 82 rfl) (by decide) ?_
                    first | (exfalso; omega) | (exact hz _ ((fg_bI2_s g0 g1 g2 g4 hp c42 (fg_df0.mp c51)).2 (by omega)) (by omega) _ _ _)
                  · refine fg_iconst (fg_ft (pc := 127) tb_Mo_bestPart 72 rfl) ic_1 ?_
                    refine fg_goto (tgt := 132) (fg_ft (pc := 128) tb_Mo_bestPart 73 rfl) (by decide) ?_
                    refine fg_istore (fg_ft (pc := 132) tb_Mo_bestPart 75 rfl) (Nat.le_of_ble_eq_true rfl) ?_
                    refine fg_iload (fg_ft (pc := 134) tb_Mo_bestPart 76 rfl) rfl ?_
                    refine fg_iconst (fg_ft (pc := 136) tb_Mo_bestPart 77 rfl) ic_1 ?_
                    refine fg_isub (fg_ft (pc := 137) tb_Mo_bestPart 78 rfl) ?_
                    refine fg_iload (fg_ft (pc := 138) tb_Mo_bestPart 79 rfl) rfl ?_
                    refine fg_iand (fg_ft (pc := 140) tb_Mo_bestPart 80 rfl) ?_
                    refine fg_top fg_nx_I ?_
                    refine fg_istore (fg_ft (pc := 141) tb_Mo_bestPart 81 rfl) (Nat.le_of_ble_eq_true rfl) ?_
                    refine fg_goto (tgt := 30) (fg_ft (pc := 143) tb_Mo_bestPart 82 rfl) (by decide) ?_
                    first | (exfalso; omega) | (exact hk _ ((fg_bI2_s g0 g1 g2 g4 hp c42 (fg_df0.mp c51)).2 (by omega)) (by omega) _ _)
            · refine fg_iconst (fg_ft (pc := 83) tb_Mo_bestPart 52 rfl) ic_1 ?_
              refine fg_goto (tgt := 88) (fg_ft (pc := 84) tb_Mo_bestPart 53 rfl) (by decide) ?_
              refine fg_istore (fg_ft (pc := 88) tb_Mo_bestPart 55 rfl) (Nat.le_of_ble_eq_true rfl) ?_
              refine fg_iload (fg_ft (pc := 90) tb_Mo_bestPart 56 rfl) rfl ?_
              refine fg_iload (fg_ft (pc := 92) tb_Mo_bestPart 57 rfl) rfl ?_
              refine fg_icmp_gtN (tgt := 102) (fg_ft (pc := 94) tb_Mo_bestPart 58 rfl) (by decide) (by omega) (by omega) (fun c94 => ?_) (fun c94 => ?_)
              · refine fg_iload (fg_ft (pc := 102) tb_Mo_bestPart 61 rfl) rfl ?_
                refine fg_istore (fg_ft (pc := 104) tb_Mo_bestPart 62 rfl) (Nat.le_of_ble_eq_true rfl) ?_
                refine fg_iload (fg_ft (pc := 106) tb_Mo_bestPart 63 rfl) rfl ?_
                refine fg_iload (fg_ft (pc := 108) tb_Mo_bestPart 64 rfl) rfl ?_
                refine fg_icmp_leN (tgt := 118) (fg_ft (pc := 110) tb_Mo_bestPart 65 rfl) (by decide) (by omega) (by omega) (fun c110 => ?_) (fun c110 => ?_)
                · refine fg_iload (fg_ft (pc := 118) tb_Mo_bestPart 68 rfl) rfl ?_
                  refine fg_istore (fg_ft (pc := 120) tb_Mo_bestPart 69 rfl) (Nat.le_of_ble_eq_true rfl) ?_
                  refine fg_iload (fg_ft (pc := 122) tb_Mo_bestPart 70 rfl) rfl ?_
                  refine fg_if_leN (tgt := 131) (fg_ft (pc := 124) tb_Mo_bestPart 71 rfl) (by decide) (by omega) (fun c124 => ?_) (fun c124 => ?_)
                  · refine fg_iconst (fg_ft (pc := 131) tb_Mo_bestPart 74 rfl) ic_0 ?_
                    refine fg_istore (fg_ft (pc := 132) tb_Mo_bestPart 75 rfl) (Nat.le_of_ble_eq_true rfl) ?_
                    refine fg_iload (fg_ft (pc := 134) tb_Mo_bestPart 76 rfl) rfl ?_
                    refine fg_iconst (fg_ft (pc := 136) tb_Mo_bestPart 77 rfl) ic_1 ?_
                    refine fg_isub (fg_ft (pc := 137) tb_Mo_bestPart 78 rfl) ?_
                    refine fg_iload (fg_ft (pc := 138) tb_Mo_bestPart 79 rfl) rfl ?_
                    refine fg_iand (fg_ft (pc := 140) tb_Mo_bestPart 80 rfl) ?_
                    refine fg_top fg_nx_I ?_
                    refine fg_istore (fg_ft (pc := 141) tb_Mo_bestPart 81 rfl) (Nat.le_of_ble_eq_true rfl) ?_
                    refine fg_goto (tgt := 30) (fg_ft (pc := 143) tb_Mo_bestPart 82 rfl) (by decide) ?_
                    first | (exfalso; omega) | (exact hz _ ((fg_bI2_s g0 g1 g2 g4 hp c42 (fg_df0.mp c51)).1 (by omega)) (by omega) _ _ _)
                  · refine fg_iconst (fg_ft (pc := 127) tb_Mo_bestPart 72 rfl) ic_1 ?_
                    refine fg_goto (tgt := 132) (fg_ft (pc := 128) tb_Mo_bestPart 73 rfl) (by decide) ?_
                    refine fg_istore (fg_ft (pc := 132) tb_Mo_bestPart 75 rfl) (Nat.le_of_ble_eq_true rfl) ?_
                    refine fg_iload (fg_ft (pc := 134) tb_Mo_bestPart 76 rfl) rfl ?_
                    refine fg_iconst (fg_ft (pc := 136) tb_Mo_bestPart 77 rfl) ic_1 ?_
                    refine fg_isub (fg_ft (pc := 137) tb_Mo_bestPart 78 rfl) ?_
                    refine fg_iload (fg_ft (pc := 138) tb_Mo_bestPart 79 rfl) rfl ?_
                    refine fg_iand (fg_ft (pc := 140) tb_Mo_bestPart 80 rfl) ?_
                    refine fg_top fg_nx_I ?_
                    refine fg_istore (fg_ft (pc := 141) tb_Mo_bestPart 81 rfl) (Nat.le_of_ble_eq_true rfl) ?_
                    refine fg_goto (tgt := 30) (fg_ft (pc := 143) tb_Mo_bestPart 82 rfl) (by decide) ?_
                    first | (exfalso; omega) | (exact hk _ ((fg_bI2_s g0 g1 g2 g4 hp c42 (fg_df0.mp c51)).1 (by omega)) (by omega) _ _)
                · refine fg_iload (fg_ft (pc := 113) tb_Mo_bestPart 66 rfl) rfl ?_
                  refine fg_goto (tgt := 120) (fg_ft (pc := 115) tb_Mo_bestPart 67 rfl) (by decide) ?_
                  refine fg_istore (fg_ft (pc := 120) tb_Mo_bestPart 69 rfl) (Nat.le_of_ble_eq_true rfl) ?_
                  refine fg_iload (fg_ft (pc := 122) tb_Mo_bestPart 70 rfl) rfl ?_
                  refine fg_if_leN (tgt := 131) (fg_ft (pc := 124) tb_Mo_bestPart 71 rfl) (by decide) (by omega) (fun c124 => ?_) (fun c124 => ?_)
                  · refine fg_iconst (fg_ft (pc := 131) tb_Mo_bestPart 74 rfl) ic_0 ?_
                    refine fg_istore (fg_ft (pc := 132) tb_Mo_bestPart 75 rfl) (Nat.le_of_ble_eq_true rfl) ?_
                    refine fg_iload (fg_ft (pc := 134) tb_Mo_bestPart 76 rfl) rfl ?_
                    refine fg_iconst (fg_ft (pc := 136) tb_Mo_bestPart 77 rfl) ic_1 ?_
                    refine fg_isub (fg_ft (pc := 137) tb_Mo_bestPart 78 rfl) ?_
                    refine fg_iload (fg_ft (pc := 138) tb_Mo_bestPart 79 rfl) rfl ?_
                    refine fg_iand (fg_ft (pc := 140) tb_Mo_bestPart 80 rfl) ?_
                    refine fg_top fg_nx_I ?_
                    refine fg_istore (fg_ft (pc := 141) tb_Mo_bestPart 81 rfl) (Nat.le_of_ble_eq_true rfl) ?_
                    refine fg_goto (tgt := 30) (fg_ft (pc := 143) tb_Mo_bestPart 82 rfl) (by decide) ?_
                    first | (exfalso; omega) | (exact hz _ ((fg_bI2_s g0 g1 g2 g4 hp c42 (fg_df0.mp c51)).1 (by omega)) (by omega) _ _ _)
                  · refine fg_iconst (fg_ft (pc := 127) tb_Mo_bestPart 72 rfl) ic_1 ?_
                    refine fg_goto (tgt := 132) (fg_ft (pc := 128) tb_Mo_bestPart 73 rfl) (by decide) ?_
                    refine fg_istore (fg_ft (pc := 132) tb_Mo_bestPart 75 rfl) (Nat.le_of_ble_eq_true rfl) ?_
                    refine fg_iload (fg_ft (pc := 134) tb_Mo_bestPart 76 rfl) rfl ?_
                    refine fg_iconst (fg_ft (pc := 136) tb_Mo_bestPart 77 rfl) ic_1 ?_
                    refine fg_isub (fg_ft (pc := 137) tb_Mo_bestPart 78 rfl) ?_
                    refine fg_iload (fg_ft (pc := 138) tb_Mo_bestPart 79 rfl) rfl ?_
                    refine fg_iand (fg_ft (pc := 140) tb_Mo_bestPart 80 rfl) ?_
                    refine fg_top fg_nx_I ?_
                    refine fg_istore (fg_ft (pc := 141) tb_Mo_bestPart 81 rfl) (Nat.le_of_ble_eq_true rfl) ?_
                    refine fg_goto (tgt := 30) (fg_ft (pc := 143) tb_Mo_bestPart 82 rfl) (by decide) ?_
                    first | (exfalso; omega) | (exact hk _ ((fg_bI2_s g0 g1 g2 g4 hp c42 (fg_df0.mp c51)).1 (by omega)) (by omega) _ _)
              · refine fg_iload (fg_ft (pc := 97) tb_Mo_bestPart 59 rfl) rfl ?_
                refine fg_if_eq (tgt := 106) (fg_ft (pc := 99) tb_Mo_bestPart 60 rfl) (by decide) (fun h => absurd h (by decide)) (fun _ => ?_)
                refine fg_iload (fg_ft (pc := 102) tb_Mo_bestPart 61 rfl) rfl ?_
                refine fg_istore (fg_ft (pc := 104) tb_Mo_bestPart 62 rfl) (Nat.le_of_ble_eq_true rfl) ?_
                refine fg_iload (fg_ft (pc := 106) tb_Mo_bestPart 63 rfl) rfl ?_
                refine fg_iload (fg_ft (pc := 108) tb_Mo_bestPart 64 rfl) rfl ?_
                refine fg_icmp_leN (tgt := 118) (fg_ft (pc := 110) tb_Mo_bestPart 65 rfl) (by decide) (by omega) (by omega) (fun c110 => ?_) (fun c110 => ?_)
                · refine fg_iload (fg_ft (pc := 118) tb_Mo_bestPart 68 rfl) rfl ?_
                  refine fg_istore (fg_ft (pc := 120) tb_Mo_bestPart 69 rfl) (Nat.le_of_ble_eq_true rfl) ?_
                  refine fg_iload (fg_ft (pc := 122) tb_Mo_bestPart 70 rfl) rfl ?_
                  refine fg_if_leN (tgt := 131) (fg_ft (pc := 124) tb_Mo_bestPart 71 rfl) (by decide) (by omega) (fun c124 => ?_) (fun c124 => ?_)
                  · refine fg_iconst (fg_ft (pc := 131) tb_Mo_bestPart 74 rfl) ic_0 ?_
                    refine fg_istore (fg_ft (pc := 132) tb_Mo_bestPart 75 rfl) (Nat.le_of_ble_eq_true rfl) ?_
                    refine fg_iload (fg_ft (pc := 134) tb_Mo_bestPart 76 rfl) rfl ?_
                    refine fg_iconst (fg_ft (pc := 136) tb_Mo_bestPart 77 rfl) ic_1 ?_
                    refine fg_isub (fg_ft (pc := 137) tb_Mo_bestPart 78 rfl) ?_
                    refine fg_iload (fg_ft (pc := 138) tb_Mo_bestPart 79 rfl) rfl ?_
                    refine fg_iand (fg_ft (pc := 140) tb_Mo_bestPart 80 rfl) ?_
                    refine fg_top fg_nx_I ?_
                    refine fg_istore (fg_ft (pc := 141) tb_Mo_bestPart 81 rfl) (Nat.le_of_ble_eq_true rfl) ?_
                    refine fg_goto (tgt := 30) (fg_ft (pc := 143) tb_Mo_bestPart 82 rfl) (by decide) ?_
                    first | (exfalso; omega) | (exact hz _ ((fg_bI2_s g0 g1 g2 g4 hp c42 (fg_df0.mp c51)).1 (by omega)) (by omega) _ _ _)
                  · refine fg_iconst (fg_ft (pc := 127) tb_Mo_bestPart 72 rfl) ic_1 ?_
                    refine fg_goto (tgt := 132) (fg_ft (pc := 128) tb_Mo_bestPart 73 rfl) (by decide) ?_
                    refine fg_istore (fg_ft (pc := 132) tb_Mo_bestPart 75 rfl) (Nat.le_of_ble_eq_true rfl) ?_
                    refine fg_iload (fg_ft (pc := 134) tb_Mo_bestPart 76 rfl) rfl ?_
                    refine fg_iconst (fg_ft (pc := 136) tb_Mo_bestPart 77 rfl) ic_1 ?_
                    refine fg_isub (fg_ft (pc := 137) tb_Mo_bestPart 78 rfl) ?_
                    refine fg_iload (fg_ft (pc := 138) tb_Mo_bestPart 79 rfl) rfl ?_
                    refine fg_iand (fg_ft (pc := 140) tb_Mo_bestPart 80 rfl) ?_
                    refine fg_top fg_nx_I ?_
                    refine fg_istore (fg_ft (pc := 141) tb_Mo_bestPart 81 rfl) (Nat.le_of_ble_eq_true rfl) ?_
                    refine fg_goto (tgt := 30) (fg_ft (pc := 143) tb_Mo_bestPart 82 rfl) (by decide) ?_
                    first | (exfalso; omega) | (exact hk _ ((fg_bI2_s g0 g1 g2 g4 hp c42 (fg_df0.mp c51)).1 (by omega)) (by omega) _ _)
                · refine fg_iload (fg_ft (pc := 113) tb_Mo_bestPart 66 rfl) rfl ?_
                  refine fg_goto (tgt := 120) (fg_ft (pc := 115) tb_Mo_bestPart 67 rfl) (by decide) ?_
                  refine fg_istore (fg_ft (pc := 120) tb_Mo_bestPart 69 rfl) (Nat.le_of_ble_eq_true rfl) ?_
                  refine fg_iload (fg_ft (pc := 122) tb_Mo_bestPart 70 rfl) rfl ?_
                  refine fg_if_leN (tgt := 131) (fg_ft (pc := 124) tb_Mo_bestPart 71 rfl) (by decide) (by omega) (fun c124 => ?_) (fun c124 => ?_)
                  · refine fg_iconst (fg_ft (pc := 131) tb_Mo_bestPart 74 rfl) ic_0 ?_
                    refine fg_istore (fg_ft (pc := 132) tb_Mo_bestPart 75 rfl) (Nat.le_of_ble_eq_true rfl) ?_
                    refine fg_iload (fg_ft (pc := 134) tb_Mo_bestPart 76 rfl) rfl ?_
                    refine fg_iconst (fg_ft (pc := 136) tb_Mo_bestPart 77 rfl) ic_1 ?_
                    refine fg_isub (fg_ft (pc := 137) tb_Mo_bestPart 78 rfl) ?_
                    refine fg_iload (fg_ft (pc := 138) tb_Mo_bestPart 79 rfl) rfl ?_
                    refine fg_iand (fg_ft (pc := 140) tb_Mo_bestPart 80 rfl) ?_
                    refine fg_top fg_nx_I ?_
                    refine fg_istore (fg_ft (pc := 141) tb_Mo_bestPart 81 rfl) (Nat.le_of_ble_eq_true rfl) ?_
                    refine fg_goto (tgt := 30) (fg_ft (pc := 143) tb_Mo_bestPart 82 rfl) (by decide) ?_
                    first | (exfalso; omega) | (exact hz _ ((fg_bI2_s g0 g1 g2 g4 hp c42 (fg_df0.mp c51)).1 (by omega)) (by omega) _ _ _)
                  · refine fg_iconst (fg_ft (pc := 127) tb_Mo_bestPart 72 rfl) ic_1 ?_
                    refine fg_goto (tgt := 132) (fg_ft (pc := 128) tb_Mo_bestPart 73 rfl) (by decide) ?_
                    refine fg_istore (fg_ft (pc := 132) tb_Mo_bestPart 75 rfl) (Nat.le_of_ble_eq_true rfl) ?_
                    refine fg_iload (fg_ft (pc := 134) tb_Mo_bestPart 76 rfl) rfl ?_
                    refine fg_iconst (fg_ft (pc := 136) tb_Mo_bestPart 77 rfl) ic_1 ?_
                    refine fg_isub (fg_ft (pc := 137) tb_Mo_bestPart 78 rfl) ?_
                    refine fg_iload (fg_ft (pc := 138) tb_Mo_bestPart 79 rfl) rfl ?_
                    refine fg_iand (fg_ft (pc := 140) tb_Mo_bestPart 80 rfl) ?_
                    refine fg_top fg_nx_I ?_
                    refine fg_istore (fg_ft (pc := 141) tb_Mo_bestPart 81 rfl) (Nat.le_of_ble_eq_true rfl) ?_
                    refine fg_goto (tgt := 30) (fg_ft (pc := 143) tb_Mo_bestPart 82 rfl) (by decide) ?_
                    first | (exfalso; omega) | (exact hk _ ((fg_bI2_s g0 g1 g2 g4 hp c42 (fg_df0.mp c51)).1 (by omega)) (by omega) _ _)
      · skip
        refine fg_iload (fg_ft (pc := 30) tb_Mo_bestPart 22 rfl) rfl ?_
        refine fg_if_eq (tgt := 146) (fg_ft (pc := 32) tb_Mo_bestPart 23 rfl) (by decide) (fun h => absurd h (by decide)) (fun _ => ?_)
        refine fg_aloadn (fg_ft (pc := 35) tb_Mo_bestPart 24 rfl) rfl ?_
        refine fg_getR (fg_ft (pc := 36) tb_Mo_bestPart 25 rfl) ff_Mo_20 ly_287 rfl (fg_lt ly_287 (by decide)) (rh_287_11 R) ?_
        refine fg_iload (fg_ft (pc := 39) tb_Mo_bestPart 26 rfl) rfl ?_
        refine fg_zaldV (v := (fg_bI (fg_clsd T part))) (fg_ft (pc := 41) tb_Mo_bestPart 27 rfl) ly_291 (fg_lt ly_291 (by decide)) (by omega) (hC part (hp0)) ?_
        refine fg_ifB_eq (tgt := 122) (fg_ft (pc := 42) tb_Mo_bestPart 28 rfl) (by decide) (fun c42 => ?_) (fun c42 => ?_)
        · refine fg_iload (fg_ft (pc := 122) tb_Mo_bestPart 70 rfl) rfl ?_
          refine fg_if_leN (tgt := 131) (fg_ft (pc := 124) tb_Mo_bestPart 71 rfl) (by decide) (by omega) (fun c124 => ?_) (fun c124 => ?_)
          · refine fg_iconst (fg_ft (pc := 131) tb_Mo_bestPart 74 rfl) ic_0 ?_
            refine fg_istore (fg_ft (pc := 132) tb_Mo_bestPart 75 rfl) (Nat.le_of_ble_eq_true rfl) ?_
            refine fg_iload (fg_ft (pc := 134) tb_Mo_bestPart 76 rfl) rfl ?_
            refine fg_iconst (fg_ft (pc := 136) tb_Mo_bestPart 77 rfl) ic_1 ?_
            refine fg_isub (fg_ft (pc := 137) tb_Mo_bestPart 78 rfl) ?_
            refine fg_iload (fg_ft (pc := 138) tb_Mo_bestPart 79 rfl) rfl ?_
            refine fg_iand (fg_ft (pc := 140) tb_Mo_bestPart 80 rfl) ?_
            refine fg_top fg_nx_I ?_
            refine fg_istore (fg_ft (pc := 141) tb_Mo_bestPart 81 rfl) (Nat.le_of_ble_eq_true rfl) ?_
            refine fg_goto (tgt := 30) (fg_ft (pc := 143) tb_Mo_bestPart 82 rfl) (by decide) ?_
            first | (exfalso; omega) | (exact hz _ (fg_bI2_0 hI (fun hh => by first | exact c42 hh.1 | exact c51 (fg_df0.mpr hh.2))) (by omega) _ _ _)
          · refine fg_iconst (fg_ft (pc := 127) tb_Mo_bestPart 72 rfl) ic_1 ?_
            refine fg_goto (tgt := 132) (fg_ft (pc := 128) tb_Mo_bestPart 73 rfl) (by decide) ?_
            refine fg_istore (fg_ft (pc := 132) tb_Mo_bestPart 75 rfl) (Nat.le_of_ble_eq_true rfl) ?_
            refine fg_iload (fg_ft (pc := 134) tb_Mo_bestPart 76 rfl) rfl ?_
            refine fg_iconst (fg_ft (pc := 136) tb_Mo_bestPart 77 rfl) ic_1 ?_
            refine fg_isub (fg_ft (pc := 137) tb_Mo_bestPart 78 rfl) ?_
            refine fg_iload (fg_ft (pc := 138) tb_Mo_bestPart 79 rfl) rfl ?_
            refine fg_iand (fg_ft (pc := 140) tb_Mo_bestPart 80 rfl) ?_
            refine fg_top fg_nx_I ?_
            refine fg_istore (fg_ft (pc := 141) tb_Mo_bestPart 81 rfl) (Nat.le_of_ble_eq_true rfl) ?_
            refine fg_goto (tgt := 30) (fg_ft (pc := 143) tb_Mo_bestPart 82 rfl) (by decide) ?_
            first | (exfalso; omega) | (exact hk _ (fg_bI2_0 hI (fun hh => by first | exact c42 hh.1 | exact c51 (fg_df0.mpr hh.2))) (by omega) _ _)
        · refine fg_iloadn (fg_ft (pc := 45) tb_Mo_bestPart 29 rfl) rfl ?_
          refine fg_iload (fg_ft (pc := 46) tb_Mo_bestPart 30 rfl) rfl ?_
          refine fg_iconst (fg_ft (pc := 48) tb_Mo_bestPart 31 rfl) ic_m1 ?_
          refine fg_ixor (fg_ft (pc := 49) tb_Mo_bestPart 32 rfl) ?_
          refine fg_iandD (fg_ft (pc := 50) tb_Mo_bestPart 33 rfl) ?_
          refine fg_if_neN (tgt := 122) (fg_ft (pc := 51) tb_Mo_bestPart 34 rfl) (by decide) (fg_df_le31 (by omega)) (fun c51 => ?_) (fun c51 => (absurd ⟨c42, fg_df0.mp c51⟩ hcc))
          refine fg_iload (fg_ft (pc := 122) tb_Mo_bestPart 70 rfl) rfl ?_
          refine fg_if_leN (tgt := 131) (fg_ft (pc := 124) tb_Mo_bestPart 71 rfl) (by decide) (by omega) (fun c124 => ?_) (fun c124 => ?_)
          · refine fg_iconst (fg_ft (pc := 131) tb_Mo_bestPart 74 rfl) ic_0 ?_
            refine fg_istore (fg_ft (pc := 132) tb_Mo_bestPart 75 rfl) (Nat.le_of_ble_eq_true rfl) ?_
            refine fg_iload (fg_ft (pc := 134) tb_Mo_bestPart 76 rfl) rfl ?_
            refine fg_iconst (fg_ft (pc := 136) tb_Mo_bestPart 77 rfl) ic_1 ?_
            refine fg_isub (fg_ft (pc := 137) tb_Mo_bestPart 78 rfl) ?_
            refine fg_iload (fg_ft (pc := 138) tb_Mo_bestPart 79 rfl) rfl ?_
            refine fg_iand (fg_ft (pc := 140) tb_Mo_bestPart 80 rfl) ?_
            refine fg_top fg_nx_I ?_
            refine fg_istore (fg_ft (pc := 141) tb_Mo_bestPart 81 rfl) (Nat.le_of_ble_eq_true rfl) ?_
            refine fg_goto (tgt := 30) (fg_ft (pc := 143) tb_Mo_bestPart 82 rfl) (by decide) ?_
            first | (exfalso; omega) | (exact hz _ (fg_bI2_0 hI (fun hh => by first | exact c42 hh.1 | exact c51 (fg_df0.mpr hh.2))) (by omega) _ _ _)
          · refine fg_iconst (fg_ft (pc := 127) tb_Mo_bestPart 72 rfl) ic_1 ?_
            refine fg_goto (tgt := 132) (fg_ft (pc := 128) tb_Mo_bestPart 73 rfl) (by decide) ?_
            refine fg_istore (fg_ft (pc := 132) tb_Mo_bestPart 75 rfl) (Nat.le_of_ble_eq_true rfl) ?_
            refine fg_iload (fg_ft (pc := 134) tb_Mo_bestPart 76 rfl) rfl ?_
            refine fg_iconst (fg_ft (pc := 136) tb_Mo_bestPart 77 rfl) ic_1 ?_
            refine fg_isub (fg_ft (pc := 137) tb_Mo_bestPart 78 rfl) ?_
            refine fg_iload (fg_ft (pc := 138) tb_Mo_bestPart 79 rfl) rfl ?_
            refine fg_iand (fg_ft (pc := 140) tb_Mo_bestPart 80 rfl) ?_
            refine fg_top fg_nx_I ?_
            refine fg_istore (fg_ft (pc := 141) tb_Mo_bestPart 81 rfl) (Nat.le_of_ble_eq_true rfl) ?_
            refine fg_goto (tgt := 30) (fg_ft (pc := 143) tb_Mo_bestPart 82 rfl) (by decide) ?_
            first | (exfalso; omega) | (exact hk _ (fg_bI2_0 hI (fun hh => by first | exact c42 hh.1 | exact c51 (fg_df0.mpr hh.2))) (by omega) _ _)
  · refine fg_iconst (fg_ft (pc := 11) tb_Mo_bestPart 8 rfl) ic_m1 ?_
    exact fg_iret (fg_ft (pc := 12) tb_Mo_bestPart 9 rfl) rfl rfl (by rw [fg_bst_of (r := none) (fun p hp => c8 (fg_df0.mpr (fg_le_tr (fg_okp_iff.mp hp).2.2 (fg_le_tr (fg_okp_iff.mp hp).1 (fg_df_le _ _)))))] at hQ; exact hQ)
