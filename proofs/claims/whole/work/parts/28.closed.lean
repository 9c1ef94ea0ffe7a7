/-! what is left is closed -/
noncomputable def fg_mkb (p : Nat → Prop) : Nat → Nat
  | 0 => 0
  | n + 1 => fg_mkb p n + (@ite _ (p n) (Classical.propDecidable _) 1 0) * 2 ^ n
theorem fg_mkb_lt (p : Nat → Prop) : ∀ n, fg_mkb p n < 2 ^ n := by
  intro n
  induction n with
  | zero => exact Nat.one_pos
  | succ n ih =>
    show fg_mkb p n + _ * 2 ^ n < _
    rw [Nat.pow_succ]
    rcases Classical.em (p n) with h | h
    · rw [if_pos h]; omega
    · rw [if_neg h]; omega
theorem fg_mkb_bit (p : Nat → Prop) : ∀ n i, (fg_mkb p n).testBit i = true ↔ i < n ∧ p i := by
  intro n
  induction n with
  | zero =>
    intro i
    show (0 : Nat).testBit i = true ↔ _
    rw [Nat.zero_testBit]
    exact ⟨fun h => (by cases h), fun h => absurd h.1 (Nat.not_lt_zero _)⟩
  | succ n ih =>
    intro i
    have hl := fg_mkb_lt p n
    have e : fg_mkb p (n + 1) = 2 ^ n * (@ite _ (p n) (Classical.propDecidable _) 1 0) + fg_mkb p n := by
      show fg_mkb p n + _ * 2 ^ n = _
      rw [Nat.mul_comm, Nat.add_comm]
    rw [e, Nat.testBit_two_pow_mul_add _ hl]
    rcases Nat.lt_trichotomy i n with h | h | h
    · rw [if_pos h, ih]
      exact ⟨fun g => ⟨by omega, g.2⟩, fun g => ⟨h, g.2⟩⟩
    · rw [if_neg (by omega), show i - n = 0 by omega]
      subst h
      rcases Classical.em (p i) with g | g
      · rw [if_pos g]; exact ⟨fun _ => ⟨by omega, g⟩, fun _ => by decide⟩
      · rw [if_neg g]; exact ⟨fun z => absurd z (by decide), fun z => absurd z.2 g⟩
    · rw [if_neg (by omega)]
      have : (@ite Nat (p n) (Classical.propDecidable _) 1 0).testBit (i - n) = false := by
        apply Nat.testBit_lt_two_pow
        have h1 : 2 ^ 1 ≤ 2 ^ (i - n) := Nat.pow_le_pow_right (by decide) (by omega)
        rcases Classical.em (p n) with g | g
        · rw [if_pos g]; omega
        · rw [if_neg g]; omega
      rw [this]
      exact ⟨fun z => (by cases z), fun z => absurd z.1 (by omega)⟩
theorem fg_wg_is {T : Nat → Nat} (hok : fg_ok T) {mind fact : Nat} (hf : fact < T 0) : fg_IsW T mind fact (fg_wg T mind fact) := by
  have hx : fg_IsW T mind fact (fg_mkb (fun i => ∀ g', g'.testBit fact = true → (∀ r, r < T 1 → fg_wsat T mind r g') → g'.testBit i = true) (T 0)) := by
    refine ⟨(fg_mkb_bit _ _ _).mpr ⟨hf, fun g' h _ => h⟩, fun r hr hh hb i hi => ?_, fun g' h1 h2 i hi => ((fg_mkb_bit _ _ _).mp hi).2 g' h1 h2⟩
    have h3 := ((fg_mkb_bit _ _ _).mp hh).2
    exact (fg_mkb_bit _ _ _).mpr ⟨fg_bit_lt (hok.2.2.1 r hr).2.1 hi, fun g' h1 h2 => h2 r hr (h3 g' h1 h2) hb i hi⟩
  rw [fg_wg_of hx]
  exact hx
theorem fg_bit_ex {n : Nat} (h : n ≠ 0) : ∃ i, n.testBit i = true := by
  refine Classical.byContradiction fun hn => h ?_
  apply Nat.eq_of_testBit_eq
  intro i
  rw [Nat.zero_testBit]
  cases hb : n.testBit i with
  | false => rfl
  | true => exact absurd ⟨i, hb⟩ hn
theorem fg_fw_clsd {T : Nat → Nat} (hok : fg_ok T) {mind fact : Nat} (hf : fact < T 0) (hc : fg_clsd T mind) : fg_clsd T (fg_fw T mind fact) := by
  intro r hr hb
  have hw := fg_wg_is hok (mind := mind) hf
  have hbm : fg_le (T (9 + 2 * r)) mind := fg_le_tr hb (fg_df_le _ _)
  have h1 := hc r hr hbm
  show (fg_df mind (fg_wg T mind fact)).testBit _ = true
  rw [fg_df_bit, h1]
  cases hg : (fg_wg T mind fact).testBit (T (8 + 2 * r)) with
  | false => rfl
  | true =>
    exfalso
    obtain ⟨i, hi⟩ := fg_bit_ex (hok.2.2.1 r hr).2.2
    have h2 := hw.2.1 r hr hg hbm i hi
    have h3 := hb i hi
    have h4 : (fg_df mind (fg_wg T mind fact)).testBit i = true := h3
    rw [fg_df_bit, h2] at h4
    simp at h4
theorem fg_lfr_some {T : Nat → Nat} {mind left : Nat} : ∀ n, fg_lfr T mind left n ≠ 0 → fg_le (fg_lfr T mind left n) left := by
  intro n
  induction n with
  | zero => intro h; exact absurd rfl h
  | succ n ih =>
    intro h
    simp only [fg_lfr] at h ⊢
    by_cases h1 : fg_lfr T mind left n = 0
    · rw [if_pos h1] at h ⊢
      by_cases h2 : (fg_df mind left).testBit (T (8 + 2 * n)) = true ∧ fg_df (T (9 + 2 * n)) left = 0
      · rw [if_pos h2]; exact fg_df0.mp h2.2
      · rw [if_neg h2] at h; exact absurd rfl h
    · rw [if_neg h1]; exact ih h1
theorem fg_lfr_none {T : Nat → Nat} (hok : fg_ok T) {mind left : Nat} : ∀ n, n ≤ T 1 → fg_lfr T mind left n = 0 → ∀ r, r < n → ¬ ((fg_df mind left).testBit (T (8 + 2 * r)) = true ∧ fg_df (T (9 + 2 * r)) left = 0) := by
  intro n
  induction n with
  | zero => intro _ _ r hr; exact absurd hr (Nat.not_lt_zero _)
  | succ n ih =>
    intro hn h r hr hc
    simp only [fg_lfr] at h
    by_cases h1 : fg_lfr T mind left n = 0
    · rw [if_pos h1] at h
      rcases Nat.lt_or_ge r n with h2 | h2
      · exact ih (by omega) h1 r h2 hc
      · rw [show r = n by omega] at hc
        rw [if_pos hc] at h
        exact (hok.2.2.1 n (by omega)).2.2 h
    · rw [if_neg h1] at h; exact h1 h
theorem fg_tp_bit {s : Nat} (hs : s ≠ 0) : ∀ n, s < 2 ^ n → ∃ i, i < n ∧ fg_tp s n = 2 ^ i ∧ s.testBit i = true := by
  intro n
  induction n with
  | zero => intro h; exact absurd (Nat.lt_one_iff.mp h) hs
  | succ n ih =>
    intro h
    simp only [fg_tp]
    cases hb : s.testBit n with
    | true => exact ⟨n, by omega, if_pos rfl, hb⟩
    | false =>
      rw [if_neg (by decide)]
      have h1 : s < 2 ^ n := by
        apply Nat.lt_pow_two_of_testBit
        intro i hi
        rcases Nat.lt_or_ge n i with h2 | h2
        · exact Nat.testBit_lt_two_pow (Nat.lt_of_lt_of_le h (Nat.pow_le_pow_right (by decide) h2))
        · rw [show i = n by omega]; exact hb
      obtain ⟨i, h2, h3, h4⟩ := ih h1
      exact ⟨i, by omega, h3, h4⟩
theorem fg_ls_pc {T : Nat → Nat} (hok : fg_ok T) {mind left : Nat} (hl : left < 2 ^ T 0) : fg_lfr T mind left (T 1) = 0 ∨ fg_pc (fg_ls T mind left) < fg_pc left := by
  rcases Nat.decEq (fg_lfr T mind left (T 1)) 0 with h | h
  · right
    have hp := hok.p
    have h1 := fg_lfr_lt hok (mind := mind) (left := left) (T 1) (Nat.le_refl _)
    obtain ⟨i, h2, h3, h4⟩ := fg_tp_bit h 10 (by omega)
    have h5 := fg_lfr_some (T 1) h i h4
    refine fg_pc_lt2 (fg_df_le _ _) (by omega) fun he => ?_
    have h6 : (fg_ls T mind left).testBit i = true := by rw [he]; exact h5
    unfold fg_ls at h6
    rw [h3, fg_df_bit, Nat.testBit_two_pow_self] at h6
    simp at h6
  · exact Or.inl h
theorem fg_ls_fix {T : Nat → Nat} {mind left : Nat} (h : fg_lfr T mind left (T 1) = 0) : fg_ls T mind left = left := by
  unfold fg_ls
  rw [h]
  apply Nat.eq_of_testBit_eq
  intro i
  have : fg_tp 0 10 = 0 := by decide
  rw [this, fg_df_bit, Nat.zero_testBit]
  simp
theorem fg_lsn_end {T : Nat → Nat} (hok : fg_ok T) {mind : Nat} : ∀ n l, l < 2 ^ T 0 → fg_pc l ≤ n → fg_lfr T mind (fg_lsn T mind n l) (T 1) = 0 := by
  intro n
  induction n with
  | zero =>
    intro l hl hp
    rcases fg_ls_pc hok (mind := mind) hl with h | h
    · exact h
    · omega
  | succ n ih =>
    intro l hl hp
    show fg_lfr T mind (fg_lsn T mind n (fg_ls T mind l)) (T 1) = 0
    rcases fg_ls_pc hok (mind := mind) hl with h | h
    · rw [fg_ls_fix h]
      have : ∀ k, fg_lsn T mind k l = l := by
        intro k
        induction k with
        | zero => rfl
        | succ k ik => show fg_lsn T mind k (fg_ls T mind l) = l; rw [fg_ls_fix h, ik]
      rw [this n]
      exact h
    · exact ih _ (fg_ls_lt hl) (by omega)
theorem fg_fl_end {T : Nat → Nat} (hok : fg_ok T) {mind fact : Nat} (hm : mind < 2 ^ T 0) : fg_lfr T mind (fg_fl T mind fact) (T 1) = 0 := by
  refine fg_lsn_end hok 10 _ (fg_df_lt hm) ?_
  have h1 : fg_df mind (2 ^ fact) < 2 ^ 10 := by
    have h2 : fg_df mind (2 ^ fact) < 2 ^ T 0 := fg_df_lt hm
    have hp := hok.p
    omega
  exact fg_pc10 h1
theorem fg_fl_clsd {T : Nat → Nat} (hok : fg_ok T) {mind fact : Nat} (hm : mind < 2 ^ T 0) (hc : fg_clsd T mind) : fg_clsd T (fg_fl T mind fact) := by
  intro r hr hb
  have hle : fg_le (fg_fl T mind fact) mind := fg_le_tr (fg_lsn_le _ _) (fg_df_le _ _)
  have h1 := hc r hr (fg_le_tr hb hle)
  have h2 := fg_lfr_none hok (mind := mind) (T 1) (Nat.le_refl _) (fg_fl_end hok (fact := fact) hm) r hr
  cases hg : (fg_fl T mind fact).testBit (T (8 + 2 * r)) with
  | true => rfl
  | false => exact absurd ⟨by rw [fg_df_bit, h1, hg]; rfl, fg_df0.mpr hb⟩ h2
theorem fg_fgt_clsd {T : Nat → Nat} (hok : fg_ok T) {mind fact kind : Nat} (hm : mind < 2 ^ T 0) (hc : fg_clsd T mind) : fg_clsd T (fg_fgt T mind fact kind) := by
  unfold fg_fgt
  by_cases h1 : mind.testBit fact = true
  · rw [if_pos h1]
    have hf : fact < T 0 := fg_bit_lt hm h1
    by_cases h2 : kind = 1
    · rw [if_pos h2]; exact (fg_lst_some hok mind fact).2.2.2.2
    · rw [if_neg h2]
      by_cases h3 : kind = 2
      · rw [if_pos h3]; exact fg_fl_clsd hok hm hc
      · rw [if_neg h3]; exact fg_fw_clsd hok hf hc
  · rw [if_neg h1]; exact hc
