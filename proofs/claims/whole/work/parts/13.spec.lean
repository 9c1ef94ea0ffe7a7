/-! ===== what a town is: 152 naturals as they are told (facts, how many of each, price, then rules, people, signs, meetings, skills, hurts) ===== -/
/-- a is a part of b -/
def fg_le (a b : Nat) : Prop := ∀ i, a.testBit i = true → b.testBit i = true
theorem fg_le_rf (a : Nat) : fg_le a a := fun _ h => h
theorem fg_le_tr {a b c : Nat} (h1 : fg_le a b) (h2 : fg_le b c) : fg_le a c := fun i h => h2 i (h1 i h)
theorem fg_le_as {a b : Nat} (h1 : fg_le a b) (h2 : fg_le b a) : a = b := by
  apply Nat.eq_of_testBit_eq
  intro i
  have a1 := h1 i
  have a2 := h2 i
  cases ha : a.testBit i <;> cases hb : b.testBit i <;> simp_all
theorem fg_df0 {a b : Nat} : fg_df a b = 0 ↔ fg_le a b := by
  constructor
  · intro h i hi
    have h1 := fg_df_bit a b i
    rw [h, Nat.zero_testBit, hi] at h1
    cases hb : b.testBit i
    · rw [hb] at h1; cases h1
    · rfl
  · intro h
    apply Nat.eq_of_testBit_eq
    intro i
    rw [fg_df_bit, Nat.zero_testBit]
    cases ha : a.testBit i
    · rfl
    · rw [h i ha]; rfl
theorem fg_le_or1 (a b : Nat) : fg_le a (a ||| b) := fun i h => by rw [Nat.testBit_or, h]; rfl
theorem fg_le_or2 (a b : Nat) : fg_le b (a ||| b) := fun i h => by rw [Nat.testBit_or, h]; cases a.testBit i <;> rfl
theorem fg_or_le {a b c : Nat} (h1 : fg_le a c) (h2 : fg_le b c) : fg_le (a ||| b) c := by
  intro i h
  rw [Nat.testBit_or] at h
  cases ha : a.testBit i
  · rw [ha] at h; exact h2 i (by simpa using h)
  · exact h1 i ha
theorem fg_le_le {a b : Nat} (h : fg_le a b) : a ≤ b := by
  have h1 : a &&& b = a := by
    apply Nat.eq_of_testBit_eq
    intro i
    rw [Nat.testBit_and]
    cases ha : a.testBit i
    · rfl
    · rw [h i ha]; rfl
  rw [← h1]
  exact Nat.and_le_right
theorem fg_bit_le {f s : Nat} : fg_le (2 ^ f) s ↔ s.testBit f = true := by
  constructor
  · intro h
    exact h f Nat.testBit_two_pow_self
  · intro h i hi
    have : f = i := by
      rcases Nat.decEq f i with q | q
      · rw [Nat.testBit_two_pow_of_ne q] at hi; cases hi
      · exact q
    rw [← this]; exact h
theorem fg_lt2 {s n : Nat} (h : ∀ i, s.testBit i = true → i < n) : s < 2 ^ n := by
  apply Nat.lt_pow_two_of_testBit
  intro i hi
  cases hs : s.testBit i
  · rfl
  · have := h i hs; omega
theorem fg_bit_lt {s n i : Nat} (h : s < 2 ^ n) (hi : s.testBit i = true) : i < n := by
  rcases Nat.lt_or_ge i n with q | q
  · exact q
  · rw [Nat.testBit_lt_two_pow (Nat.lt_of_lt_of_le h (Nat.pow_le_pow_right (by decide) q))] at hi
    cases hi
theorem fg_le_lt {a b n : Nat} (h : fg_le a b) (hb : b < 2 ^ n) : a < 2 ^ n := Nat.lt_of_le_of_lt (fg_le_le h) hb
theorem fg_or_lt {a b n : Nat} (ha : a < 2 ^ n) (hb : b < 2 ^ n) : a ||| b < 2 ^ n := Nat.or_lt_two_pow ha hb
theorem fg_all_bit (n i : Nat) : (2 ^ n - 1).testBit i = decide (i < n) := Nat.testBit_two_pow_sub_one n i
theorem fg_le_all {s n : Nat} : fg_le s (2 ^ n - 1) ↔ s < 2 ^ n := by
  constructor
  · intro h
    have h1 := fg_le_le h
    have h2 : 0 < 2 ^ n := Nat.two_pow_pos n
    omega
  · intro h i hi
    rw [fg_all_bit]
    exact decide_eq_true (fg_bit_lt h hi)
theorem fg_df_le (a b : Nat) : fg_le (fg_df a b) a := fun i h => by
  rw [fg_df_bit] at h
  cases ha : a.testBit i
  · rw [ha] at h; cases h
  · rfl
theorem fg_df_lt {a b n : Nat} (h : a < 2 ^ n) : fg_df a b < 2 ^ n := fg_le_lt (fg_df_le a b) h
/-- how many, of twelve -/
def fg_pcw : Nat → Nat → Nat
  | 0, _ => 0
  | w + 1, n => fg_pcw w n + (n.testBit w).toNat
def fg_pc (n : Nat) : Nat := fg_pcw 12 n
theorem fg_pcw_le (w n : Nat) : fg_pcw w n ≤ w := by
  induction w with
  | zero => exact Nat.le_refl _
  | succ w ih =>
    have : (n.testBit w).toNat ≤ 1 := by cases n.testBit w <;> decide
    show _ + _ ≤ _
    omega
theorem fg_pcw_mono {a b : Nat} (h : fg_le a b) : ∀ w, fg_pcw w a ≤ fg_pcw w b := by
  intro w
  induction w with
  | zero => exact Nat.le_refl _
  | succ w ih =>
    show fg_pcw w a + _ ≤ fg_pcw w b + _
    have : (a.testBit w).toNat ≤ (b.testBit w).toNat := by
      cases ha : a.testBit w
      · exact Nat.zero_le _
      · rw [h w ha]; exact Nat.le_refl _
    omega
theorem fg_pcw_eq {a b : Nat} (h : fg_le a b) : ∀ w, b < 2 ^ w → fg_pcw w a = fg_pcw w b → a = b := by
  intro w hb he
  have key : ∀ w, fg_pcw w a = fg_pcw w b → ∀ i, i < w → a.testBit i = b.testBit i := by
    intro w
    induction w with
    | zero => intro _ i hi; exact absurd hi (Nat.not_lt_zero _)
    | succ w ih =>
      intro he i hi
      have h1 := fg_pcw_mono h w
      have h2 : (a.testBit w).toNat ≤ (b.testBit w).toNat := by
        cases ha : a.testBit w
        · exact Nat.zero_le _
        · rw [h w ha]; exact Nat.le_refl _
      have he' : fg_pcw w a + (a.testBit w).toNat = fg_pcw w b + (b.testBit w).toNat := he
      rcases Nat.lt_or_ge i w with q | q
      · exact ih (by omega) i q
      · have : i = w := by omega
        subst this
        have h3 : (a.testBit i).toNat = (b.testBit i).toNat := by omega
        cases ha : a.testBit i <;> cases hb2 : b.testBit i <;> simp_all
  apply Nat.eq_of_testBit_eq
  intro i
  rcases Nat.lt_or_ge i w with q | q
  · exact key w he i q
  · have h1 : b.testBit i = false := Nat.testBit_lt_two_pow (Nat.lt_of_lt_of_le hb (Nat.pow_le_pow_right (by decide) q))
    cases ha : a.testBit i
    · exact h1.symm
    · exact absurd (h i ha) (by rw [h1]; decide)
/-! rules, what follows -/
def fg_clsd (T : Nat → Nat) (s : Nat) : Prop := ∀ r, r < T 1 → fg_le (T (9 + 2 * r)) s → s.testBit (T (8 + 2 * r)) = true
def fg_IsClo (T : Nat → Nat) (s c : Nat) : Prop := fg_le s c ∧ fg_clsd T c ∧ ∀ c', fg_le s c' → fg_clsd T c' → fg_le c c'
theorem fg_IsClo.uniq {T : Nat → Nat} {s c c' : Nat} (h : fg_IsClo T s c) (h' : fg_IsClo T s c') : c = c' := fg_le_as (h.2.2 c' h'.1 h'.2.1) (h'.2.2 c h.1 h.2.1)
noncomputable def fg_clo (T : Nat → Nat) (s : Nat) : Nat := @dite _ (∃ c, fg_IsClo T s c) (Classical.propDecidable _) (fun h => Classical.choose h) (fun _ => s)
theorem fg_clo_of {T : Nat → Nat} {s c : Nat} (h : fg_IsClo T s c) : fg_clo T s = c := by
  have he : ∃ c, fg_IsClo T s c := ⟨c, h⟩
  have e : fg_clo T s = Classical.choose he := @dif_pos _ (Classical.propDecidable _) he _ _ _
  rw [e]
  exact fg_IsClo.uniq (Classical.choose_spec he) h
theorem fg_IsClo.self {T : Nat → Nat} {s : Nat} (h : fg_clsd T s) : fg_IsClo T s s := ⟨fg_le_rf s, h, fun _ h _ => h⟩
/-- a rule leads on -/
theorem fg_IsClo.step {T : Nat → Nat} {s c r : Nat} (hr : r < T 1) (hb : fg_le (T (9 + 2 * r)) s) (h : fg_IsClo T (s ||| 2 ^ T (8 + 2 * r)) c) : fg_IsClo T s c := by
  refine ⟨fg_le_tr (fg_le_or1 _ _) h.1, h.2.1, fun c' h1 h2 => h.2.2 c' (fg_or_le h1 ?_) h2⟩
  exact fg_bit_le.mpr (h2 r hr (fg_le_tr hb h1))
/-- what stands in a town -/
def fg_ok (T : Nat → Nat) : Prop := (1 ≤ T 0 ∧ T 0 ≤ 10) ∧ (T 1 ≤ 16 ∧ T 2 ≤ 5 ∧ T 3 ≤ 12 ∧ T 4 ≤ 12 ∧ T 5 ≤ 6 ∧ T 6 ≤ 6 ∧ T 7 ≤ 99) ∧
  (∀ r, r < T 1 → T (8 + 2 * r) < T 0 ∧ T (9 + 2 * r) < 2 ^ T 0 ∧ T (9 + 2 * r) ≠ 0) ∧
  (∀ p, p < T 2 → T (40 + 3 * p) ≤ 99 ∧ T (41 + 3 * p) < 2 ^ T 0 ∧ T (42 + 3 * p) < 1024) ∧
  (∀ q, q < T 3 → T (55 + 2 * q) ≤ 9 ∧ T (56 + 2 * q) < T 0) ∧
  (∀ m, m < T 4 → T (79 + 4 * m) < T 2 ∧ T (80 + 4 * m) < T 2 ∧ T (81 + 4 * m) ≤ 9 ∧ T (82 + 4 * m) < T 0) ∧
  (∀ k, k < T 5 → T (127 + 2 * k) ≤ 99 ∧ T (128 + 2 * k) < 2 ^ T 0) ∧ (∀ k, k < T 6 → T (139 + 2 * k) ≤ 99 ∧ T (140 + 2 * k) < 2 ^ T 0)
theorem fg_ok.p {T : Nat → Nat} (h : fg_ok T) : 2 ^ T 0 ≤ 1024 := by
  have h1 := h.1.2
  calc 2 ^ T 0 ≤ 2 ^ 10 := Nat.pow_le_pow_right (by decide) h1
    _ = 1024 := by decide
theorem fg_clsd_all {T : Nat → Nat} (h : fg_ok T) : fg_clsd T (2 ^ T 0 - 1) := by
  intro r hr _
  rw [fg_all_bit]
  exact decide_eq_true (h.2.2.1 r hr).1
theorem fg_clsd_dec (T : Nat → Nat) (s : Nat) : fg_clsd T s ∨ ∃ r, r < T 1 ∧ fg_le (T (9 + 2 * r)) s ∧ s.testBit (T (8 + 2 * r)) = false := by
  rcases Classical.em (fg_clsd T s) with h | h
  · exact Or.inl h
  · right
    simp only [fg_clsd, Classical.not_forall] at h
    obtain ⟨r, hr, hb, hn⟩ := h
    exact ⟨r, hr, hb, by cases hx : s.testBit (T (8 + 2 * r)) <;> simp_all⟩
theorem fg_or_gt {s f : Nat} (h : s.testBit f = false) : s < s ||| 2 ^ f := by
  have h1 := fg_le_le (fg_le_or1 s (2 ^ f))
  rcases Nat.lt_or_ge s (s ||| 2 ^ f) with q | q
  · exact q
  · exfalso
    have e : s ||| 2 ^ f = s := Nat.le_antisymm q h1
    have h2 : (s ||| 2 ^ f).testBit f = true := by rw [Nat.testBit_or, Nat.testBit_two_pow_self]; cases s.testBit f <;> rfl
    rw [e, h] at h2
    cases h2
theorem fg_clo_ex {T : Nat → Nat} (hT : fg_ok T) : ∀ (n s : Nat), 2 ^ T 0 - s ≤ n → s < 2 ^ T 0 → ∃ c, fg_IsClo T s c := by
  intro n
  induction n with
  | zero => intro s h1 h2; omega
  | succ n ih =>
    intro s h1 h2
    rcases fg_clsd_dec T s with h | ⟨r, hr, hb, hn⟩
    · exact ⟨s, fg_IsClo.self h⟩
    · have h3 := fg_or_gt hn
      have h4 : s ||| 2 ^ T (8 + 2 * r) < 2 ^ T 0 := fg_or_lt h2 (Nat.pow_lt_pow_right (by decide) (hT.2.2.1 r hr).1)
      obtain ⟨c, hc⟩ := ih (s ||| 2 ^ T (8 + 2 * r)) (by omega) h4
      exact ⟨c, hc.step hr hb⟩
theorem fg_clo_is {T : Nat → Nat} (hT : fg_ok T) {s : Nat} (hs : s < 2 ^ T 0) : fg_IsClo T s (fg_clo T s) := by
  obtain ⟨c, hc⟩ := fg_clo_ex hT _ s (Nat.le_refl _) hs
  rw [fg_clo_of hc]
  exact hc
theorem fg_clo_lt {T : Nat → Nat} (hT : fg_ok T) {s : Nat} (hs : s < 2 ^ T 0) : fg_clo T s < 2 ^ T 0 := by
  have h := fg_clo_is hT hs
  have h1 := h.2.2 (2 ^ T 0 - 1) (fg_le_all.mpr hs) (fg_clsd_all hT)
  exact fg_le_all.mp h1
theorem fg_clo_cl {T : Nat → Nat} {s : Nat} (h : fg_clsd T s) : fg_clo T s = s := fg_clo_of (fg_IsClo.self h)
theorem fg_clo_fix {T : Nat → Nat} (hT : fg_ok T) {s : Nat} (hs : s < 2 ^ T 0) : fg_clo T s = s ↔ fg_clsd T s := ⟨fun h => by rw [← h]; exact (fg_clo_is hT hs).2.1, fg_clo_cl⟩
theorem fg_clo_mono {T : Nat → Nat} (hT : fg_ok T) {s t : Nat} (ht : t < 2 ^ T 0) (h : fg_le s t) : fg_le (fg_clo T s) (fg_clo T t) := by
  have h1 := fg_clo_is hT (fg_le_lt h ht)
  have h2 := fg_clo_is hT ht
  exact h1.2.2 _ (fg_le_tr h h2.1) h2.2.1
/-! a town of the class: by the number of its object -/
def fg_isT (t : Nat) : Prop := t ∈ [104, 118, 143, 157, 181, 195, 219, 233, 256]
def fg_RW (μ : Nat → Nat → Int32) (r c w sz : Nat) (f : Nat → Nat) : Prop := μ r 0 = nI w ∧ μ r 2 = nI sz ∧ ∀ j, j < sz * w → μ c j = nI (f j)
def fg_TWp (μ : Nat → Nat → Int32) (t : Nat) (T : Nat → Nat) (C : Prop) : Prop :=
  (μ t 0 = nI (T 0) ∧ μ t 1 = nI (T 7)) ∧ fg_RW μ (t + 1) (t + 2) 2 (T 1) (fun j => T (8 + j)) ∧ fg_RW μ (t + 3) (t + 4) 3 (T 2) (fun j => T (40 + j)) ∧ fg_RW μ (t + 5) (t + 6) 2 (T 3) (fun j => T (55 + j)) ∧
  fg_RW μ (t + 7) (t + 8) 4 (T 4) (fun j => T (79 + j)) ∧ fg_RW μ (t + 9) (t + 10) 2 (T 5) (fun j => T (127 + j)) ∧ fg_RW μ (t + 11) (t + 12) 2 (T 6) (fun j => T (139 + j)) ∧ C
abbrev fg_TW (μ : Nat → Nat → Int32) (t : Nat) (T : Nat → Nat) : Prop := fg_TWp μ t T (∀ s, s < 2 ^ T 0 → μ (t + 13) s = nI (fg_clo T s))
theorem fg_isTe {P : Nat → Prop} {t : Nat} (h : fg_isT t) (h1 : P 104) (h2 : P 118) (h3 : P 143) (h4 : P 157) (h5 : P 181) (h6 : P 195) (h7 : P 219) (h8 : P 233) (h9 : P 256) : P t := by
  simp only [fg_isT, List.mem_cons, List.not_mem_nil, or_false] at h
  rcases h with rfl | rfl | rfl | rfl | rfl | rfl | rfl | rfl | rfl <;> assumption
theorem tT_lay {t : Nat} (h : fg_isT t) : fg_lay t = (5, 9) := fg_isTe (P := fun t => fg_lay t = (5, 9)) h ly_104 ly_118 ly_143 ly_157 ly_181 ly_195 ly_219 ly_233 ly_256
theorem tT_r2 {t : Nat} {R : fg_T4} (h : fg_isT t) : fg_rho R t 2 = some (t + 1) := fg_isTe (P := fun t => fg_rho R t 2 = some (t + 1)) h (rh_104_2 R) (rh_118_2 R) (rh_143_2 R) (rh_157_2 R) (rh_181_2 R) (rh_195_2 R) (rh_219_2 R) (rh_233_2 R) (rh_256_2 R)
theorem tT_w2 {t : Nat} {R : fg_T4} (h : fg_isT t) : fg_rows R (t + 1) (t + 2) 32 := fg_isTe (P := fun t => fg_rows R (t + 1) (t + 2) 32) h ⟨ly_105, rh_105_1 R, ly_106⟩ ⟨ly_119, rh_119_1 R, ly_120⟩ ⟨ly_144, rh_144_1 R, ly_145⟩ ⟨ly_158, rh_158_1 R, ly_159⟩ ⟨ly_182, rh_182_1 R, ly_183⟩ ⟨ly_196, rh_196_1 R, ly_197⟩ ⟨ly_220, rh_220_1 R, ly_221⟩ ⟨ly_234, rh_234_1 R, ly_235⟩ ⟨ly_257, rh_257_1 R, ly_258⟩
theorem tT_r3 {t : Nat} {R : fg_T4} (h : fg_isT t) : fg_rho R t 3 = some (t + 3) := fg_isTe (P := fun t => fg_rho R t 3 = some (t + 3)) h (rh_104_3 R) (rh_118_3 R) (rh_143_3 R) (rh_157_3 R) (rh_181_3 R) (rh_195_3 R) (rh_219_3 R) (rh_233_3 R) (rh_256_3 R)
theorem tT_w3 {t : Nat} {R : fg_T4} (h : fg_isT t) : fg_rows R (t + 3) (t + 4) 15 := fg_isTe (P := fun t => fg_rows R (t + 3) (t + 4) 15) h ⟨ly_107, rh_107_1 R, ly_108⟩ ⟨ly_121, rh_121_1 R, ly_122⟩ ⟨ly_146, rh_146_1 R, ly_147⟩ ⟨ly_160, rh_160_1 R, ly_161⟩ ⟨ly_184, rh_184_1 R, ly_185⟩ ⟨ly_198, rh_198_1 R, ly_199⟩ ⟨ly_222, rh_222_1 R, ly_223⟩ ⟨ly_236, rh_236_1 R, ly_237⟩ ⟨ly_259, rh_259_1 R, ly_260⟩
theorem tT_r4 {t : Nat} {R : fg_T4} (h : fg_isT t) : fg_rho R t 4 = some (t + 5) := fg_isTe (P := fun t => fg_rho R t 4 = some (t + 5)) h (rh_104_4 R) (rh_118_4 R) (rh_143_4 R) (rh_157_4 R) (rh_181_4 R) (rh_195_4 R) (rh_219_4 R) (rh_233_4 R) (rh_256_4 R)
theorem tT_w4 {t : Nat} {R : fg_T4} (h : fg_isT t) : fg_rows R (t + 5) (t + 6) 24 := fg_isTe (P := fun t => fg_rows R (t + 5) (t + 6) 24) h ⟨ly_109, rh_109_1 R, ly_110⟩ ⟨ly_123, rh_123_1 R, ly_124⟩ ⟨ly_148, rh_148_1 R, ly_149⟩ ⟨ly_162, rh_162_1 R, ly_163⟩ ⟨ly_186, rh_186_1 R, ly_187⟩ ⟨ly_200, rh_200_1 R, ly_201⟩ ⟨ly_224, rh_224_1 R, ly_225⟩ ⟨ly_238, rh_238_1 R, ly_239⟩ ⟨ly_261, rh_261_1 R, ly_262⟩
theorem tT_r5 {t : Nat} {R : fg_T4} (h : fg_isT t) : fg_rho R t 5 = some (t + 7) := fg_isTe (P := fun t => fg_rho R t 5 = some (t + 7)) h (rh_104_5 R) (rh_118_5 R) (rh_143_5 R) (rh_157_5 R) (rh_181_5 R) (rh_195_5 R) (rh_219_5 R) (rh_233_5 R) (rh_256_5 R)
theorem tT_w5 {t : Nat} {R : fg_T4} (h : fg_isT t) : fg_rows R (t + 7) (t + 8) 48 := fg_isTe (P := fun t => fg_rows R (t + 7) (t + 8) 48) h ⟨ly_111, rh_111_1 R, ly_112⟩ ⟨ly_125, rh_125_1 R, ly_126⟩ ⟨ly_150, rh_150_1 R, ly_151⟩ ⟨ly_164, rh_164_1 R, ly_165⟩ ⟨ly_188, rh_188_1 R, ly_189⟩ ⟨ly_202, rh_202_1 R, ly_203⟩ ⟨ly_226, rh_226_1 R, ly_227⟩ ⟨ly_240, rh_240_1 R, ly_241⟩ ⟨ly_263, rh_263_1 R, ly_264⟩
theorem tT_r6 {t : Nat} {R : fg_T4} (h : fg_isT t) : fg_rho R t 6 = some (t + 9) := fg_isTe (P := fun t => fg_rho R t 6 = some (t + 9)) h (rh_104_6 R) (rh_118_6 R) (rh_143_6 R) (rh_157_6 R) (rh_181_6 R) (rh_195_6 R) (rh_219_6 R) (rh_233_6 R) (rh_256_6 R)
theorem tT_w6 {t : Nat} {R : fg_T4} (h : fg_isT t) : fg_rows R (t + 9) (t + 10) 12 := fg_isTe (P := fun t => fg_rows R (t + 9) (t + 10) 12) h ⟨ly_113, rh_113_1 R, ly_114⟩ ⟨ly_127, rh_127_1 R, ly_128⟩ ⟨ly_152, rh_152_1 R, ly_153⟩ ⟨ly_166, rh_166_1 R, ly_167⟩ ⟨ly_190, rh_190_1 R, ly_191⟩ ⟨ly_204, rh_204_1 R, ly_205⟩ ⟨ly_228, rh_228_1 R, ly_229⟩ ⟨ly_242, rh_242_1 R, ly_243⟩ ⟨ly_265, rh_265_1 R, ly_266⟩
theorem tT_r7 {t : Nat} {R : fg_T4} (h : fg_isT t) : fg_rho R t 7 = some (t + 11) := fg_isTe (P := fun t => fg_rho R t 7 = some (t + 11)) h (rh_104_7 R) (rh_118_7 R) (rh_143_7 R) (rh_157_7 R) (rh_181_7 R) (rh_195_7 R) (rh_219_7 R) (rh_233_7 R) (rh_256_7 R)
theorem tT_w7 {t : Nat} {R : fg_T4} (h : fg_isT t) : fg_rows R (t + 11) (t + 12) 12 := fg_isTe (P := fun t => fg_rows R (t + 11) (t + 12) 12) h ⟨ly_115, rh_115_1 R, ly_116⟩ ⟨ly_129, rh_129_1 R, ly_130⟩ ⟨ly_154, rh_154_1 R, ly_155⟩ ⟨ly_168, rh_168_1 R, ly_169⟩ ⟨ly_192, rh_192_1 R, ly_193⟩ ⟨ly_206, rh_206_1 R, ly_207⟩ ⟨ly_230, rh_230_1 R, ly_231⟩ ⟨ly_244, rh_244_1 R, ly_245⟩ ⟨ly_267, rh_267_1 R, ly_268⟩
theorem tT_r8 {t : Nat} {R : fg_T4} (h : fg_isT t) : fg_rho R t 8 = some (t + 13) := fg_isTe (P := fun t => fg_rho R t 8 = some (t + 13)) h (rh_104_8 R) (rh_118_8 R) (rh_143_8 R) (rh_157_8 R) (rh_181_8 R) (rh_195_8 R) (rh_219_8 R) (rh_233_8 R) (rh_256_8 R)
theorem tT_c8 {t : Nat} (h : fg_isT t) : fg_lay (t + 13) = (10, 1024) := fg_isTe (P := fun t => fg_lay (t + 13) = (10, 1024)) h ly_117 ly_131 ly_156 ly_170 ly_194 ly_208 ly_232 ly_246 ly_269
theorem fg_TWp.rule0 {μ : Nat → Nat → Int32} {t : Nat} {T : Nat → Nat} {C : Prop} (h : fg_TWp μ t T C) {i : Nat} (hi : i < T 1) : μ (t + 2) (i * 2 + 0) = nI (T (8 + 2 * i)) := by
  rw [h.2.1.2.2 (i * 2 + 0) (by omega)]
  show nI (T (8 + (i * 2 + 0))) = _
  rw [show 8 + (i * 2 + 0) = 8 + 2 * i by omega]
theorem fg_TWp.rule1 {μ : Nat → Nat → Int32} {t : Nat} {T : Nat → Nat} {C : Prop} (h : fg_TWp μ t T C) {i : Nat} (hi : i < T 1) : μ (t + 2) (i * 2 + 1) = nI (T (9 + 2 * i)) := by
  rw [h.2.1.2.2 (i * 2 + 1) (by omega)]
  show nI (T (8 + (i * 2 + 1))) = _
  rw [show 8 + (i * 2 + 1) = 9 + 2 * i by omega]
theorem fg_TWp.person0 {μ : Nat → Nat → Int32} {t : Nat} {T : Nat → Nat} {C : Prop} (h : fg_TWp μ t T C) {i : Nat} (hi : i < T 2) : μ (t + 4) (i * 3 + 0) = nI (T (40 + 3 * i)) := by
  rw [h.2.2.1.2.2 (i * 3 + 0) (by omega)]
  show nI (T (40 + (i * 3 + 0))) = _
  rw [show 40 + (i * 3 + 0) = 40 + 3 * i by omega]
theorem fg_TWp.person1 {μ : Nat → Nat → Int32} {t : Nat} {T : Nat → Nat} {C : Prop} (h : fg_TWp μ t T C) {i : Nat} (hi : i < T 2) : μ (t + 4) (i * 3 + 1) = nI (T (41 + 3 * i)) := by
  rw [h.2.2.1.2.2 (i * 3 + 1) (by omega)]
  show nI (T (40 + (i * 3 + 1))) = _
  rw [show 40 + (i * 3 + 1) = 41 + 3 * i by omega]
theorem fg_TWp.person2 {μ : Nat → Nat → Int32} {t : Nat} {T : Nat → Nat} {C : Prop} (h : fg_TWp μ t T C) {i : Nat} (hi : i < T 2) : μ (t + 4) (i * 3 + 2) = nI (T (42 + 3 * i)) := by
  rw [h.2.2.1.2.2 (i * 3 + 2) (by omega)]
  show nI (T (40 + (i * 3 + 2))) = _
  rw [show 40 + (i * 3 + 2) = 42 + 3 * i by omega]
theorem fg_TWp.sign0 {μ : Nat → Nat → Int32} {t : Nat} {T : Nat → Nat} {C : Prop} (h : fg_TWp μ t T C) {i : Nat} (hi : i < T 3) : μ (t + 6) (i * 2 + 0) = nI (T (55 + 2 * i)) := by
  rw [h.2.2.2.1.2.2 (i * 2 + 0) (by omega)]
  show nI (T (55 + (i * 2 + 0))) = _
  rw [show 55 + (i * 2 + 0) = 55 + 2 * i by omega]
theorem fg_TWp.sign1 {μ : Nat → Nat → Int32} {t : Nat} {T : Nat → Nat} {C : Prop} (h : fg_TWp μ t T C) {i : Nat} (hi : i < T 3) : μ (t + 6) (i * 2 + 1) = nI (T (56 + 2 * i)) := by
  rw [h.2.2.2.1.2.2 (i * 2 + 1) (by omega)]
  show nI (T (55 + (i * 2 + 1))) = _
  rw [show 55 + (i * 2 + 1) = 56 + 2 * i by omega]
theorem fg_TWp.meet0 {μ : Nat → Nat → Int32} {t : Nat} {T : Nat → Nat} {C : Prop} (h : fg_TWp μ t T C) {i : Nat} (hi : i < T 4) : μ (t + 8) (i * 4 + 0) = nI (T (79 + 4 * i)) := by
  rw [h.2.2.2.2.1.2.2 (i * 4 + 0) (by omega)]
  show nI (T (79 + (i * 4 + 0))) = _
  rw [show 79 + (i * 4 + 0) = 79 + 4 * i by omega]
theorem fg_TWp.meet1 {μ : Nat → Nat → Int32} {t : Nat} {T : Nat → Nat} {C : Prop} (h : fg_TWp μ t T C) {i : Nat} (hi : i < T 4) : μ (t + 8) (i * 4 + 1) = nI (T (80 + 4 * i)) := by
  rw [h.2.2.2.2.1.2.2 (i * 4 + 1) (by omega)]
  show nI (T (79 + (i * 4 + 1))) = _
  rw [show 79 + (i * 4 + 1) = 80 + 4 * i by omega]
theorem fg_TWp.meet2 {μ : Nat → Nat → Int32} {t : Nat} {T : Nat → Nat} {C : Prop} (h : fg_TWp μ t T C) {i : Nat} (hi : i < T 4) : μ (t + 8) (i * 4 + 2) = nI (T (81 + 4 * i)) := by
  rw [h.2.2.2.2.1.2.2 (i * 4 + 2) (by omega)]
  show nI (T (79 + (i * 4 + 2))) = _
  rw [show 79 + (i * 4 + 2) = 81 + 4 * i by omega]
theorem fg_TWp.meet3 {μ : Nat → Nat → Int32} {t : Nat} {T : Nat → Nat} {C : Prop} (h : fg_TWp μ t T C) {i : Nat} (hi : i < T 4) : μ (t + 8) (i * 4 + 3) = nI (T (82 + 4 * i)) := by
  rw [h.2.2.2.2.1.2.2 (i * 4 + 3) (by omega)]
  show nI (T (79 + (i * 4 + 3))) = _
  rw [show 79 + (i * 4 + 3) = 82 + 4 * i by omega]
theorem fg_TWp.skill0 {μ : Nat → Nat → Int32} {t : Nat} {T : Nat → Nat} {C : Prop} (h : fg_TWp μ t T C) {i : Nat} (hi : i < T 5) : μ (t + 10) (i * 2 + 0) = nI (T (127 + 2 * i)) := by
  rw [h.2.2.2.2.2.1.2.2 (i * 2 + 0) (by omega)]
  show nI (T (127 + (i * 2 + 0))) = _
  rw [show 127 + (i * 2 + 0) = 127 + 2 * i by omega]
theorem fg_TWp.skill1 {μ : Nat → Nat → Int32} {t : Nat} {T : Nat → Nat} {C : Prop} (h : fg_TWp μ t T C) {i : Nat} (hi : i < T 5) : μ (t + 10) (i * 2 + 1) = nI (T (128 + 2 * i)) := by
  rw [h.2.2.2.2.2.1.2.2 (i * 2 + 1) (by omega)]
  show nI (T (127 + (i * 2 + 1))) = _
  rw [show 127 + (i * 2 + 1) = 128 + 2 * i by omega]
theorem fg_TWp.hurt0 {μ : Nat → Nat → Int32} {t : Nat} {T : Nat → Nat} {C : Prop} (h : fg_TWp μ t T C) {i : Nat} (hi : i < T 6) : μ (t + 12) (i * 2 + 0) = nI (T (139 + 2 * i)) := by
  rw [h.2.2.2.2.2.2.1.2.2 (i * 2 + 0) (by omega)]
  show nI (T (139 + (i * 2 + 0))) = _
  rw [show 139 + (i * 2 + 0) = 139 + 2 * i by omega]
theorem fg_TWp.hurt1 {μ : Nat → Nat → Int32} {t : Nat} {T : Nat → Nat} {C : Prop} (h : fg_TWp μ t T C) {i : Nat} (hi : i < T 6) : μ (t + 12) (i * 2 + 1) = nI (T (140 + 2 * i)) := by
  rw [h.2.2.2.2.2.2.1.2.2 (i * 2 + 1) (by omega)]
  show nI (T (139 + (i * 2 + 1))) = _
  rw [show 139 + (i * 2 + 1) = 140 + 2 * i by omega]
