/-! rows and their codes -/
theorem fg_pcw_st {m a b : Nat} (hab : a < b) (ha : m.testBit a = true) : fg_pcw a m < fg_pcw b m := by
  have h1 : ∀ w, fg_pcw (a + 1) m ≤ fg_pcw (a + 1 + w) m := by
    intro w
    induction w with
    | zero => exact Nat.le_refl _
    | succ w ih => exact Nat.le_trans ih (Nat.le_add_right _ _)
  have h2 : fg_pcw (a + 1) m = fg_pcw a m + 1 := by
    show fg_pcw a m + (m.testBit a).toNat = _
    rw [ha]; rfl
  have h3 := h1 (b - (a + 1))
  rw [show a + 1 + (b - (a + 1)) = b by omega] at h3
  omega
theorem fg_pcw_inj {m a b : Nat} (ha : m.testBit a = true) (hb : m.testBit b = true) (h : fg_pcw a m = fg_pcw b m) : a = b := by
  rcases Nat.lt_trichotomy a b with g | g | g
  · have := fg_pcw_st g ha; omega
  · exact g
  · have := fg_pcw_st g hb; omega
theorem fg_fa_pcw {m : Nat} : ∀ n k left r, fg_fa m n k left = some r → fg_pcw r m = fg_pcw k m + left := by
  intro n
  induction n with
  | zero => intro k left r h; cases h
  | succ n ih =>
    intro k left r h
    simp only [fg_fa] at h
    have e1 : fg_pcw (k + 1) m = fg_pcw k m + (m.testBit k).toNat := rfl
    by_cases hb : m.testBit k = true
    · rw [if_pos hb] at h
      rw [hb] at e1
      have e2 : (true).toNat = 1 := rfl
      by_cases h0 : left = 0
      · rw [if_pos h0] at h; cases h; omega
      · rw [if_neg h0] at h
        have := ih _ _ _ h
        omega
    · rw [if_neg hb] at h
      have e2 : m.testBit k = false := by cases hx : m.testBit k with | true => exact absurd hx hb | false => rfl
      rw [e2] at e1
      have e3 : (false).toNat = 0 := rfl
      have := ih _ _ _ h
      omega
def fg_fi (m j : Nat) : Nat := (fg_fa m 10 0 j).getD 0
theorem fg_fi_is {m j : Nat} (hm : m < 1024) (hj : j < fg_pc m) : fg_fi m j < 10 ∧ m.testBit (fg_fi m j) = true ∧ fg_pcw (fg_fi m j) m = j := by
  obtain ⟨r, hr⟩ := fg_fa_some hm hj
  have h1 := fg_fa_lt _ _ _ _ hr
  have h2 := fg_fa_pcw _ _ _ _ hr
  have e : fg_fi m j = r := by unfold fg_fi; rw [hr]; rfl
  rw [e]
  refine ⟨by omega, h1.2, ?_⟩
  rw [h2]
  show 0 + j = j
  omega
theorem fg_pcw_in {m f : Nat} (hm : m < 1024) (hf : m.testBit f = true) : fg_pcw f m < fg_pc m := by
  have h10 : f < 10 := fg_bit_lt (n := 10) hm hf
  exact fg_pcw_st (b := 12) (by omega) hf
theorem fg_fi_of {m f : Nat} (hm : m < 1024) (hf : m.testBit f = true) : fg_fi m (fg_pcw f m) = f := by
  have h := fg_fi_is hm (fg_pcw_in hm hf)
  exact fg_pcw_inj h.2.1 hf h.2.2
noncomputable def fg_GD (T : Nat → Nat) (kd S : Nat) : Nat → Nat → Nat → (Nat → Nat) → Prop
  | 0, _, _, _ => True
  | n + 1, m, u, d => (¬ u.testBit (d 0) = true ∧ d 0 < fg_pc S) ∧ ¬ fg_w T (fg_fgt T m (fg_fi S (d 0)) kd) < fg_w T m ∧ fg_GD T kd S n (fg_fgt T m (fg_fi S (d 0)) kd) (u ||| 2 ^ d 0) (fun i => d (i + 1))
def fg_V (K : Nat) : Nat → (Nat → Nat) → Nat
  | 0, _ => 0
  | n + 1, d => d 0 * K ^ n + fg_V K n (fun i => d (i + 1))
theorem fg_V_lt {K : Nat} : ∀ (n : Nat) (d : Nat → Nat), (∀ i, i < n → d i < K) → fg_V K n d < K ^ n := by
  intro n
  induction n with
  | zero => intro d _; exact Nat.one_pos
  | succ n ih =>
    intro d h
    have h1 := ih (fun i => d (i + 1)) (fun i hi => h (i + 1) (by omega))
    have h2 := h 0 (by omega)
    show d 0 * K ^ n + fg_V K n (fun i => d (i + 1)) < K ^ (n + 1)
    have h3 : (d 0 + 1) * K ^ n ≤ K * K ^ n := Nat.mul_le_mul_right _ h2
    rw [Nat.pow_succ, Nat.mul_comm (K ^ n) K]
    rw [Nat.add_mul, Nat.one_mul] at h3
    omega
theorem fg_GD_lt {T : Nat → Nat} {kd S : Nat} : ∀ (n m u : Nat) (d : Nat → Nat), fg_GD T kd S n m u d → ∀ i, i < n → d i < fg_pc S := by
  intro n
  induction n with
  | zero => intro m u d _ i hi; exact absurd hi (Nat.not_lt_zero _)
  | succ n ih =>
    intro m u d h i hi
    rcases Nat.eq_zero_or_pos i with z | z
    · rw [z]; exact h.1.2
    · have := ih _ _ _ h.2.2 (i - 1) (by omega)
      rw [show i - 1 + 1 = i by omega] at this
      exact this
theorem fg_fs_none {F : Nat → Option (Nat → Nat)} : ∀ j n, fg_fs F j n = none → ∀ i, n ≤ i → i < n + j → F i = none := by
  intro j
  induction j with
  | zero => intro n _ i h1 h2; omega
  | succ j ih =>
    intro n h i h1 h2
    cases hF : F n with
    | some g => rw [fg_fs_1 hF] at h; cases h
    | none =>
      rw [fg_fs_0 hF] at h
      rcases Nat.decEq i n with e | e
      · exact ih (n + 1) h i (by omega) (by omega)
      · rw [e]; exact hF
theorem fg_fs_some {F : Nat → Option (Nat → Nat)} {g : Nat → Nat} : ∀ j n, fg_fs F j n = some g → ∃ f, n ≤ f ∧ f < n + j ∧ F f = some g ∧ ∀ i, n ≤ i → i < f → F i = none := by
  intro j
  induction j with
  | zero => intro n h; cases h
  | succ j ih =>
    intro n h
    cases hF : F n with
    | some g' =>
      rw [fg_fs_1 hF] at h
      exact ⟨n, Nat.le_refl _, by omega, by rw [hF, h], fun i h1 h2 => by omega⟩
    | none =>
      rw [fg_fs_0 hF] at h
      obtain ⟨f, f1, f2, f3, f4⟩ := ih (n + 1) h
      refine ⟨f, by omega, by omega, f3, fun i h1 h2 => ?_⟩
      rcases Nat.decEq i n with e | e
      · exact f4 i (by omega) h2
      · rw [e]; exact hF
theorem fg_oF_is {T : Nat → Nat} {kd m set n : Nat} {rec : Nat → Nat → Option (Nat → Nat)} {g : Nat → Nat} (h : fg_oF T kd rec m set n = some g) : set.testBit n = true ∧ ¬ fg_w T (fg_fgt T m n kd) < fg_w T m ∧ ∃ g', rec (fg_fgt T m n kd) (fg_df set (2 ^ n)) = some g' ∧ g = fun i => if i = 0 then n else g' (i - 1) := by
  by_cases h1 : set.testBit n = true
  · by_cases h2 : fg_w T (fg_fgt T m n kd) < fg_w T m
    · rw [fg_oF_w h2] at h; cases h
    · cases h3 : rec (fg_fgt T m n kd) (fg_df set (2 ^ n)) with
      | none => rw [fg_oF_n h3] at h; cases h
      | some g' =>
        rw [fg_oF_s h1 h2 h3] at h
        cases h
        exact ⟨h1, h2, g', rfl, rfl⟩
  · rw [fg_oF_b h1] at h; cases h
theorem fg_oF_no {T : Nat → Nat} {kd m set n : Nat} {rec : Nat → Nat → Option (Nat → Nat)} (h : fg_oF T kd rec m set n = none) (h1 : set.testBit n = true) (h2 : ¬ fg_w T (fg_fgt T m n kd) < fg_w T m) : rec (fg_fgt T m n kd) (fg_df set (2 ^ n)) = none := by
  cases h3 : rec (fg_fgt T m n kd) (fg_df set (2 ^ n)) with
  | none => rfl
  | some g' => rw [fg_oF_s h1 h2 h3] at h; cases h
def fg_rel (S set u : Nat) : Prop := ∀ f, set.testBit f = true ↔ S.testBit f = true ∧ ¬ u.testBit (fg_pcw f S) = true
theorem fg_rel_1 {S set u f : Nat} (h : fg_rel S set u) (hf : S.testBit f = true) : fg_rel S (fg_df set (2 ^ f)) (u ||| 2 ^ fg_pcw f S) := by
  intro q
  rw [fg_df_bit, Bool.and_eq_true, h q, Nat.testBit_or, Bool.or_eq_true]
  rcases Nat.decEq f q with e | e
  · rw [Nat.testBit_two_pow_of_ne e]
    refine ⟨fun a => ⟨a.1.1, fun b => b.elim a.1.2 (fun c => ?_)⟩, fun a => ⟨⟨a.1, fun b => a.2 (Or.inl b)⟩, rfl⟩⟩
    rcases Nat.decEq (fg_pcw f S) (fg_pcw q S) with e2 | e2
    · rw [Nat.testBit_two_pow_of_ne e2] at c; exact Bool.noConfusion c
    · exact e (fg_pcw_inj hf a.1.1 e2)
  · subst e
    rw [Nat.testBit_two_pow_self, Nat.testBit_two_pow_self]
    exact ⟨fun a => Bool.noConfusion a.2, fun a => absurd (Or.inr rfl) a.2⟩
theorem fg_or_is {T : Nat → Nat} (hok : fg_ok T) {kd S : Nat} (hS : S < 1024) : ∀ (k n m set u : Nat), n ≤ k → fg_pc set = n → set < 2 ^ T 0 → fg_rel S set u → (fg_or T kd k m set = none → ∀ d, ¬ fg_GD T kd S n m u d) ∧ (∀ g, fg_or T kd k m set = some g → fg_GD T kd S n m u (fun i => fg_pcw (g i) S) ∧ (∀ i, i < n → S.testBit (g i) = true) ∧ ∀ d, fg_GD T kd S n m u d → fg_V (fg_pc S) n (fun i => fg_pcw (g i) S) ≤ fg_V (fg_pc S) n d) := by
  intro k
  induction k with
  | zero =>
    intro n m set u hn hp hl hr
    obtain rfl : n = 0 := by omega
    have h0 : set = 0 := fg_pc0 (fg_p10 hl hok.1.2) hp
    have e : fg_or T kd 0 m set = some (fun _ => 0) := if_pos h0
    exact ⟨fun h => (by rw [e] at h; cases h), fun g _ => ⟨trivial, fun i hi => absurd hi (Nat.not_lt_zero _), fun d _ => Nat.le_refl _⟩⟩
  | succ k ih =>
    intro n m set u hn hp hl hr
    by_cases h0 : set = 0
    · obtain rfl : n = 0 := by rw [← hp, h0]; decide
      have e : fg_or T kd (k + 1) m set = some (fun _ => 0) := if_pos h0
      exact ⟨fun h => (by rw [e] at h; cases h), fun g _ => ⟨trivial, fun i hi => absurd hi (Nat.not_lt_zero _), fun d _ => Nat.le_refl _⟩⟩
    · have e : fg_or T kd (k + 1) m set = fg_fs (fg_oF T kd (fg_or T kd k) m set) (T 0) 0 := if_neg h0
      obtain ⟨n', rfl⟩ : ∃ n', n = n' + 1 := ⟨n - 1, by
        rcases Nat.eq_zero_or_pos n with z | z
        · exact absurd (fg_pc0 (fg_p10 hl hok.1.2) (by omega)) h0
        · omega⟩
      -- a row begins with a fact of the set
      have hb : ∀ d, fg_GD T kd S (n' + 1) m u d → set.testBit (fg_fi S (d 0)) = true ∧ S.testBit (fg_fi S (d 0)) = true ∧ fg_pcw (fg_fi S (d 0)) S = d 0 ∧ fg_fi S (d 0) < T 0 := fun d h => by
        have h1 := fg_fi_is hS h.1.2
        have h2 : set.testBit (fg_fi S (d 0)) = true := (hr _).mpr ⟨h1.2.1, by rw [h1.2.2]; exact h.1.1⟩
        exact ⟨h2, h1.2.1, h1.2.2, fg_bit_lt hl h2⟩
      have hpc : ∀ f, set.testBit f = true → fg_pc (fg_df set (2 ^ f)) = n' := fun f hf => by
        have h1 := fg_pc_df (m := set) (x := 2 ^ f) (fg_bit_le.mpr hf)
        have h10 : f < 10 := fg_bit_lt (n := 10) (fg_p10 hl hok.1.2) hf
        have h2 : fg_pc (2 ^ f) = 1 := by
          rcases (show f = 0 ∨ f = 1 ∨ f = 2 ∨ f = 3 ∨ f = 4 ∨ f = 5 ∨ f = 6 ∨ f = 7 ∨ f = 8 ∨ f = 9 by omega) with rfl | rfl | rfl | rfl | rfl | rfl | rfl | rfl | rfl | rfl <;> decide
        omega
      have hIH := fun (f : Nat) (hf : set.testBit f = true) (hSf : S.testBit f = true) => ih n' (fg_fgt T m f kd) (fg_df set (2 ^ f)) (u ||| 2 ^ fg_pcw f S) (by omega) (hpc f hf) (fg_df_lt hl) (fg_rel_1 hr hSf)
      have hno : ∀ d, fg_GD T kd S (n' + 1) m u d → ¬ fg_oF T kd (fg_or T kd k) m set (fg_fi S (d 0)) = none := fun d h hF => by
        obtain ⟨b1, b2, b3, b4⟩ := hb d h
        refine (hIH _ b1 b2).1 (fg_oF_no hF b1 h.2.1) (fun i => d (i + 1)) ?_
        rw [b3]; exact h.2.2
      rw [e]
      refine ⟨fun h d hd => ?_, fun g h => ?_⟩
      · exact hno d hd (fg_fs_none _ _ h _ (Nat.zero_le _) (by have := (hb d hd).2.2.2; omega))
      · obtain ⟨f, _, f2, f3, f4⟩ := fg_fs_some _ _ h
        obtain ⟨a1, a2, g', a3, a4⟩ := fg_oF_is f3
        have hSf : S.testBit f = true := ((hr f).mp a1).1
        obtain ⟨i1, i2, i3⟩ := (hIH f a1 hSf).2 g' a3
        have e0 : g 0 = f := by rw [a4]; rfl
        have es : (fun i => fg_pcw (g (i + 1)) S) = (fun i => fg_pcw (g' i) S) := by
          funext i
          rw [a4]
          show fg_pcw (if i + 1 = 0 then f else g' (i + 1 - 1)) S = _
          rw [if_neg (Nat.succ_ne_zero i)]; rfl
        refine ⟨⟨⟨?_, ?_⟩, ?_, ?_⟩, fun i hi => ?_, fun d hd => ?_⟩
        · show ¬ u.testBit (fg_pcw (g 0) S) = true
          rw [e0]; exact ((hr f).mp a1).2
        · show fg_pcw (g 0) S < _
          rw [e0]; exact fg_pcw_in hS hSf
        · show ¬ fg_w T (fg_fgt T m (fg_fi S (fg_pcw (g 0) S)) kd) < _
          rw [e0, fg_fi_of hS hSf]; exact a2
        · show fg_GD T kd S n' (fg_fgt T m (fg_fi S (fg_pcw (g 0) S)) kd) (u ||| 2 ^ fg_pcw (g 0) S) (fun i => fg_pcw (g (i + 1)) S)
          rw [e0, fg_fi_of hS hSf, es]; exact i1
        · rcases Nat.eq_zero_or_pos i with z | z
          · rw [z, e0]; exact hSf
          · have := i2 (i - 1) (by omega)
            rw [a4]
            show S.testBit (if i = 0 then f else g' (i - 1)) = true
            rw [if_neg (by omega)]; exact this
        · obtain ⟨b1, b2, b3, b4⟩ := hb d hd
          show fg_pcw (g 0) S * fg_pc S ^ n' + fg_V (fg_pc S) n' (fun i => fg_pcw (g (i + 1)) S) ≤ d 0 * fg_pc S ^ n' + fg_V (fg_pc S) n' (fun i => d (i + 1))
          rw [e0, es]
          rcases Nat.lt_trichotomy (fg_fi S (d 0)) f with q | q | q
          · exact absurd (f4 _ (Nat.zero_le _) q) (hno d hd)
          · have h9 := hd.2.2
            rw [q] at h9
            have h8 : d 0 = fg_pcw f S := by rw [← b3, q]
            rw [h8] at h9 ⊢
            exact Nat.add_le_add_left (i3 _ h9) _
          · have h8 : fg_pcw f S < d 0 := by rw [← b3]; exact fg_pcw_st q hSf
            have h7 := fg_V_lt n' (fun i => fg_pcw (g' i) S) (fun i hi => fg_pcw_in hS (i2 i hi))
            have h6 : (fg_pcw f S + 1) * fg_pc S ^ n' ≤ d 0 * fg_pc S ^ n' := Nat.mul_le_mul_right _ h8
            rw [Nat.add_mul, Nat.one_mul] at h6
            omega
