/-! ===== the parts of a set, from itself down ===== -/
theorem fg_le_div2 {a b : Nat} (h : fg_le a b) : fg_le (a / 2) (b / 2) := by
  intro i hi
  rw [← Nat.testBit_succ] at hi ⊢
  exact h _ hi
theorem fg_le_mod2 {a b : Nat} (h : fg_le a b) (ha : a % 2 = 1) : b % 2 = 1 := by
  have h1 := h 0
  rw [Nat.testBit_zero, Nat.testBit_zero] at h1
  exact of_decide_eq_true (h1 (decide_eq_true ha))
theorem fg_and2 (a b : Nat) : a &&& b = 2 * ((a / 2) &&& (b / 2)) + (a % 2) * (b % 2) := by
  have hy : (a % 2) * (b % 2) ≤ 1 := by
    rcases Nat.mod_two_eq_zero_or_one a with h | h <;> rcases Nat.mod_two_eq_zero_or_one b with h2 | h2 <;> rw [h, h2] <;> decide
  apply Nat.eq_of_testBit_eq
  intro i
  cases i with
  | zero =>
    rw [Nat.testBit_and, Nat.testBit_zero, Nat.testBit_zero, Nat.testBit_zero]
    rcases Nat.mod_two_eq_zero_or_one a with h | h <;> rcases Nat.mod_two_eq_zero_or_one b with h2 | h2 <;> rw [h, h2] <;> simp
  | succ i =>
    rw [Nat.testBit_and, Nat.testBit_succ, Nat.testBit_succ, Nat.testBit_succ, ← Nat.testBit_and]
    rw [show (2 * ((a / 2) &&& (b / 2)) + (a % 2) * (b % 2)) / 2 = (a / 2) &&& (b / 2) by omega]
theorem fg_and_le {a b : Nat} (h : fg_le a b) : a &&& b = a := by
  apply Nat.eq_of_testBit_eq
  intro i
  rw [Nat.testBit_and]
  cases ha : a.testBit i
  · rfl
  · rw [h i ha]; rfl
theorem fg_prev : ∀ (n part free q : Nat), part ≤ n → fg_le part free → fg_le q free → q < part → q ≤ (part - 1) &&& free := by
  intro n
  induction n with
  | zero => intro part free q h1 _ _ h; omega
  | succ n ih =>
    intro part free q h1 hp hq h
    rw [fg_and2]
    rcases Nat.mod_two_eq_zero_or_one part with hb | hb
    · have e1 : (part - 1) / 2 = part / 2 - 1 := by omega
      have e2 : (part - 1) % 2 = 1 := by omega
      rw [e1, e2]
      have h2 : q / 2 < part / 2 := by omega
      have h3 := ih (part / 2) (free / 2) (q / 2) (by omega) (fg_le_div2 hp) (fg_le_div2 hq) h2
      have h4 : q % 2 ≤ free % 2 := by
        rcases Nat.mod_two_eq_zero_or_one q with hc | hc
        · omega
        · have := fg_le_mod2 hq hc; omega
      omega
    · have e1 : (part - 1) / 2 = part / 2 := by omega
      have e2 : (part - 1) % 2 = 0 := by omega
      rw [e1, e2, fg_and_le (fg_le_div2 hp)]
      omega
theorem fg_andr_le (a b : Nat) : fg_le (a &&& b) b := fun i h => by
  rw [Nat.testBit_and] at h
  cases hb : b.testBit i
  · rw [hb] at h; simp at h
  · rfl
theorem fg_andl_le (a b : Nat) : fg_le (a &&& b) a := fun i h => by
  rw [Nat.testBit_and] at h
  cases hb : a.testBit i
  · rw [hb] at h; simp at h
  · rfl
/-- the part behind a part -/
def fg_nx (part free : Nat) : Nat := if part = 0 then free else (part - 1) &&& free
theorem fg_nx_le (part free : Nat) : fg_le (fg_nx part free) free := by
  unfold fg_nx
  split
  · exact fg_le_rf _
  · exact fg_andr_le _ _
theorem fg_nx_I {part free : Nat} : (nI part - nI 1) &&& nI free = nI (fg_nx part free) := by
  unfold fg_nx
  split
  · rename_i h
    subst h
    have h1 : nI 0 - nI 1 = nI 0 ^^^ (-1) := by decide
    have h2 : fg_df free 0 = free := by simp [fg_df]
    rw [h1, nI_df', h2]
  · rw [nI_sub (by omega), nI_and]
theorem fg_nx_lt {part free : Nat} (h : part ≠ 0) : fg_nx part free < part := by
  unfold fg_nx
  rw [if_neg h]
  have : (part - 1) &&& free ≤ part - 1 := Nat.and_le_left
  omega
theorem fg_nx_between {part free q : Nat} (hp : fg_le part free) (hq : fg_le q free) (h0 : part ≠ 0) : fg_nx part free < q ↔ part ≤ q := by
  constructor
  · intro h
    rcases Nat.lt_or_ge q part with g | g
    · have h1 := fg_prev part part free q (Nat.le_refl _) hp hq g
      unfold fg_nx at h
      rw [if_neg h0] at h
      omega
    · exact g
  · intro h
    have := fg_nx_lt (free := free) h0
    omega
/-- how many parts of f there are below n -/
def fg_cs (f : Nat) : Nat → Nat
  | 0 => 0
  | n + 1 => fg_cs f n + (if fg_df n f = 0 then 1 else 0)
theorem fg_cs_const {f a : Nat} : ∀ k, (∀ q, a ≤ q → q < a + k → ¬ fg_le q f) → fg_cs f (a + k) = fg_cs f a := by
  intro k
  induction k with
  | zero => intro _; rfl
  | succ k ih =>
    intro h
    show fg_cs f (a + k) + (if fg_df (a + k) f = 0 then 1 else 0) = _
    rw [ih (fun q h1 h2 => h q h1 (by omega)), if_neg (fun g => h (a + k) (by omega) (by omega) (fg_df0.mp g))]
    rfl
theorem fg_top_le {q w f : Nat} (hq : q < 2 ^ w) : fg_le (2 ^ w + q) f ↔ f.testBit w = true ∧ fg_le q f := by
  have e : 2 ^ w + q = 2 ^ w ||| q := by
    have := Nat.two_pow_add_eq_or_of_lt hq 1
    simpa using this
  rw [e]
  constructor
  · intro h
    exact ⟨h w (by rw [Nat.testBit_or, Nat.testBit_two_pow_self]; rfl), fg_le_tr (fg_le_or2 _ _) h⟩
  · intro h
    exact fg_or_le (fg_bit_le.mpr h.1) h.2
theorem fg_cs_half (f w : Nat) : ∀ n, n ≤ 2 ^ w → fg_cs f (2 ^ w + n) = fg_cs f (2 ^ w) + (if f.testBit w = true then fg_cs f n else 0) := by
  intro n
  induction n with
  | zero => intro _; simp [fg_cs]
  | succ n ih =>
    intro h
    show fg_cs f (2 ^ w + n) + (if fg_df (2 ^ w + n) f = 0 then 1 else 0) = _
    rw [ih (by omega)]
    have h1 := fg_top_le (f := f) (show n < 2 ^ w by omega)
    by_cases hb : f.testBit w = true
    · rw [if_pos hb, if_pos hb]
      show _ = _ + (fg_cs f n + (if fg_df n f = 0 then 1 else 0))
      by_cases hn : fg_df n f = 0
      · rw [if_pos hn, if_pos (fg_df0.mpr (h1.mpr ⟨hb, fg_df0.mp hn⟩))]; omega
      · rw [if_neg hn, if_neg (fun g => hn (fg_df0.mpr (h1.mp (fg_df0.mp g)).2))]; omega
    · rw [if_neg hb, if_neg hb, if_neg (fun g => hb (h1.mp (fg_df0.mp g)).1)]
theorem fg_cs_pow (f : Nat) : ∀ w, fg_cs f (2 ^ w) = 2 ^ fg_pcw w f := by
  intro w
  induction w with
  | zero => simp [fg_cs, fg_pcw, fg_df]
  | succ w ih =>
    have h := fg_cs_half f w (2 ^ w) (Nat.le_refl _)
    rw [show 2 ^ (w + 1) = 2 ^ w + 2 ^ w by rw [Nat.pow_succ]; omega, h, ih]
    show _ = 2 ^ (fg_pcw w f + (f.testBit w).toNat)
    cases f.testBit w
    · simp
    · simp [Nat.pow_succ]; omega
theorem fg_cs_all {f : Nat} (h : f < 4096) : fg_cs f (f + 1) = 2 ^ fg_pc f := by
  have h1 := fg_cs_pow f 12
  have h2 := fg_cs_const (f := f) (a := f + 1) (4096 - (f + 1)) (fun q g1 g2 g => by have := fg_le_le g; omega)
  rw [show f + 1 + (4096 - (f + 1)) = 4096 by omega] at h2
  rw [← h2]
  exact h1
theorem fg_cs_pos {f n : Nat} (h : 0 < n) : 1 ≤ fg_cs f n := by
  induction n with
  | zero => omega
  | succ n ih =>
    rcases Nat.eq_zero_or_pos n with h1 | h1
    · subst h1
      simp [fg_cs, fg_df]
    · have := ih h1
      show 1 ≤ _ + _
      omega
theorem fg_cs_self {f p : Nat} (h : fg_le p f) : fg_cs f (p + 1) = fg_cs f p + 1 := by
  show _ + _ = _
  rw [if_pos (fg_df0.mpr h)]
theorem fg_cs_nx {f p : Nat} (h : fg_le p f) (h0 : p ≠ 0) : fg_cs f p = fg_cs f (fg_nx p f + 1) := by
  have h1 := fg_nx_lt (free := f) h0
  have h2 := fg_cs_const (f := f) (a := fg_nx p f + 1) (p - (fg_nx p f + 1)) (fun q g1 g2 g => by
    have := (fg_nx_between h g h0).mp (by omega)
    omega)
  rw [show fg_nx p f + 1 + (p - (fg_nx p f + 1)) = p by omega] at h2
  exact h2
theorem fg_pc_lt (n : Nat) : 2 ^ fg_pc n ≤ 4096 := by
  calc 2 ^ fg_pc n ≤ 2 ^ 12 := Nat.pow_le_pow_right (by decide) (fg_pcw_le 12 n)
    _ = 4096 := by decide
theorem fg_pc_le (n : Nat) : fg_pc n ≤ 12 := fg_pcw_le 12 n
theorem fg_pc_mono {a b : Nat} (h : fg_le a b) : fg_pc a ≤ fg_pc b := fg_pcw_mono h 12
theorem fg_pc_eq {a b : Nat} (h : fg_le a b) (hb : b < 4096) (he : fg_pc a = fg_pc b) : a = b := fg_pcw_eq h 12 hb he
/-- the loop over all parts of a set, from itself down, counted by how many there are -/
theorem fg_descLoop {σ : Type} {free : Nat} (hfree : free < 4096) (W : Nat → Nat → σ → Prop) (Inv : (Nat → Prop) → σ → Prop)
    (hx : ∀ part s, Inv (fun q => fg_le q free) s → W 0 part s)
    (hs : ∀ left part s, left < 4096 → fg_le part free → Inv (fun q => fg_le q free ∧ part < q) s → (∀ s', Inv (fun q => fg_le q free ∧ part ≤ q) s' → W left (fg_nx part free) s') → W (left + 1) part s)
    (s : σ) (h0 : Inv (fun _ => False) s) : W (2 ^ fg_pc free) free s := by
  have key : ∀ (left part : Nat) (s : σ), left < 4096 → fg_le part free → left + 1 = fg_cs free (part + 1) → Inv (fun q => fg_le q free ∧ part < q) s → W (left + 1) part s := by
    intro left
    induction left with
    | zero =>
      intro part s _ hp hc hi
      refine hs 0 part s (by decide) hp hi (fun s' hi' => hx _ _ ?_)
      rw [fg_cs_self hp] at hc
      have hp0 : part = 0 := by
        rcases Nat.eq_zero_or_pos part with h | h
        · exact h
        · have := fg_cs_pos (f := free) h
          omega
      subst hp0
      have e : (fun q => fg_le q free ∧ 0 ≤ q) = (fun q => fg_le q free) := by
        funext q
        exact propext ⟨fun h => h.1, fun h => ⟨h, Nat.zero_le _⟩⟩
      rw [e] at hi'
      exact hi'
    | succ left ih =>
      intro part s hl hp hc hi
      refine hs (left + 1) part s hl hp hi (fun s' hi' => ?_)
      rw [fg_cs_self hp] at hc
      have h0 : part ≠ 0 := by
        intro h
        subst h
        have : fg_cs free 0 = 0 := rfl
        omega
      refine ih (fg_nx part free) s' (by omega) (fg_nx_le _ _) ?_ ?_
      · rw [← fg_cs_nx hp h0]; omega
      · have e : (fun q => fg_le q free ∧ fg_nx part free < q) = (fun q => fg_le q free ∧ part ≤ q) := by
          funext q
          exact propext ⟨fun h => ⟨h.1, (fg_nx_between hp h.1 h0).mp h.2⟩, fun h => ⟨h.1, (fg_nx_between hp h.1 h0).mpr h.2⟩⟩
        rw [e]
        exact hi'
  have hpos : 0 < 2 ^ fg_pc free := Nat.two_pow_pos _
  have hle := fg_pc_lt free
  have h1 := key (2 ^ fg_pc free - 1) free s (by omega) (fg_le_rf _) (by rw [fg_cs_all hfree]; omega) (by
    have e : (fun q => fg_le q free ∧ free < q) = (fun _ => False) := by
      funext q
      exact propext ⟨fun h => by have := fg_le_le h.1; omega, fun h => h.elim⟩
    rw [e]
    exact h0)
  rw [show 2 ^ fg_pc free - 1 + 1 = 2 ^ fg_pc free by omega] at h1
  exact h1
/-- .. and while a part is not yet 0 -/
theorem fg_descLoop2 {σ : Type} {free : Nat} (W : Nat → σ → Prop) (Z : σ → Prop) (Inv : (Nat → Prop) → σ → Prop)
    (hx : ∀ s, Inv (fun q => fg_le q free) s → Z s)
    (hs : ∀ part s, fg_le part free → Inv (fun q => fg_le q free ∧ part < q) s → (∀ s', Inv (fun q => fg_le q free ∧ part ≤ q) s' → part = 0 → Z s') → (∀ s', Inv (fun q => fg_le q free ∧ part ≤ q) s' → part ≠ 0 → W (fg_nx part free) s') → W part s)
    (s : σ) (h0 : Inv (fun _ => False) s) : W free s := by
  have key : ∀ (n part : Nat) (s : σ), part < n → fg_le part free → Inv (fun q => fg_le q free ∧ part < q) s → W part s := by
    intro n
    induction n with
    | zero => intro part s h; exact absurd h (Nat.not_lt_zero _)
    | succ n ih =>
      intro part s hn hp hi
      refine hs part s hp hi (fun s' hi' h0 => hx s' ?_) (fun s' hi' h0 => ?_)
      · subst h0
        have e : (fun q => fg_le q free ∧ 0 ≤ q) = (fun q => fg_le q free) := by
          funext q
          exact propext ⟨fun h => h.1, fun h => ⟨h, Nat.zero_le _⟩⟩
        rw [e] at hi'
        exact hi'
      · refine ih (fg_nx part free) s' ?_ (fg_nx_le _ _) ?_
        · have := fg_nx_lt (free := free) h0; omega
        · have e : (fun q => fg_le q free ∧ fg_nx part free < q) = (fun q => fg_le q free ∧ part ≤ q) := by
            funext q
            exact propext ⟨fun h => ⟨h.1, (fg_nx_between hp h.1 h0).mp h.2⟩, fun h => ⟨h.1, (fg_nx_between hp h.1 h0).mpr h.2⟩⟩
          rw [e]
          exact hi'
  refine key (free + 1) free s (Nat.lt_succ_self _) (fg_le_rf _) ?_
  have e : (fun q => fg_le q free ∧ free < q) = (fun _ => False) := by
    funext q
    exact propext ⟨fun h => by have := fg_le_le h.1; omega, fun h => h.elim⟩
  rw [e]
  exact h0
/-! the part that is kept -/
def fg_okp (T : Nat → Nat) (mind gone kept p : Nat) : Prop := fg_le p mind ∧ p &&& gone = 0 ∧ fg_le kept p ∧ fg_clsd T p
def fg_IsB (T : Nat → Nat) (mind gone kept : Nat) : Option Nat → Prop
  | none => ∀ p, ¬ fg_okp T mind gone kept p
  | some b => fg_okp T mind gone kept b ∧ ∀ p, fg_okp T mind gone kept p → fg_pc p < fg_pc b ∨ (fg_pc p = fg_pc b ∧ p ≤ b)
theorem fg_IsB.uniq {T : Nat → Nat} {mind gone kept : Nat} {r r' : Option Nat} (h : fg_IsB T mind gone kept r) (h' : fg_IsB T mind gone kept r') : r = r' := by
  cases r with
  | none =>
    cases r' with
    | none => rfl
    | some b => exact absurd h'.1 (h b)
  | some a =>
    cases r' with
    | none => exact absurd h.1 (h' a)
    | some b =>
      have h1 := h.2 b h'.1
      have h2 := h'.2 a h.1
      have : a = b := by omega
      rw [this]
noncomputable def fg_bst (T : Nat → Nat) (mind gone kept : Nat) : Option Nat := @dite _ (∃ r, fg_IsB T mind gone kept r) (Classical.propDecidable _) (fun h => Classical.choose h) (fun _ => none)
theorem fg_bst_of {T : Nat → Nat} {mind gone kept : Nat} {r : Option Nat} (h : fg_IsB T mind gone kept r) : fg_bst T mind gone kept = r := by
  have he : ∃ r, fg_IsB T mind gone kept r := ⟨r, h⟩
  have e : fg_bst T mind gone kept = Classical.choose he := @dif_pos _ (Classical.propDecidable _) he _ _ _
  rw [e]
  exact fg_IsB.uniq (Classical.choose_spec he) h
def fg_o (r : Option Nat) : Int32 := match r with
  | none => -1
  | some b => nI b
theorem fg_negle {a : Nat} (ha : a < 2 ^ 31) : ¬ nI a ≤ (-1 : Int32) := by
  intro h
  have h1 := Int32.le_iff_toInt_le.mp h
  rw [nI_toInt ha] at h1
  have h2 : (-1 : Int32).toInt = -1 := rfl
  omega
theorem fg_neglt {a : Nat} (ha : a < 2 ^ 31) : (-1 : Int32) < nI a := by
  apply Int32.lt_iff_toInt_lt.mpr
  rw [nI_toInt ha]
  have h2 : (-1 : Int32).toInt = -1 := rfl
  omega
