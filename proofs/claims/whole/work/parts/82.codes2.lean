/-! digits -/
def fg_dg (K n c i : Nat) : Nat := c / K ^ (n - 1 - i) % K
theorem fg_V_dg {K : Nat} : ∀ (n c : Nat), fg_V K n (fg_dg K n c) = c % K ^ n := by
  intro n
  induction n with
  | zero => intro c; show 0 = c % 1; rw [Nat.mod_one]
  | succ n ih =>
    intro c
    have e : (fun i => fg_dg K (n + 1) c (i + 1)) = fg_dg K n c := by
      funext i
      unfold fg_dg
      rw [show n + 1 - 1 - (i + 1) = n - 1 - i by omega]
    show c / K ^ (n + 1 - 1 - 0) % K * K ^ n + fg_V K n (fun i => fg_dg K (n + 1) c (i + 1)) = c % K ^ (n + 1)
    rw [e, ih c, show n + 1 - 1 - 0 = n by omega, Nat.pow_succ, Nat.mod_mul, Nat.mul_comm, Nat.add_comm]
theorem fg_dg_V {K : Nat} (hK : 0 < K) : ∀ (n : Nat) (d : Nat → Nat), (∀ i, i < n → d i < K) → ∀ i, i < n → fg_dg K n (fg_V K n d) i = d i := by
  intro n
  induction n with
  | zero => intro d _ i hi; exact absurd hi (Nat.not_lt_zero _)
  | succ n ih =>
    intro d hd i hi
    have hV := fg_V_lt n (fun j => d (j + 1)) (fun j hj => hd (j + 1) (by omega))
    have hp : ∀ e, 0 < K ^ e := fun e => Nat.pow_pos hK
    show (d 0 * K ^ n + fg_V K n (fun j => d (j + 1))) / K ^ (n + 1 - 1 - i) % K = d i
    rcases Nat.eq_zero_or_pos i with z | z
    · rw [z, show n + 1 - 1 - 0 = n by omega, Nat.add_comm, Nat.mul_comm, Nat.add_mul_div_left _ _ (hp n), Nat.div_eq_of_lt hV, Nat.zero_add]
      exact Nat.mod_eq_of_lt (hd 0 (by omega))
    · obtain ⟨j, rfl⟩ : ∃ j, i = j + 1 := ⟨i - 1, by omega⟩
      have h1 := ih (fun j => d (j + 1)) (fun j hj => hd (j + 1) (by omega)) j (by omega)
      have e : d 0 * K ^ n = K ^ (n - 1 - j) * (K * (K ^ j * d 0)) := by
        have : K ^ n = K ^ (n - 1 - j) * (K * K ^ j) := by
          rw [Nat.mul_comm K, ← Nat.pow_succ, ← Nat.pow_add, show n - 1 - j + (j + 1) = n by omega]
        rw [this, Nat.mul_comm, Nat.mul_assoc, Nat.mul_assoc]
      rw [show n + 1 - 1 - (j + 1) = n - 1 - j by omega, e, Nat.add_comm, Nat.add_mul_div_left _ _ (hp _), Nat.add_mul_mod_self_left]
      exact h1
theorem fg_GD_cg {T : Nat → Nat} {kd S : Nat} : ∀ (n m u : Nat) (d d' : Nat → Nat), (∀ i, i < n → d i = d' i) → fg_GD T kd S n m u d → fg_GD T kd S n m u d' := by
  intro n
  induction n with
  | zero => intro _ _ _ _ _ _; trivial
  | succ n ih =>
    intro m u d d' h hd
    have h0 := h 0 (by omega)
    have h1 := hd.1
    have h2 := hd.2.1
    have h3 := ih _ _ _ _ (fun i hi => h (i + 1) (by omega)) hd.2.2
    rw [h0] at h1 h2 h3
    exact ⟨h1, h2, h3⟩
theorem fg_or_code {T : Nat → Nat} (hok : fg_ok T) {kd S m c w : Nat} (hS : S < 2 ^ T 0) (h5 : fg_pc S ≤ 5) (hw : w < fg_pc S) (hc : c < fg_pc S ^ fg_pc S) (hG : fg_GD T kd S (fg_pc S) m 0 (fg_dg (fg_pc S) (fg_pc S) c)) (hno : ∀ c', c' < c → ¬ fg_GD T kd S (fg_pc S) m 0 (fg_dg (fg_pc S) (fg_pc S) c')) : fg_oA (fg_or T kd 5 m S) w = nI (fg_fi S (fg_dg (fg_pc S) (fg_pc S) c w)) := by
  have hS10 : S < 1024 := fg_p10 hS hok.1.2
  have h := fg_or_is hok (kd := kd) hS10 5 (fg_pc S) m S 0 h5 rfl hS (fun f => ⟨fun a => ⟨a, by rw [Nat.zero_testBit]; exact fun b => Bool.noConfusion b⟩, fun a => a.1⟩)
  cases hg : fg_or T kd 5 m S with
  | none => exact absurd hG (h.1 hg _)
  | some g =>
    obtain ⟨g1, g2, g3⟩ := h.2 g hg
    have h1 := g3 _ hG
    rw [fg_V_dg, Nat.mod_eq_of_lt hc] at h1
    have hd := fg_dg_V (K := fg_pc S) (by omega) (fg_pc S) (fun i => fg_pcw (g i) S) (fun i hi => fg_pcw_in hS10 (g2 i hi))
    have h2 : ¬ fg_V (fg_pc S) (fg_pc S) (fun i => fg_pcw (g i) S) < c := fun hl => hno _ hl (fg_GD_cg _ _ _ _ _ (fun i hi => (hd i hi).symm) g1)
    have h3 : fg_V (fg_pc S) (fg_pc S) (fun i => fg_pcw (g i) S) = c := by omega
    have h4 := hd w hw
    rw [h3] at h4
    rw [h4, fg_fi_of hS10 (g2 w hw)]
    rfl
theorem fg_or_noco {T : Nat → Nat} (hok : fg_ok T) {kd S m w : Nat} (hS : S < 2 ^ T 0) (h0 : 0 < fg_pc S) (h5 : fg_pc S ≤ 5) (hno : ∀ c', c' < fg_pc S ^ fg_pc S → ¬ fg_GD T kd S (fg_pc S) m 0 (fg_dg (fg_pc S) (fg_pc S) c')) : fg_oA (fg_or T kd 5 m S) w = -1 := by
  have hS10 : S < 1024 := fg_p10 hS hok.1.2
  have h := fg_or_is hok (kd := kd) hS10 5 (fg_pc S) m S 0 h5 rfl hS (fun f => ⟨fun a => ⟨a, by rw [Nat.zero_testBit]; exact fun b => Bool.noConfusion b⟩, fun a => a.1⟩)
  cases hg : fg_or T kd 5 m S with
  | none => rfl
  | some g =>
    obtain ⟨g1, g2, g3⟩ := h.2 g hg
    have hlt := fg_V_lt (K := fg_pc S) (fg_pc S) (fun i => fg_pcw (g i) S) (fun i hi => fg_pcw_in hS10 (g2 i hi))
    have hd := fg_dg_V (K := fg_pc S) h0 (fg_pc S) (fun i => fg_pcw (g i) S) (fun i hi => fg_pcw_in hS10 (g2 i hi))
    exact absurd (fg_GD_cg _ _ _ _ _ (fun i hi => (hd i hi).symm) g1) (hno _ hlt)
/-! all digits there, each once -/
def fg_us : Nat → (Nat → Nat) → Nat
  | 0, _ => 0
  | n + 1, d => 2 ^ d 0 ||| fg_us n (fun i => d (i + 1))
noncomputable def fg_sim (T : Nat → Nat) (kd S : Nat) : Nat → Nat → (Nat → Nat) → Prop
  | 0, _, _ => True
  | n + 1, m, d => ¬ fg_w T (fg_fgt T m (fg_fi S (d 0)) kd) < fg_w T m ∧ fg_sim T kd S n (fg_fgt T m (fg_fi S (d 0)) kd) (fun i => d (i + 1))
theorem fg_pcw_or (a b : Nat) : ∀ w, fg_pcw w (a ||| b) ≤ fg_pcw w a + fg_pcw w b := by
  intro w
  induction w with
  | zero => exact Nat.le_refl _
  | succ w ih =>
    show fg_pcw w (a ||| b) + ((a ||| b).testBit w).toNat ≤ fg_pcw w a + (a.testBit w).toNat + (fg_pcw w b + (b.testBit w).toNat)
    rw [Nat.testBit_or]
    cases a.testBit w <;> cases b.testBit w <;> simp <;> omega
theorem fg_pc_or1 (a b : Nat) : fg_pc (a ||| b) ≤ fg_pc a + fg_pc b := fg_pcw_or a b 12
theorem fg_pc_2 {f : Nat} (h : f < 5) : fg_pc (2 ^ f) = 1 := by
  rcases (show f = 0 ∨ f = 1 ∨ f = 2 ∨ f = 3 ∨ f = 4 by omega) with rfl | rfl | rfl | rfl | rfl <;> decide
theorem fg_us_pc : ∀ (n : Nat) (d : Nat → Nat), (∀ i, i < n → d i < 5) → fg_pc (fg_us n d) ≤ n := by
  intro n
  induction n with
  | zero => intro d _; exact Nat.le_of_eq (by show fg_pc 0 = 0; decide)
  | succ n ih =>
    intro d h
    have h1 := ih (fun i => d (i + 1)) (fun i hi => h (i + 1) (by omega))
    have h2 := fg_pc_or1 (2 ^ d 0) (fg_us n (fun i => d (i + 1)))
    rw [fg_pc_2 (h 0 (by omega))] at h2
    show fg_pc (2 ^ d 0 ||| fg_us n (fun i => d (i + 1))) ≤ n + 1
    omega
theorem fg_pc_new {u f : Nat} (h : ¬ u.testBit f = true) (hf : f < 5) : fg_pc (u ||| 2 ^ f) = fg_pc u + 1 := by
  have h1 := fg_pc_df (m := u ||| 2 ^ f) (x := 2 ^ f) (fg_le_or2 _ _)
  have e : fg_df (u ||| 2 ^ f) (2 ^ f) = u := by
    apply Nat.eq_of_testBit_eq
    intro i
    rw [fg_df_bit, Nat.testBit_or]
    rcases Nat.decEq f i with g | g
    · rw [Nat.testBit_two_pow_of_ne g]; cases u.testBit i <;> rfl
    · subst g
      have h3 : u.testBit f = false := by simpa using h
      rw [Nat.testBit_two_pow_self, h3]; rfl
  rw [e, fg_pc_2 hf] at h1
  omega
theorem fg_GD_us {T : Nat → Nat} {kd S : Nat} : ∀ (n m u : Nat) (d : Nat → Nat), (∀ i, i < n → d i < fg_pc S) → fg_pc S ≤ 5 → (fg_GD T kd S n m u d ↔ fg_pc (u ||| fg_us n d) = fg_pc u + n ∧ fg_sim T kd S n m d) := by
  intro n
  induction n with
  | zero =>
    intro m u d _ _
    refine ⟨fun _ => ⟨?_, trivial⟩, fun _ => trivial⟩
    show fg_pc (u ||| 0) = _
    rw [Nat.or_zero]; rfl
  | succ n ih =>
    intro m u d hd h5
    have h0 := hd 0 (by omega)
    have hI := ih (fg_fgt T m (fg_fi S (d 0)) kd) (u ||| 2 ^ d 0) (fun i => d (i + 1)) (fun i hi => hd (i + 1) (by omega)) h5
    have eo : u ||| fg_us (n + 1) d = u ||| 2 ^ d 0 ||| fg_us n (fun i => d (i + 1)) := (Nat.or_assoc _ _ _).symm
    rw [eo]
    constructor
    · intro h
      obtain ⟨g1, g2⟩ := hI.mp h.2.2
      have g3 := fg_pc_new h.1.1 (show d 0 < 5 by omega)
      exact ⟨by omega, h.2.1, g2⟩
    · intro h
      have g1 := fg_pc_or1 (u ||| 2 ^ d 0) (fg_us n (fun i => d (i + 1)))
      have g2 := fg_us_pc n (fun i => d (i + 1)) (fun i hi => by have := hd (i + 1) (by omega); omega)
      have g3 := h.1
      have g4 : ¬ u.testBit (d 0) = true := fun hb => by
        rw [fg_or_eq (fg_bit_le.mpr hb)] at g1 g3
        omega
      have g5 := fg_pc_new g4 (show d 0 < 5 by omega)
      exact ⟨⟨g4, h0⟩, h.2.1, hI.mpr ⟨by omega, h.2.2⟩⟩
theorem fg_us_lt {K : Nat} : ∀ (n : Nat) (d : Nat → Nat), (∀ i, i < n → d i < K) → fg_us n d < 2 ^ K := by
  intro n
  induction n with
  | zero => intro d _; exact Nat.two_pow_pos _
  | succ n ih =>
    intro d h
    exact fg_or_lt (Nat.pow_lt_pow_right (by decide) (h 0 (by omega))) (ih _ (fun i hi => h (i + 1) (by omega)))
theorem fg_us_full {K x : Nat} (hK : K ≤ 5) (hx : x < 2 ^ K) : fg_pc x = K ↔ x = 2 ^ K - 1 := by
  have hp : fg_pc (2 ^ K - 1) = K := by
    rcases (show K = 0 ∨ K = 1 ∨ K = 2 ∨ K = 3 ∨ K = 4 ∨ K = 5 by omega) with rfl | rfl | rfl | rfl | rfl | rfl <;> decide
  have h32 : 2 ^ K ≤ 32 := Nat.pow_le_pow_right (n := 2) (j := 5) (by decide) hK
  refine ⟨fun h => ?_, fun h => by rw [h]; exact hp⟩
  refine Classical.byContradiction fun hn => ?_
  have := fg_pc_lt2 (fg_le_all.mpr hx) (by omega) hn
  omega
theorem fg_GD_row {T : Nat → Nat} {kd S m c : Nat} (h0 : 0 < fg_pc S) (h5 : fg_pc S ≤ 5) : fg_GD T kd S (fg_pc S) m 0 (fg_dg (fg_pc S) (fg_pc S) c) ↔ fg_us (fg_pc S) (fg_dg (fg_pc S) (fg_pc S) c) = 2 ^ fg_pc S - 1 ∧ fg_sim T kd S (fg_pc S) m (fg_dg (fg_pc S) (fg_pc S) c) := by
  have hd : ∀ i, i < fg_pc S → fg_dg (fg_pc S) (fg_pc S) c i < fg_pc S := fun i _ => Nat.mod_lt _ h0
  rw [fg_GD_us _ _ _ _ hd h5, Nat.zero_or, show fg_pc 0 = 0 by decide, Nat.zero_add, fg_us_full h5 (fg_us_lt _ _ hd)]
