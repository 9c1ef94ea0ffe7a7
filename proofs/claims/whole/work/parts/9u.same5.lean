/-! both read alike: FACTS, all unlike -/
theorem rz_df_or {s a v : Nat} (h : a.testBit v = false) : fg_df (s ||| 2 ^ v) a = fg_df s a ||| 2 ^ v := by
  apply Nat.eq_of_testBit_eq
  intro i
  rw [fg_df_bit, Nat.testBit_or, Nat.testBit_or, fg_df_bit]
  by_cases c : v = i
  · subst c
    rw [h, Nat.testBit_two_pow_self]
    simp
  · rw [Nat.testBit_two_pow_of_ne c]
    simp
theorem rz_u1_g {K V S : Nat → Nat} {many set : Nat} {Z : rz_Z} : (rz_u1 K V S many set Z).2.2.2.1 = Z.2.2.2.1 := by
  unfold rz_u1
  split <;> split <;> first | rfl | exact rz_al_g | exact rz_al_g.trans rz_al_g
theorem rz_stepU {K V S : Nat → Nat} {len w r i q many set : Nat} {Y : pz_Y} {Z : rz_Z} (hT : rz_TS K V S len) (hk : K q = 1) (hi : i = many + 1) (hsg : pz_sg w i = 117) (h : rz_Rl S q Y.1 Y.2.1 Z) (hset : Y.1 = 0 → set = Y.2.2.2.2.1) : rz_Rl S (q + 1) (pz_st w r i (V q) (S q) Y).1 (pz_st w r i (V q) (S q) Y).2.1 (rz_fa K V S (rz_u1 K V S many set Z)).2 ∧ ((pz_st w r i (V q) (S q) Y).1 = 0 → Y.1 = 0 ∧ V q < 10 ∧ set.testBit (V q) = false ∧ (rz_fa K V S (rz_u1 K V S many set Z)).1 = V q ∧ (rz_fa K V S (rz_u1 K V S many set Z)).2.2.2.2.1 = (if V q ≠ 4294967295 ∧ Z.2.2.2.1 < V q then V q else Z.2.2.2.1)) := by
  have hj := h.1
  have h1 : rz_Rn S q Y.1 Y.2.1 (if 3 ≤ many then 3 else 0) (if 3 ≤ many then rz_al 3 (S Z.1) Z else Z) := by
    by_cases c : 3 ≤ many
    · rw [if_pos c, if_pos c, hj]; exact h.al3
    · rw [if_neg c, if_neg c]; exact h
  have h2 : rz_Rn S q Y.1 Y.2.1 (if V q < 10 ∧ set.testBit (V q) = true then 2 else if 3 ≤ many then 3 else 0) (rz_u1 K V S many set Z) := by
    unfold rz_u1
    rw [hj]
    rw [hj] at h1
    by_cases c : V q < 10 ∧ set.testBit (V q) = true
    · rw [if_pos c, if_pos ⟨hk, c⟩]; exact h1.al2
    · rw [if_neg c, if_neg (show ¬ (K q = 1 ∧ V q < 10 ∧ set.testBit (V q) = true) from fun g => c g.2)]; exact h1
  obtain ⟨x, y, z⟩ := rz_Rn.nu (lo := 0) (hi := 10) hT hk h2
  have hff : Y.1 = 0 → (if 0 ≤ V q ∧ V q < 10 then (if V q < 10 ∧ set.testBit (V q) = true then 2 else if 3 ≤ many then 3 else 0) else 2) = pz_ff (pz_sg w i) i (V q) (Y.2.2.1 2) Y.2.2.2.2.1 Y.2.2.2.2.2 := fun c => by
    rw [hsg, ← hset c]
    by_cases d : V q < 10
    · rw [if_pos ⟨Nat.zero_le _, d⟩]
      by_cases e : set.testBit (V q) = true
      · rw [if_pos ⟨d, e⟩]
        exact (pz_ffF (show ¬ pz_can 117 (V q) (Y.2.2.1 2) set Y.2.2.2.2.2 from fun g => (show V q < 10 ∧ ¬ set.testBit (V q) = true from g).2 e)).symm
      · rw [if_neg (fun g => e g.2), pz_ffT (show pz_can 117 (V q) (Y.2.2.1 2) set Y.2.2.2.2.2 from (⟨d, e⟩ : V q < 10 ∧ ¬ set.testBit (V q) = true))]
        by_cases g : 3 ≤ many
        · rw [if_pos g, if_pos ⟨rfl, by omega⟩]
        · rw [if_neg g, if_neg (fun k => g (by have := k.2; omega))]
    · rw [if_neg (fun g => d g.2)]
      exact (pz_ffF (show ¬ pz_can 117 (V q) (Y.2.2.1 2) set Y.2.2.2.2.2 from fun g => d (show V q < 10 ∧ ¬ set.testBit (V q) = true from g).1)).symm
  have y2 : rz_Rl S (q + 1) (pz_st w r i (V q) (S q) Y).1 (pz_st w r i (V q) (S q) Y).2.1 (rz_nu K V S 0 10 (rz_u1 K V S many set Z)).2 := y.st hff
  refine ⟨y2.fa, fun c => ?_⟩
  obtain ⟨z1, z2⟩ := pz_st_0 c
  have hz := hff z1
  rw [z2] at hz
  have d : V q < 10 := by
    rcases Nat.lt_or_ge (V q) 10 with g | g
    · exact g
    · rw [if_neg (by omega)] at hz; exact absurd hz (by decide)
  have e : set.testBit (V q) = false := by
    rw [if_pos ⟨Nat.zero_le _, d⟩] at hz
    cases g : set.testBit (V q) with
    | false => rfl
    | true => rw [if_pos ⟨d, g⟩] at hz; exact absurd hz (by decide)
  have hx : (rz_fa K V S (rz_u1 K V S many set Z)).1 = V q := x.trans (rz_noE ⟨Nat.zero_le _, d⟩)
  refine ⟨z1, d, e, hx, ?_⟩
  rw [rz_fa_e.2.2.2.2, z, rz_u1_g]
  have hx2 : (rz_nu K V S 0 10 (rz_u1 K V S many set Z)).1 = V q := hx
  rw [hx2]
/-- none follows -/
theorem rz_un_no {K V S : Nat → Nat} {q F Pl len ah : Nat} {Z : rz_Z} (hk : K q ≠ 1) (h : rz_Rl S q F Pl Z) : rz_W q (S q) (rz_un K V S len ah Z).2 := by
  show rz_W q (S q) (rz_ul K V S (len + 2) 0 ah Z).2
  rw [rz_ul_s (f := len + 1) h.n1 (Or.inl rfl)]
  have e : rz_u1 K V S 0 ah Z = Z := by
    unfold rz_u1
    rw [if_neg (fun g => hk (by rw [← h.1]; exact g.1)), if_neg (by decide)]
  rw [e]
  exact (rz_W.gr (h.no (lo := 0) (hi := 10) hk)).ul
def rz_PU (S : Nat → Nat) (q ah cb : Nat) (C1 Cz : Nat → Nat) (m set : Nat) (Z : rz_Z) (Y : pz_Y) : Prop := rz_Rl S (q + m + 1) Y.1 Y.2.1 Z ∧ (Y.1 = 0 → set = Y.2.2.2.2.1 ∧ fg_le ah set ∧ Y.2.2.1 = pz_up C1 cb (fg_df set ah) ∧ rz_gt Z.2.2.2.1 Y.2.2.2.1 ∧ Z.2.2.2.2 = Cz)
theorem rz_ulRel {K V S : Nat → Nat} {len w r q ah cb : Nat} {C1 Cz : Nat → Nat} (hT : rz_TS K V S len) (hsg : ∀ i, 1 ≤ i → pz_sg w i = 117) (hkp : ∀ i v fi C, 1 ≤ i → pz_kp w r i v fi C = pz_up C cb (C cb ||| 2 ^ v)) : ∀ (n m set fr : Nat) (Z : rz_Z) (Y : pz_Y), len ≤ n + (q + m + 1) → len + 2 ≤ fr + m → (m ≠ 0 ∨ K (q + m + 1) = 1) → rz_PU S q ah cb C1 Cz m set Z Y → ∃ m', (K (q + m + 1) = 1 → m + 1 ≤ m') ∧ m ≤ m' ∧ (pz_nl K V S w r q (len - (m + 1)) (m + 1) Y).1 = m' + 1 ∧ K (q + m' + 1) ≠ 1 ∧ rz_PU S q ah cb C1 Cz m' (rz_ul K V S fr m set Z).1 (rz_ul K V S fr m set Z).2 (pz_nl K V S w r q (len - (m + 1)) (m + 1) Y).2 := by
  intro n
  induction n with
  | zero =>
    intro m set fr Z Y h1 h2 h3 hP
    have hk : K (q + m + 1) ≠ 1 := fun hk => by have := ((hT (q + m + 1)).1 (by omega)).2; omega
    have hm : m ≠ 0 := h3.elim id (fun g => absurd g hk)
    rw [rz_ul_e (Or.inr ⟨hm, by rw [hP.1.1]; exact hk⟩), pz_nl_e (K := K) (q := q) (i := m + 1) (fun g => hk g.1)]
    exact ⟨m, fun g => absurd g hk, Nat.le_refl _, rfl, hk, hP⟩
  | succ n ih =>
    intro m set fr Z Y h1 h2 h3 hP
    by_cases hk : K (q + m + 1) = 1
    · have hlt := ((hT (q + m + 1)).1 (by omega)).2
      obtain ⟨fr', rfl⟩ : ∃ f, fr = f + 1 := ⟨fr - 1, by omega⟩
      have hs117 := hsg (m + 1) (by omega)
      obtain ⟨hR, hD⟩ := hP
      rw [rz_ul_s hR.n1 (Or.inr (by rw [hR.1]; exact hk))]
      rw [show len - (m + 1) = (len - (m + 1 + 1)) + 1 by omega, pz_nl_s (show K (q + (m + 1)) = 1 from hk) (by rw [hs117]; decide)]
      have hk2 : K (q + (m + 1)) = 1 := hk
      obtain ⟨s1, s2⟩ := rz_stepU (w := w) (r := r) (i := m + 1) (many := m) (set := set) hT hk2 rfl hs117 hR (fun c => (hD c).1)
      obtain ⟨m', p1, p2, p3, p4, p5⟩ := ih (m + 1) (rz_or set (rz_fa K V S (rz_u1 K V S m set Z)).1) fr' (rz_fa K V S (rz_u1 K V S m set Z)).2 (pz_st w r (m + 1) (V (q + (m + 1))) (S (q + (m + 1))) Y) (by omega) (by omega) (Or.inl (by omega)) (by
        refine ⟨s1, fun c => ?_⟩
        obtain ⟨c0, c1, c2, c3, c4⟩ := s2 c
        obtain ⟨d1, d2, d3, d4, d5⟩ := hD c0
        have eor : rz_or set (rz_fa K V S (rz_u1 K V S m set Z)).1 = set ||| 2 ^ V (q + (m + 1)) := by
          rw [c3]; exact if_neg (by omega)
        rw [eor]
        have hah : ah.testBit (V (q + (m + 1))) = false := by
          cases g : ah.testBit (V (q + (m + 1))) with
          | false => rfl
          | true => rw [d2 _ g] at c2; exact absurd c2 (by decide)
        refine ⟨?_, fg_le_tr d2 (fg_le_or1 _ _), ?_, ?_, ?_⟩
        · show _ = pz_tf (pz_sg w (m + 1)) (V (q + (m + 1))) Y.2.2.2.2.1
          rw [hs117, ← d1]; exact (if_pos (Or.inr rfl)).symm
        · show pz_kp w r (m + 1) (V (q + (m + 1))) _ Y.2.2.1 = _
          rw [hkp _ _ _ _ (by omega), d3, pz_up_eq, rz_df_or hah]
          funext k
          by_cases e : k = cb
          · rw [e, pz_up_eq, pz_up_eq]
          · rw [pz_up_ne e, pz_up_ne e, pz_up_ne e]
        · rw [c4]
          show rz_gt _ (pz_tf (pz_sg w (m + 1)) (V (q + (m + 1))) Y.2.2.2.1)
          rw [hs117, show pz_tf 117 (V (q + (m + 1))) Y.2.2.2.1 = Y.2.2.2.1 ||| 2 ^ V (q + (m + 1)) from if_pos (Or.inr rfl)]
          exact rz_gt_up d4 (by omega)
        · rw [rz_fa_C, rz_u1_C]; exact d5)
      exact ⟨m', fun _ => p2, by omega, p3, p4, p5⟩
    · have hm : m ≠ 0 := h3.elim id (fun g => absurd g hk)
      rw [rz_ul_e (Or.inr ⟨hm, by rw [hP.1.1]; exact hk⟩), pz_nl_e (K := K) (q := q) (i := m + 1) (fun g => hk g.1)]
      exact ⟨m, fun g => absurd g hk, Nat.le_refl _, rfl, hk, hP⟩
