/-! both read alike: what is known, when one is out -/
theorem rz_W.bp {q s kn p r : Nat} {Z : rz_Z} (h : rz_W q s Z) : rz_W q s (rz_bp kn p r Z) := by
  unfold rz_bp; split <;> exact h
theorem rz_Rn.bp {S : Nat → Nat} {q F Pl f kn p r : Nat} {Z : rz_Z} (h : rz_Rn S q F Pl f Z) : rz_Rn S q F Pl f (rz_bp kn p r Z) := by
  unfold rz_bp; split <;> exact h
theorem rz_bp_g {kn p r : Nat} {Z : rz_Z} : (rz_bp kn p r Z).2.2.2.1 = Z.2.2.2.1 := by
  unfold rz_bp; split <;> rfl
theorem rz_bp_C {kn p r : Nat} {Z : rz_Z} (h : p < 5 ∧ r ≠ 4294967295) : (rz_bp kn p r Z).2.2.2.2 = pz_up Z.2.2.2.2 (40 + 3 * p + (if kn = 0 then 2 else 1)) (Z.2.2.2.2 (40 + 3 * p + (if kn = 0 then 2 else 1)) ||| 2 ^ r) := by
  unfold rz_bp; rw [if_pos h]; rfl
theorem pz_kp_b {w r i v fi : Nat} {C : Nat → Nat} (hw : w = 3 ∨ w = 4) (hi : 0 < i) : pz_kp w r i v fi C = pz_up C (40 + (fi * 3 + (w - 2))) (C (40 + (fi * 3 + (w - 2))) ||| 2 ^ v) := by
  unfold pz_kp
  rw [if_neg (by omega), if_neg (by omega), if_pos hw, if_pos hi]
  rfl
theorem pz_kp_b0 {w r v fi : Nat} {C : Nat → Nat} (hw : w = 3 ∨ w = 4) : pz_kp w r 0 v fi C = C := by
  unfold pz_kp
  rw [if_neg (by omega), if_neg (by omega), if_pos hw, if_neg (by omega)]
def rz_PB (S : Nat → Nat) (q p m : Nat) (Z : rz_Z) (Y : pz_Y) : Prop := rz_Rl S (q + m + 1) Y.1 Y.2.1 Z ∧ (Y.1 = 0 → Z.2.2.2.2 = Y.2.2.1 ∧ rz_gt Z.2.2.2.1 Y.2.2.2.1 ∧ Y.2.2.2.2.2 = p ∧ p < 5)
theorem rz_blRel3 {K V S : Nat → Nat} {len r q p : Nat} (hT : rz_TS K V S len) : ∀ (n m fr : Nat) (Z : rz_Z) (Y : pz_Y), len ≤ n + (q + m + 1) → len + 2 ≤ fr + m → (m ≠ 0 ∨ K (q + m + 1) = 1) → rz_PB S q p m Z Y → ∃ m', (K (q + m + 1) = 1 → m + 1 ≤ m') ∧ m ≤ m' ∧ (pz_nl K V S 3 r q (len - (m + 1)) (m + 1) Y).1 = m' + 1 ∧ K (q + m' + 1) ≠ 1 ∧ rz_PB S q p m' (rz_bl K V S 1 p fr m Z) (pz_nl K V S 3 r q (len - (m + 1)) (m + 1) Y).2 := by
  intro n
  induction n with
  | zero =>
    intro m fr Z Y h1 h2 h3 hP
    have hk : K (q + m + 1) ≠ 1 := fun hk => by have := ((hT (q + m + 1)).1 (by omega)).2; omega
    have hm : m ≠ 0 := h3.elim id (fun g => absurd g hk)
    rw [rz_bl_e (Or.inr ⟨hm, by rw [hP.1.1]; exact hk⟩), pz_nl_e (K := K) (q := q) (i := m + 1) (fun g => hk g.1)]
    exact ⟨m, fun g => absurd g hk, Nat.le_refl _, rfl, hk, hP⟩
  | succ n ih =>
    intro m fr Z Y h1 h2 h3 hP
    by_cases hk : K (q + m + 1) = 1
    · have hlt := ((hT (q + m + 1)).1 (by omega)).2
      have hv9 := (hT (q + (m + 1))).2.1
      obtain ⟨fr', rfl⟩ : ∃ f, fr = f + 1 := ⟨fr - 1, by omega⟩
      have hs117 : pz_sg 3 (m + 1) = 102 := (pz_sgv_3 (m + 1)).2 (by omega)
      obtain ⟨hR, hD⟩ := hP
      rw [rz_bl_s hR.n1 (Or.inr (by rw [hR.1]; exact hk))]
      rw [show len - (m + 1) = (len - (m + 1 + 1)) + 1 by omega, pz_nl_s (show K (q + (m + 1)) = 1 from hk) (by rw [hs117]; decide)]
      have hk2 : K (q + (m + 1)) = 1 := hk
      obtain ⟨s1, g1, s2⟩ := rz_stepN (w := 3) (r := r) (i := m + 1) (lo := 0) (hi := 10) (Y := Y) hT hk2 hR (fun _ => pz_ffE (by rw [hs117]; decide) (by rw [hs117]; exact (show (V (q + (m + 1)) < 10) ↔ _ by omega)))
      have t1 : rz_Rl S (q + (m + 1) + 1) (pz_st 3 r (m + 1) (V (q + (m + 1))) (S (q + (m + 1))) Y).1 (pz_st 3 r (m + 1) (V (q + (m + 1))) (S (q + (m + 1))) Y).2.1 (rz_b1 K V S 1 Z).2 := s1.fa
      have t2 : (pz_st 3 r (m + 1) (V (q + (m + 1))) (S (q + (m + 1))) Y).1 = 0 → Y.1 = 0 ∧ (0 ≤ V (q + (m + 1)) ∧ V (q + (m + 1)) < 10) ∧ (rz_b1 K V S 1 Z).1 = V (q + (m + 1)) := s2
      have tC : (rz_b1 K V S 1 Z).2.2.2.2.2 = Z.2.2.2.2 := rz_fa_C
      obtain ⟨m', p1, p2, p3, p4, p5⟩ := ih (m + 1) fr' (rz_bp 1 p (rz_b1 K V S 1 Z).1 (rz_b1 K V S 1 Z).2) (pz_st 3 r (m + 1) (V (q + (m + 1))) (S (q + (m + 1))) Y) (by omega) (by omega) (Or.inl (by omega)) (by
        refine ⟨rz_Rn.bp t1, fun c => ?_⟩
        obtain ⟨c0, c1, c3⟩ := t2 c
        obtain ⟨d1, d2, d3, d4⟩ := hD c0
        refine ⟨?_, ?_, ?_, d4⟩
        · rw [rz_bp_C ⟨d4, by rw [c3]; omega⟩, tC, d1, c3]
          show _ = pz_kp 3 r (m + 1) (V (q + (m + 1))) Y.2.2.2.2.2 Y.2.2.1
          rw [pz_kp_b (by decide) (by omega), d3]
          show pz_up Y.2.2.1 (40 + 3 * p + 1) (Y.2.2.1 (40 + 3 * p + 1) ||| 2 ^ V (q + (m + 1))) = pz_up Y.2.2.1 (40 + (p * 3 + 1)) (Y.2.2.1 (40 + (p * 3 + 1)) ||| 2 ^ V (q + (m + 1)))
          rw [show 40 + 3 * p + 1 = 40 + (p * 3 + 1) by omega]
        · rw [rz_bp_g]
          show rz_gt _ (pz_tf (pz_sg 3 (m + 1)) (V (q + (m + 1))) Y.2.2.2.1)
          rw [hs117, show pz_tf 102 (V (q + (m + 1))) Y.2.2.2.1 = Y.2.2.2.1 ||| 2 ^ V (q + (m + 1)) from if_pos (Or.inl rfl)]
          have e9 : (rz_b1 K V S 1 Z).2.2.2.2.1 = (if (rz_b1 K V S 1 Z).1 ≠ 4294967295 ∧ (rz_nu K V S 0 10 Z).2.2.2.2.1 < (rz_b1 K V S 1 Z).1 then (rz_b1 K V S 1 Z).1 else (rz_nu K V S 0 10 Z).2.2.2.2.1) := rz_fa_e.2.2.2.2
          rw [e9, c3, g1]
          exact rz_gt_up d2 (by omega)
        · show pz_f1 (m + 1) (V (q + (m + 1))) Y.2.2.2.2.2 = p
          exact (if_neg (by omega)).trans d3)
      exact ⟨m', fun _ => p2, by omega, p3, p4, p5⟩
    · have hm : m ≠ 0 := h3.elim id (fun g => absurd g hk)
      rw [rz_bl_e (Or.inr ⟨hm, by rw [hP.1.1]; exact hk⟩), pz_nl_e (K := K) (q := q) (i := m + 1) (fun g => hk g.1)]
      exact ⟨m, fun g => absurd g hk, Nat.le_refl _, rfl, hk, hP⟩
theorem rz_line_3v {K V S : Nat → Nat} {len j : Nat} {X : pz_X} {Z : rz_Z} (hT : rz_TS K V S len) (hk : K j = 3) (hx5 : X.1 = 0 → X.2.2.1 2 ≤ 5) (hR : rz_Rg S 0 j X Z) {a0 : Nat × rz_Z} (ea0 : rz_nu K V S 0 ((rz_ad Z).2.2.2.2 2) (rz_ad Z) = a0) : rz_Re S 0 (pz_ln K V S len 3 j X) (rz_el K S (rz_bl K V S 1 a0.1 (len + 2) 0 a0.2)) := by
  have hk0 : K j ≠ 0 := by omega
  have h0 : rz_Rl S (j + 1) (pz_ow 3 (S j) X).1 (pz_ow 3 (S j) X).2.1 (rz_ad Z) := hR.ad hT hk0
  have ho : (pz_ow 3 (S j) X).1 = 0 → X.1 = 0 := fun z => z
  have hoC : (pz_ow 3 (S j) X).2.2.1 = X.2.2.1 := rfl
  show rz_Re S 0 (pz_le K S 3 j (pz_nl K V S 3 (X.2.2.1 (pz_ci (pz_rt 3))) (j + 1) len 0 (pz_ow 3 (S j) X))) _
  obtain ⟨hl0, ht0⟩ := pz_ow_l 3 (S j) X
  generalize eY0 : pz_ow 3 (S j) X = Y0 at h0 ho hoC hl0 ht0 ⊢
  generalize er : X.2.2.1 (pz_ci (pz_rt 3)) = r at ⊢
  have hv0 := (hT (j + 1 + 0)).2.1
  by_cases k0 : K (j + 1 + 0) = 1
  rotate_left
  · have en : pz_nl K V S 3 r (j + 1) len 0 Y0 = (0, Y0) := pz_nl_e (fun g => k0 g.1)
    rw [en]
    have hW : rz_W (j + 1 + 0) (S (j + 1 + 0)) a0.2 := by
      have hW0 : rz_W (j + 1 + 0) (S (j + 1 + 0)) (rz_nu K V S 0 ((rz_ad Z).2.2.2.2 2) (rz_ad Z)).2 := h0.no k0
      rw [ea0] at hW0; exact hW0
    exact rz_fail (by decide) (rz_W.el hW.bl)
  have hc2 : Y0.1 = 0 → (rz_ad Z).2.2.2.2 2 = Y0.2.2.1 2 := fun z => by
    have x1 := ho z
    rw [hoC]
    show Z.2.2.2.2 2 = _
    rw [(hR.2 x1).1]
  obtain ⟨h1, g1, d1⟩ := rz_stepN (w := 3) (r := r) (i := 0) (lo := 0) (hi := (rz_ad Z).2.2.2.2 2) (Y := Y0) hT k0 h0 (fun z => pz_ffE (by rw [(pz_sgv_3 0).1 rfl]; decide) (by rw [(pz_sgv_3 0).1 rfl, ← hc2 z]; exact (show (V (j + 1 + 0) < (rz_ad Z).2.2.2.2 2) ↔ _ by omega)))
  rw [ea0] at h1 g1 d1
  have hC1 : a0.2.2.2.2.2 = Z.2.2.2.2 := by rw [← ea0, rz_nu_C]; rfl
  have e1 : pz_nl K V S 3 r (j + 1) len 0 Y0 = pz_nl K V S 3 r (j + 1) (len - 1) 1 (pz_it V S 3 r (j + 1) 1 Y0) := pz_nl_it 1 len (by have := ((hT (j + 1 + 0)).1 (by omega)).2; omega) (fun i hi => by
      rcases (show i = 0 by omega) with rfl
      exact ⟨k0, by decide⟩)
  rw [e1]
  by_cases k1 : K (j + 1 + 1) = 1
  rotate_left
  · rw [pz_nl_e (K := K) (q := j + 1) (i := 1) (fun g => k1 g.1)]
    have hW2 : rz_W (j + 1 + 1) (S (j + 1 + 1)) (rz_bl K V S 1 a0.1 (len + 2) 0 a0.2) := by
      rw [rz_bl_s (f := len + 1) h1.n1 (Or.inl rfl)]
      refine rz_W.bl (rz_W.bp ?_)
      exact rz_W.gr (h1.no (lo := 0) (hi := 10) k1)
    exact rz_fail (by decide) (rz_W.el hW2)
  have hY1C : (pz_it V S 3 r (j + 1) 1 Y0).2.2.1 = X.2.2.1 := by
    rw [← hoC]
    rfl
  obtain ⟨m', p1, p2, p3, p4, p5, p6⟩ := rz_blRel3 (r := r) (q := j + 1) (p := a0.1) hT len 0 (len + 2) a0.2 (pz_it V S 3 r (j + 1) 1 Y0) (by omega) (by omega) (Or.inr k1) ⟨h1, fun z => by
    obtain ⟨z0, ok1, va1⟩ := d1 z
    have x1 := ho z0
    have hg := (hR.2 x1).2 rfl
    refine ⟨?_, ?_, ?_, ?_⟩
    · rw [hC1, hY1C, (hR.2 x1).1]
    · rw [g1]
      show rz_gt Z.2.2.2.1 (pz_tf (pz_sg 3 0) (V (j + 1 + 0)) Y0.2.2.2.1)
      rw [(pz_sgv_3 0).1 rfl, show pz_tf 112 (V (j + 1 + 0)) Y0.2.2.2.1 = Y0.2.2.2.1 from rfl, ht0]
      exact hg
    · rw [va1]; rfl
    · rw [va1]
      have h5 := hx5 x1
      have h6 := hc2 z0
      rw [hoC] at h6
      omega⟩
  have p1' := p1 k1
  generalize hres : pz_nl K V S 3 r (j + 1) (len - (0 + 1)) (0 + 1) (pz_it V S 3 r (j + 1) 1 Y0) = res at p3 p5 p6
  have hres2 : pz_nl K V S 3 r (j + 1) (len - 1) 1 (pz_it V S 3 r (j + 1) 1 Y0) = res := hres
  obtain ⟨i', Y'⟩ := res
  have p3' : i' = m' + 1 := p3
  subst p3'
  refine rz_close hT (show 2 ≤ m' + 1 by omega) p5 (fun zz => ?_)
  obtain ⟨y1, y2, y3, y4⟩ := p6 zz
  exact ⟨y1, fun _ => y2⟩
theorem rz_line_3 {K V S : Nat → Nat} {len j : Nat} {X : pz_X} {Z : rz_Z} (hT : rz_TS K V S len) (hk : K j = 3) (hx5 : X.1 = 0 → X.2.2.1 2 ≤ 5) (hR : rz_Rg S 0 j X Z) : rz_Re S 0 (pz_ln K V S len 3 j X) (rz_el K S (rz_bi K V S len 1 (rz_ad Z))) := rz_line_3v hT hk hx5 hR rfl
theorem rz_blRel4 {K V S : Nat → Nat} {len r q p : Nat} (hT : rz_TS K V S len) : ∀ (n m fr : Nat) (Z : rz_Z) (Y : pz_Y), len ≤ n + (q + m + 1) → len + 2 ≤ fr + m → (m ≠ 0 ∨ K (q + m + 1) = 1) → rz_PB S q p m Z Y → ∃ m', (K (q + m + 1) = 1 → m + 1 ≤ m') ∧ m ≤ m' ∧ (pz_nl K V S 4 r q (len - (m + 1)) (m + 1) Y).1 = m' + 1 ∧ K (q + m' + 1) ≠ 1 ∧ rz_PB S q p m' (rz_bl K V S 0 p fr m Z) (pz_nl K V S 4 r q (len - (m + 1)) (m + 1) Y).2 := by
  intro n
  induction n with
  | zero =>
    intro m fr Z Y h1 h2 h3 hP
    have hk : K (q + m + 1) ≠ 1 := fun hk => by have := ((hT (q + m + 1)).1 (by omega)).2; omega
    have hm : m ≠ 0 := h3.elim id (fun g => absurd g hk)
    rw [rz_bl_e (Or.inr ⟨hm, by rw [hP.1.1]; exact hk⟩), pz_nl_e (K := K) (q := q) (i := m + 1) (fun g => hk g.1)]
    exact ⟨m, fun g => absurd g hk, Nat.le_refl _, rfl, hk, hP⟩
  | succ n ih =>
    intro m fr Z Y h1 h2 h3 hP
    by_cases hk : K (q + m + 1) = 1
    · have hlt := ((hT (q + m + 1)).1 (by omega)).2
      have hv9 := (hT (q + (m + 1))).2.1
      obtain ⟨fr', rfl⟩ : ∃ f, fr = f + 1 := ⟨fr - 1, by omega⟩
      have hs117 : pz_sg 4 (m + 1) = 104 := (pz_sgv_4 (m + 1)).2 (by omega)
      obtain ⟨hR, hD⟩ := hP
      rw [rz_bl_s hR.n1 (Or.inr (by rw [hR.1]; exact hk))]
      rw [show len - (m + 1) = (len - (m + 1 + 1)) + 1 by omega, pz_nl_s (show K (q + (m + 1)) = 1 from hk) (by rw [hs117]; decide)]
      have hk2 : K (q + (m + 1)) = 1 := hk
      obtain ⟨s1, g1, s2⟩ := rz_stepN (w := 4) (r := r) (i := m + 1) (lo := 1) (hi := 10) (Y := Y) hT hk2 hR (fun _ => pz_ffE (by rw [hs117]; decide) (by rw [hs117]; exact (show (1 ≤ V (q + (m + 1)) ∧ V (q + (m + 1)) ≤ 9) ↔ _ by omega)))
      have t1 : rz_Rl S (q + (m + 1) + 1) (pz_st 4 r (m + 1) (V (q + (m + 1))) (S (q + (m + 1))) Y).1 (pz_st 4 r (m + 1) (V (q + (m + 1))) (S (q + (m + 1))) Y).2.1 (rz_b1 K V S 0 Z).2 := s1
      have t2 : (pz_st 4 r (m + 1) (V (q + (m + 1))) (S (q + (m + 1))) Y).1 = 0 → Y.1 = 0 ∧ (1 ≤ V (q + (m + 1)) ∧ V (q + (m + 1)) < 10) ∧ (rz_b1 K V S 0 Z).1 = V (q + (m + 1)) := s2
      have tC : (rz_b1 K V S 0 Z).2.2.2.2.2 = Z.2.2.2.2 := rz_nu_C
      obtain ⟨m', p1, p2, p3, p4, p5⟩ := ih (m + 1) fr' (rz_bp 0 p (rz_b1 K V S 0 Z).1 (rz_b1 K V S 0 Z).2) (pz_st 4 r (m + 1) (V (q + (m + 1))) (S (q + (m + 1))) Y) (by omega) (by omega) (Or.inl (by omega)) (by
        refine ⟨rz_Rn.bp t1, fun c => ?_⟩
        obtain ⟨c0, c1, c3⟩ := t2 c
        obtain ⟨d1, d2, d3, d4⟩ := hD c0
        refine ⟨?_, ?_, ?_, d4⟩
        · rw [rz_bp_C ⟨d4, by rw [c3]; omega⟩, tC, d1, c3]
          show _ = pz_kp 4 r (m + 1) (V (q + (m + 1))) Y.2.2.2.2.2 Y.2.2.1
          rw [pz_kp_b (by decide) (by omega), d3]
          show pz_up Y.2.2.1 (40 + 3 * p + 2) (Y.2.2.1 (40 + 3 * p + 2) ||| 2 ^ V (q + (m + 1))) = pz_up Y.2.2.1 (40 + (p * 3 + 2)) (Y.2.2.1 (40 + (p * 3 + 2)) ||| 2 ^ V (q + (m + 1)))
          rw [show 40 + 3 * p + 2 = 40 + (p * 3 + 2) by omega]
        · rw [rz_bp_g]
          show rz_gt _ (pz_tf (pz_sg 4 (m + 1)) (V (q + (m + 1))) Y.2.2.2.1)
          rw [hs117, show pz_tf 104 (V (q + (m + 1))) Y.2.2.2.1 = Y.2.2.2.1 from rfl]
          have e9 : (rz_b1 K V S 0 Z).2.2.2.2.1 = Z.2.2.2.1 := g1
          rw [e9]; exact d2
        · show pz_f1 (m + 1) (V (q + (m + 1))) Y.2.2.2.2.2 = p
          exact (if_neg (by omega)).trans d3)
      exact ⟨m', fun _ => p2, by omega, p3, p4, p5⟩
    · have hm : m ≠ 0 := h3.elim id (fun g => absurd g hk)
      rw [rz_bl_e (Or.inr ⟨hm, by rw [hP.1.1]; exact hk⟩), pz_nl_e (K := K) (q := q) (i := m + 1) (fun g => hk g.1)]
      exact ⟨m, fun g => absurd g hk, Nat.le_refl _, rfl, hk, hP⟩
theorem rz_line_4v {K V S : Nat → Nat} {len j : Nat} {X : pz_X} {Z : rz_Z} (hT : rz_TS K V S len) (hk : K j = 3) (hx5 : X.1 = 0 → X.2.2.1 2 ≤ 5) (hR : rz_Rg S 0 j X Z) {a0 : Nat × rz_Z} (ea0 : rz_nu K V S 0 ((rz_ad Z).2.2.2.2 2) (rz_ad Z) = a0) : rz_Re S 0 (pz_ln K V S len 4 j X) (rz_el K S (rz_bl K V S 0 a0.1 (len + 2) 0 a0.2)) := by
  have hk0 : K j ≠ 0 := by omega
  have h0 : rz_Rl S (j + 1) (pz_ow 4 (S j) X).1 (pz_ow 4 (S j) X).2.1 (rz_ad Z) := hR.ad hT hk0
  have ho : (pz_ow 4 (S j) X).1 = 0 → X.1 = 0 := fun z => z
  have hoC : (pz_ow 4 (S j) X).2.2.1 = X.2.2.1 := rfl
  show rz_Re S 0 (pz_le K S 4 j (pz_nl K V S 4 (X.2.2.1 (pz_ci (pz_rt 4))) (j + 1) len 0 (pz_ow 4 (S j) X))) _
  obtain ⟨hl0, ht0⟩ := pz_ow_l 4 (S j) X
  generalize eY0 : pz_ow 4 (S j) X = Y0 at h0 ho hoC hl0 ht0 ⊢
  generalize er : X.2.2.1 (pz_ci (pz_rt 4)) = r at ⊢
  have hv0 := (hT (j + 1 + 0)).2.1
  by_cases k0 : K (j + 1 + 0) = 1
  rotate_left
  · have en : pz_nl K V S 4 r (j + 1) len 0 Y0 = (0, Y0) := pz_nl_e (fun g => k0 g.1)
    rw [en]
    have hW : rz_W (j + 1 + 0) (S (j + 1 + 0)) a0.2 := by
      have hW0 : rz_W (j + 1 + 0) (S (j + 1 + 0)) (rz_nu K V S 0 ((rz_ad Z).2.2.2.2 2) (rz_ad Z)).2 := h0.no k0
      rw [ea0] at hW0; exact hW0
    exact rz_fail (by decide) (rz_W.el hW.bl)
  have hc2 : Y0.1 = 0 → (rz_ad Z).2.2.2.2 2 = Y0.2.2.1 2 := fun z => by
    have x1 := ho z
    rw [hoC]
    show Z.2.2.2.2 2 = _
    rw [(hR.2 x1).1]
  obtain ⟨h1, g1, d1⟩ := rz_stepN (w := 4) (r := r) (i := 0) (lo := 0) (hi := (rz_ad Z).2.2.2.2 2) (Y := Y0) hT k0 h0 (fun z => pz_ffE (by rw [(pz_sgv_4 0).1 rfl]; decide) (by rw [(pz_sgv_4 0).1 rfl, ← hc2 z]; exact (show (V (j + 1 + 0) < (rz_ad Z).2.2.2.2 2) ↔ _ by omega)))
  rw [ea0] at h1 g1 d1
  have hC1 : a0.2.2.2.2.2 = Z.2.2.2.2 := by rw [← ea0, rz_nu_C]; rfl
  have e1 : pz_nl K V S 4 r (j + 1) len 0 Y0 = pz_nl K V S 4 r (j + 1) (len - 1) 1 (pz_it V S 4 r (j + 1) 1 Y0) := pz_nl_it 1 len (by have := ((hT (j + 1 + 0)).1 (by omega)).2; omega) (fun i hi => by
      rcases (show i = 0 by omega) with rfl
      exact ⟨k0, by decide⟩)
  rw [e1]
  by_cases k1 : K (j + 1 + 1) = 1
  rotate_left
  · rw [pz_nl_e (K := K) (q := j + 1) (i := 1) (fun g => k1 g.1)]
    have hW2 : rz_W (j + 1 + 1) (S (j + 1 + 1)) (rz_bl K V S 0 a0.1 (len + 2) 0 a0.2) := by
      rw [rz_bl_s (f := len + 1) h1.n1 (Or.inl rfl)]
      refine rz_W.bl (rz_W.bp ?_)
      exact h1.no (lo := 1) (hi := 10) k1
    exact rz_fail (by decide) (rz_W.el hW2)
  have hY1C : (pz_it V S 4 r (j + 1) 1 Y0).2.2.1 = X.2.2.1 := by
    rw [← hoC]
    rfl
  obtain ⟨m', p1, p2, p3, p4, p5, p6⟩ := rz_blRel4 (r := r) (q := j + 1) (p := a0.1) hT len 0 (len + 2) a0.2 (pz_it V S 4 r (j + 1) 1 Y0) (by omega) (by omega) (Or.inr k1) ⟨h1, fun z => by
    obtain ⟨z0, ok1, va1⟩ := d1 z
    have x1 := ho z0
    have hg := (hR.2 x1).2 rfl
    refine ⟨?_, ?_, ?_, ?_⟩
    · rw [hC1, hY1C, (hR.2 x1).1]
    · rw [g1]
      show rz_gt Z.2.2.2.1 (pz_tf (pz_sg 4 0) (V (j + 1 + 0)) Y0.2.2.2.1)
      rw [(pz_sgv_4 0).1 rfl, show pz_tf 112 (V (j + 1 + 0)) Y0.2.2.2.1 = Y0.2.2.2.1 from rfl, ht0]
      exact hg
    · rw [va1]; rfl
    · rw [va1]
      have h5 := hx5 x1
      have h6 := hc2 z0
      rw [hoC] at h6
      omega⟩
  have p1' := p1 k1
  generalize hres : pz_nl K V S 4 r (j + 1) (len - (0 + 1)) (0 + 1) (pz_it V S 4 r (j + 1) 1 Y0) = res at p3 p5 p6
  have hres2 : pz_nl K V S 4 r (j + 1) (len - 1) 1 (pz_it V S 4 r (j + 1) 1 Y0) = res := hres
  obtain ⟨i', Y'⟩ := res
  have p3' : i' = m' + 1 := p3
  subst p3'
  refine rz_close hT (show 2 ≤ m' + 1 by omega) p5 (fun zz => ?_)
  obtain ⟨y1, y2, y3, y4⟩ := p6 zz
  exact ⟨y1, fun _ => y2⟩
theorem rz_line_4 {K V S : Nat → Nat} {len j : Nat} {X : pz_X} {Z : rz_Z} (hT : rz_TS K V S len) (hk : K j = 3) (hx5 : X.1 = 0 → X.2.2.1 2 ≤ 5) (hR : rz_Rg S 0 j X Z) : rz_Re S 0 (pz_ln K V S len 4 j X) (rz_el K S (rz_bi K V S len 0 (rz_ad Z))) := rz_line_4v hT hk hx5 hR rfl
