/-! what is read is good: who knows what, who is out; a day -/
theorem pz_good_3 {K V S : Nat → Nat} {len j : Nat} {X : pz_X} (hX : X.1 = 0 → pz_IV X.2.2.1 X.2.2.2) (h : (pz_ln K V S len 3 j X).2.1 = 0) : pz_IV (pz_ln K V S len 3 j X).2.2.2.1 (pz_ln K V S len 3 j X).2.2.2.2 := by
  obtain ⟨m, m1, m2, m3, m4, m5⟩ := pz_ln_0 h
  rw [m4, m5]
  obtain ⟨x1, -, x2⟩ := pz_ow_0 (pz_it_0 m 0 (Nat.zero_le _) m3)
  have x3 := x2 (by decide)
  have htf := (pz_ow_l 3 (S j) X).2
  have hIV := hX x1
  generalize er : X.2.2.1 (pz_ci (pz_rt 3)) = r at m3 ⊢
  have row : ∀ i, i ≤ m → pz_IV (pz_it V S 3 r (j + 1) i (pz_ow 3 (S j) X)).2.2.1 (pz_it V S 3 r (j + 1) i (pz_ow 3 (S j) X)).2.2.2.1 ∧ (1 ≤ i → (pz_it V S 3 r (j + 1) i (pz_ow 3 (S j) X)).2.2.2.2.2 < (pz_it V S 3 r (j + 1) i (pz_ow 3 (S j) X)).2.2.1 2) := by
    intro i
    induction i with
    | zero =>
      intro _
      refine ⟨?_, fun g => absurd g (by decide)⟩
      show pz_IV (pz_ow 3 (S j) X).2.2.1 (pz_ow 3 (S j) X).2.2.2.1
      rw [x3, htf]; exact hIV
    | succ i ih =>
      intro hi
      obtain ⟨a, b⟩ := ih (by omega)
      have hc := pz_it_can (i := i) (by omega) m3
      have hff := pz_it_ff (i := i) (by omega) m3
      have ht2 : pz_tf (pz_sg 3 i) (V (j + 1 + i)) (pz_it V S 3 r (j + 1) i (pz_ow 3 (S j) X)).2.2.2.1 < 1024 := pz_tf_lt hff a.1.2.2
      rcases Nat.eq_zero_or_pos i with g | g
      · subst g
        rw [(pz_sgv_3 0).1 rfl] at hc
        have d0 : V (j + 1 + 0) < (pz_it V S 3 r (j + 1) 0 (pz_ow 3 (S j) X)).2.2.1 2 := hc
        refine ⟨?_, fun _ => ?_⟩
        · show pz_IV (pz_kp 3 r 0 (V (j + 1 + 0)) (pz_f1 0 (V (j + 1 + 0)) (pz_it V S 3 r (j + 1) 0 (pz_ow 3 (S j) X)).2.2.2.2.2) (pz_it V S 3 r (j + 1) 0 (pz_ow 3 (S j) X)).2.2.1) (pz_tf (pz_sg 3 0) (V (j + 1 + 0)) (pz_it V S 3 r (j + 1) 0 (pz_ow 3 (S j) X)).2.2.2.1)
          rw [pz_kp_b0 (by decide)]
          exact pz_IX.tf a pz_tf_le ht2
        · show V (j + 1 + 0) < pz_kp 3 r 0 (V (j + 1 + 0)) (pz_f1 0 (V (j + 1 + 0)) (pz_it V S 3 r (j + 1) 0 (pz_ow 3 (S j) X)).2.2.2.2.2) (pz_it V S 3 r (j + 1) 0 (pz_ow 3 (S j) X)).2.2.1 2
          rw [pz_kp_b0 (by decide)]
          exact d0
      · have b1 := b g
        have ef : pz_f1 i (V (j + 1 + i)) (pz_it V S 3 r (j + 1) i (pz_ow 3 (S j) X)).2.2.2.2.2 = (pz_it V S 3 r (j + 1) i (pz_ow 3 (S j) X)).2.2.2.2.2 := if_neg (by omega)
        have eC : (pz_it V S 3 r (j + 1) (i + 1) (pz_ow 3 (S j) X)).2.2.1 = pz_up (pz_it V S 3 r (j + 1) i (pz_ow 3 (S j) X)).2.2.1 (40 + ((pz_it V S 3 r (j + 1) i (pz_ow 3 (S j) X)).2.2.2.2.2 * 3 + (3 - 2))) ((pz_it V S 3 r (j + 1) i (pz_ow 3 (S j) X)).2.2.1 (40 + ((pz_it V S 3 r (j + 1) i (pz_ow 3 (S j) X)).2.2.2.2.2 * 3 + (3 - 2))) ||| 2 ^ V (j + 1 + i)) := by
          show pz_kp 3 r i (V (j + 1 + i)) (pz_f1 i (V (j + 1 + i)) (pz_it V S 3 r (j + 1) i (pz_ow 3 (S j) X)).2.2.2.2.2) (pz_it V S 3 r (j + 1) i (pz_ow 3 (S j) X)).2.2.1 = _
          rw [pz_kp_b (by decide) g, ef]
        have ei : (pz_it V S 3 r (j + 1) (i + 1) (pz_ow 3 (S j) X)).2.2.2.2.2 = (pz_it V S 3 r (j + 1) i (pz_ow 3 (S j) X)).2.2.2.2.2 := ef
        have et : (pz_it V S 3 r (j + 1) (i + 1) (pz_ow 3 (S j) X)).2.2.2.1 = pz_tf (pz_sg 3 i) (V (j + 1 + i)) (pz_it V S 3 r (j + 1) i (pz_ow 3 (S j) X)).2.2.2.1 := rfl
        rw [eC, ei, et]
        have hro : pz_ro1 (pz_it V S 3 r (j + 1) i (pz_ow 3 (S j) X)).2.2.1 (pz_it V S 3 r (j + 1) i (pz_ow 3 (S j) X)).2.2.2.1 (pz_it V S 3 r (j + 1) i (pz_ow 3 (S j) X)).2.2.2.2.2 1 := a.2.2.1 1 (by decide) _ b1 (Or.inl (by decide))
        have hsg : pz_sg 3 i = 102 := (pz_sgv_3 i).2 g
        have hle : fg_le (pz_it V S 3 r (j + 1) i (pz_ow 3 (S j) X)).2.2.2.1 (pz_tf (pz_sg 3 i) (V (j + 1 + i)) (pz_it V S 3 r (j + 1) i (pz_ow 3 (S j) X)).2.2.2.1) := pz_tf_le
        rw [hsg] at hc
        generalize et2 : pz_tf (pz_sg 3 i) (V (j + 1 + i)) (pz_it V S 3 r (j + 1) i (pz_ow 3 (S j) X)).2.2.2.1 = tf2 at *
        generalize eY : (pz_it V S 3 r (j + 1) i (pz_ow 3 (S j) X)) = Y at *
        obtain ⟨Y1, Y2, C, tf, lf, fi⟩ := Y
        refine ⟨?_, fun _ => ?_⟩
        · have hp := (a.ix (t := 1) (r := fi)).put (i := 3 - 2) (v := C (40 + (fi * 3 + (3 - 2))) ||| 2 ^ V (j + 1 + i)) (by decide) b1 (by decide) hle ht2
          refine hp.iv (by decide) ?_
          show pz_up C (40 + (fi * 3 + (3 - 2))) (C (40 + (fi * 3 + (3 - 2))) ||| 2 ^ V (j + 1 + i)) (40 + (fi * 3 + 0)) ≤ 99 ∧ fg_le (pz_up C (40 + (fi * 3 + (3 - 2))) (C (40 + (fi * 3 + (3 - 2))) ||| 2 ^ V (j + 1 + i)) (40 + (fi * 3 + 1))) tf2 ∧ pz_up C (40 + (fi * 3 + (3 - 2))) (C (40 + (fi * 3 + (3 - 2))) ||| 2 ^ V (j + 1 + i)) (40 + (fi * 3 + 2)) < 1024
          obtain ⟨r1, r2, r3⟩ := hro
          rw [pz_up_ne (by omega)]
          refine ⟨r1, ?_⟩
          have e2 : tf2 = tf ||| 2 ^ V (j + 1 + i) := by rw [← et2, hsg]; rfl
          rw [pz_up_eq, pz_up_ne (by omega)]
          refine ⟨?_, r3⟩
          rw [e2]
          exact fg_or_le (fg_le_tr r2 (fg_le_or1 _ _)) (fun x hx => by rw [Nat.testBit_or, hx]; simp)
        · show fi < pz_up C (40 + (fi * 3 + (3 - 2))) _ 2
          rw [pz_up_ne (by omega)]; exact b1
  exact (row m (Nat.le_refl _)).1
theorem pz_good_4 {K V S : Nat → Nat} {len j : Nat} {X : pz_X} (hX : X.1 = 0 → pz_IV X.2.2.1 X.2.2.2) (h : (pz_ln K V S len 4 j X).2.1 = 0) : pz_IV (pz_ln K V S len 4 j X).2.2.2.1 (pz_ln K V S len 4 j X).2.2.2.2 := by
  obtain ⟨m, m1, m2, m3, m4, m5⟩ := pz_ln_0 h
  rw [m4, m5]
  obtain ⟨x1, -, x2⟩ := pz_ow_0 (pz_it_0 m 0 (Nat.zero_le _) m3)
  have x3 := x2 (by decide)
  have htf := (pz_ow_l 4 (S j) X).2
  have hIV := hX x1
  generalize er : X.2.2.1 (pz_ci (pz_rt 4)) = r at m3 ⊢
  have row : ∀ i, i ≤ m → pz_IV (pz_it V S 4 r (j + 1) i (pz_ow 4 (S j) X)).2.2.1 (pz_it V S 4 r (j + 1) i (pz_ow 4 (S j) X)).2.2.2.1 ∧ (1 ≤ i → (pz_it V S 4 r (j + 1) i (pz_ow 4 (S j) X)).2.2.2.2.2 < (pz_it V S 4 r (j + 1) i (pz_ow 4 (S j) X)).2.2.1 2) := by
    intro i
    induction i with
    | zero =>
      intro _
      refine ⟨?_, fun g => absurd g (by decide)⟩
      show pz_IV (pz_ow 4 (S j) X).2.2.1 (pz_ow 4 (S j) X).2.2.2.1
      rw [x3, htf]; exact hIV
    | succ i ih =>
      intro hi
      obtain ⟨a, b⟩ := ih (by omega)
      have hc := pz_it_can (i := i) (by omega) m3
      have hff := pz_it_ff (i := i) (by omega) m3
      have ht2 : pz_tf (pz_sg 4 i) (V (j + 1 + i)) (pz_it V S 4 r (j + 1) i (pz_ow 4 (S j) X)).2.2.2.1 < 1024 := pz_tf_lt hff a.1.2.2
      rcases Nat.eq_zero_or_pos i with g | g
      · subst g
        rw [(pz_sgv_4 0).1 rfl] at hc
        have d0 : V (j + 1 + 0) < (pz_it V S 4 r (j + 1) 0 (pz_ow 4 (S j) X)).2.2.1 2 := hc
        refine ⟨?_, fun _ => ?_⟩
        · show pz_IV (pz_kp 4 r 0 (V (j + 1 + 0)) (pz_f1 0 (V (j + 1 + 0)) (pz_it V S 4 r (j + 1) 0 (pz_ow 4 (S j) X)).2.2.2.2.2) (pz_it V S 4 r (j + 1) 0 (pz_ow 4 (S j) X)).2.2.1) (pz_tf (pz_sg 4 0) (V (j + 1 + 0)) (pz_it V S 4 r (j + 1) 0 (pz_ow 4 (S j) X)).2.2.2.1)
          rw [pz_kp_b0 (by decide)]
          exact pz_IX.tf a pz_tf_le ht2
        · show V (j + 1 + 0) < pz_kp 4 r 0 (V (j + 1 + 0)) (pz_f1 0 (V (j + 1 + 0)) (pz_it V S 4 r (j + 1) 0 (pz_ow 4 (S j) X)).2.2.2.2.2) (pz_it V S 4 r (j + 1) 0 (pz_ow 4 (S j) X)).2.2.1 2
          rw [pz_kp_b0 (by decide)]
          exact d0
      · have b1 := b g
        have ef : pz_f1 i (V (j + 1 + i)) (pz_it V S 4 r (j + 1) i (pz_ow 4 (S j) X)).2.2.2.2.2 = (pz_it V S 4 r (j + 1) i (pz_ow 4 (S j) X)).2.2.2.2.2 := if_neg (by omega)
        have eC : (pz_it V S 4 r (j + 1) (i + 1) (pz_ow 4 (S j) X)).2.2.1 = pz_up (pz_it V S 4 r (j + 1) i (pz_ow 4 (S j) X)).2.2.1 (40 + ((pz_it V S 4 r (j + 1) i (pz_ow 4 (S j) X)).2.2.2.2.2 * 3 + (4 - 2))) ((pz_it V S 4 r (j + 1) i (pz_ow 4 (S j) X)).2.2.1 (40 + ((pz_it V S 4 r (j + 1) i (pz_ow 4 (S j) X)).2.2.2.2.2 * 3 + (4 - 2))) ||| 2 ^ V (j + 1 + i)) := by
          show pz_kp 4 r i (V (j + 1 + i)) (pz_f1 i (V (j + 1 + i)) (pz_it V S 4 r (j + 1) i (pz_ow 4 (S j) X)).2.2.2.2.2) (pz_it V S 4 r (j + 1) i (pz_ow 4 (S j) X)).2.2.1 = _
          rw [pz_kp_b (by decide) g, ef]
        have ei : (pz_it V S 4 r (j + 1) (i + 1) (pz_ow 4 (S j) X)).2.2.2.2.2 = (pz_it V S 4 r (j + 1) i (pz_ow 4 (S j) X)).2.2.2.2.2 := ef
        have et : (pz_it V S 4 r (j + 1) (i + 1) (pz_ow 4 (S j) X)).2.2.2.1 = pz_tf (pz_sg 4 i) (V (j + 1 + i)) (pz_it V S 4 r (j + 1) i (pz_ow 4 (S j) X)).2.2.2.1 := rfl
        rw [eC, ei, et]
        have hro : pz_ro1 (pz_it V S 4 r (j + 1) i (pz_ow 4 (S j) X)).2.2.1 (pz_it V S 4 r (j + 1) i (pz_ow 4 (S j) X)).2.2.2.1 (pz_it V S 4 r (j + 1) i (pz_ow 4 (S j) X)).2.2.2.2.2 1 := a.2.2.1 1 (by decide) _ b1 (Or.inl (by decide))
        have hsg : pz_sg 4 i = 104 := (pz_sgv_4 i).2 g
        have hle : fg_le (pz_it V S 4 r (j + 1) i (pz_ow 4 (S j) X)).2.2.2.1 (pz_tf (pz_sg 4 i) (V (j + 1 + i)) (pz_it V S 4 r (j + 1) i (pz_ow 4 (S j) X)).2.2.2.1) := pz_tf_le
        rw [hsg] at hc
        generalize pz_tf (pz_sg 4 i) (V (j + 1 + i)) (pz_it V S 4 r (j + 1) i (pz_ow 4 (S j) X)).2.2.2.1 = tf2 at *
        generalize eY : (pz_it V S 4 r (j + 1) i (pz_ow 4 (S j) X)) = Y at *
        obtain ⟨Y1, Y2, C, tf, lf, fi⟩ := Y
        refine ⟨?_, fun _ => ?_⟩
        · have hp := (a.ix (t := 1) (r := fi)).put (i := 4 - 2) (v := C (40 + (fi * 3 + (4 - 2))) ||| 2 ^ V (j + 1 + i)) (by decide) b1 (by decide) hle ht2
          refine hp.iv (by decide) ?_
          show pz_up C (40 + (fi * 3 + (4 - 2))) (C (40 + (fi * 3 + (4 - 2))) ||| 2 ^ V (j + 1 + i)) (40 + (fi * 3 + 0)) ≤ 99 ∧ fg_le (pz_up C (40 + (fi * 3 + (4 - 2))) (C (40 + (fi * 3 + (4 - 2))) ||| 2 ^ V (j + 1 + i)) (40 + (fi * 3 + 1))) tf2 ∧ pz_up C (40 + (fi * 3 + (4 - 2))) (C (40 + (fi * 3 + (4 - 2))) ||| 2 ^ V (j + 1 + i)) (40 + (fi * 3 + 2)) < 1024
          obtain ⟨r1, r2, r3⟩ := hro
          rw [pz_up_ne (by omega)]
          refine ⟨r1, ?_⟩
          have d1 : 1 ≤ V (j + 1 + i) ∧ V (j + 1 + i) ≤ 9 := hc
          rw [pz_up_ne (by omega), pz_up_eq]
          refine ⟨fg_le_tr r2 hle, ?_⟩
          exact Nat.or_lt_two_pow (n := 10) r3 (Nat.pow_lt_pow_right (by decide) (by omega))
        · show fi < pz_up C (40 + (fi * 3 + (4 - 2))) _ 2
          rw [pz_up_ne (by omega)]; exact b1
  exact (row m (Nat.le_refl _)).1
def pz_acr (C : Nat → Nat) (k : Nat) : Prop := C (1 + (k * 4 + 0)) ≤ 6 ∧ (C (1 + (k * 4 + 0)) ≠ 6 → C (1 + (k * 4 + 1)) < 5 ∧ C (1 + (k * 4 + 2)) < 10) ∧ (C (1 + (k * 4 + 0)) = 5 → C (1 + (k * 4 + 2)) < 5 ∧ C (1 + (k * 4 + 3)) < 10)
def pz_ID (C : Nat → Nat) : Prop := C 0 ≤ 30 ∧ ∀ k, k < C 0 → pz_acr C k
theorem pz_ID.add {C C' : Nat → Nat} (h : pz_ID C) (h0 : C 0 < 30) (e0 : C' 0 = C 0 + 1) (el : ∀ k, k ≠ 0 → k < 1 + C 0 * 4 → C' k = C k) (hr : pz_acr C' (C 0)) : pz_ID C' := by
  refine ⟨by omega, fun k hk => ?_⟩
  rcases Nat.lt_or_ge k (C 0) with g | g
  · have := h.2 k g
    unfold pz_acr
    rw [el _ (by omega) (by omega), el _ (by omega) (by omega), el _ (by omega) (by omega), el _ (by omega) (by omega)]
    exact this
  · rw [show k = C 0 by omega]; exact hr
theorem pz_ID.dok {C : Nat → Nat} (h : pz_ID C) : fg_dok (fun i => nI (C i)) (C 0) := by
  intro k hk
  obtain ⟨a, b, c⟩ := h.2 k hk
  exact ⟨C (1 + (k * 4 + 0)), C (1 + (k * 4 + 1)), C (1 + (k * 4 + 2)), C (1 + (k * 4 + 3)), a, rfl, fun g => ⟨rfl, rfl, b g⟩, fun g => ⟨rfl, c g⟩⟩
theorem pz_good_10 {K V S : Nat → Nat} {len j : Nat} {X : pz_X} (hX : X.1 = 0 → pz_ID X.2.2.1) (h : (pz_ln K V S len 10 j X).2.1 = 0) : pz_ID (pz_ln K V S len 10 j X).2.2.2.1 := by
  obtain ⟨m, m1, m2, m3, m4, m5⟩ := pz_ln_0 h
  have m1' : 2 ≤ m := m1
  have hm : m = 2 := by
    rcases Nat.eq_or_lt_of_le m1' with e | e
    · exact e.symm
    · exact absurd ((pz_sgv_10 2).2.2 (by decide)) (m2 2 e)
  subst hm
  rw [m4]
  obtain ⟨x1, x2, -⟩ := pz_ow_0 (pz_it_0 2 0 (Nat.zero_le _) m3)
  obtain ⟨x3, x4⟩ := x2 (by decide)
  have x5 : X.2.2.1 0 < 30 := x3
  have c0 := pz_it_can (i := 0) (by decide) m3
  have c1 := pz_it_can (i := 1) (by decide) m3
  rw [(pz_sgv_10 0).1 rfl] at c0
  rw [(pz_sgv_10 1).2.1 rfl] at c1
  have d0 : V (j + 1 + 0) < 5 := c0
  have d1 : V (j + 1 + 1) < 10 := c1
  have e1 : (pz_it V S 10 (X.2.2.1 0) (j + 1) 2 (pz_ow 10 (S j) X)).2.2.1 = (pz_up (pz_up (pz_ad 10 X.2.2.1) (1 + (X.2.2.1 0 * 4 + (0 + 1))) (V (j + 1 + 0))) (1 + (X.2.2.1 0 * 4 + (1 + 1))) (V (j + 1 + 1))) := by
    rw [← x4]; rfl
  have e9 : (pz_it V S 10 (X.2.2.1 (pz_ci (pz_rt 10))) (j + 1) 2 (pz_ow 10 (S j) X)).2.2.1 = (pz_up (pz_up (pz_ad 10 X.2.2.1) (1 + (X.2.2.1 0 * 4 + (0 + 1))) (V (j + 1 + 0))) (1 + (X.2.2.1 0 * 4 + (1 + 1))) (V (j + 1 + 1))) := e1
  rw [e9]
  have f0 : (pz_up (pz_up (pz_ad 10 X.2.2.1) (1 + (X.2.2.1 0 * 4 + (0 + 1))) (V (j + 1 + 0))) (1 + (X.2.2.1 0 * 4 + (1 + 1))) (V (j + 1 + 1))) (1 + (X.2.2.1 0 * 4 + 0)) = 0 := by
    rw [pz_up_ne (by omega), pz_up_ne (by omega), show (1 + (X.2.2.1 0 * 4 + 0)) = pz_bs (pz_rt 10) + (X.2.2.1 (pz_ci (pz_rt 10)) * pz_wi (pz_rt 10) + 0) from rfl, pz_ad_n (by decide) (by decide)]; rfl
  have f1 : (pz_up (pz_up (pz_ad 10 X.2.2.1) (1 + (X.2.2.1 0 * 4 + (0 + 1))) (V (j + 1 + 0))) (1 + (X.2.2.1 0 * 4 + (1 + 1))) (V (j + 1 + 1))) (1 + (X.2.2.1 0 * 4 + 1)) = V (j + 1 + 0) := by rw [pz_up_ne (by omega), pz_up_eq]
  have f2 : (pz_up (pz_up (pz_ad 10 X.2.2.1) (1 + (X.2.2.1 0 * 4 + (0 + 1))) (V (j + 1 + 0))) (1 + (X.2.2.1 0 * 4 + (1 + 1))) (V (j + 1 + 1))) (1 + (X.2.2.1 0 * 4 + 2)) = V (j + 1 + 1) := by rw [pz_up_eq]
  refine (hX x1).add x5 ?_ (fun k h0 h1 => ?_) ?_
  · rw [pz_up_ne (by omega), pz_up_ne (by omega)]; exact pz_ad_c (w := 10)
  · rw [pz_up_ne (by omega), pz_up_ne (by omega)]; exact pz_ad_o (w := 10) h0 (Or.inl h1)
  · exact ⟨by rw [f0]; decide, fun _ => ⟨by rw [f1]; exact d0, by rw [f2]; exact d1⟩, fun g => absurd (f0.symm.trans g) (by decide)⟩
theorem pz_good_11 {K V S : Nat → Nat} {len j : Nat} {X : pz_X} (hX : X.1 = 0 → pz_ID X.2.2.1) (h : (pz_ln K V S len 11 j X).2.1 = 0) : pz_ID (pz_ln K V S len 11 j X).2.2.2.1 := by
  obtain ⟨m, m1, m2, m3, m4, m5⟩ := pz_ln_0 h
  have m1' : 2 ≤ m := m1
  have hm : m = 2 := by
    rcases Nat.eq_or_lt_of_le m1' with e | e
    · exact e.symm
    · exact absurd ((pz_sgv_11 2).2.2 (by decide)) (m2 2 e)
  subst hm
  rw [m4]
  obtain ⟨x1, x2, -⟩ := pz_ow_0 (pz_it_0 2 0 (Nat.zero_le _) m3)
  obtain ⟨x3, x4⟩ := x2 (by decide)
  have x5 : X.2.2.1 0 < 30 := x3
  have c0 := pz_it_can (i := 0) (by decide) m3
  have c1 := pz_it_can (i := 1) (by decide) m3
  rw [(pz_sgv_11 0).1 rfl] at c0
  rw [(pz_sgv_11 1).2.1 rfl] at c1
  have d0 : V (j + 1 + 0) < 5 := c0
  have d1 : V (j + 1 + 1) < 10 := c1
  have e1 : (pz_it V S 11 (X.2.2.1 0) (j + 1) 2 (pz_ow 11 (S j) X)).2.2.1 = (pz_up (pz_up (pz_ad 11 X.2.2.1) (1 + (X.2.2.1 0 * 4 + (0 + 1))) (V (j + 1 + 0))) (1 + (X.2.2.1 0 * 4 + (1 + 1))) (V (j + 1 + 1))) := by
    rw [← x4]; rfl
  have e9 : (pz_it V S 11 (X.2.2.1 (pz_ci (pz_rt 11))) (j + 1) 2 (pz_ow 11 (S j) X)).2.2.1 = (pz_up (pz_up (pz_ad 11 X.2.2.1) (1 + (X.2.2.1 0 * 4 + (0 + 1))) (V (j + 1 + 0))) (1 + (X.2.2.1 0 * 4 + (1 + 1))) (V (j + 1 + 1))) := e1
  rw [e9]
  have f0 : (pz_up (pz_up (pz_ad 11 X.2.2.1) (1 + (X.2.2.1 0 * 4 + (0 + 1))) (V (j + 1 + 0))) (1 + (X.2.2.1 0 * 4 + (1 + 1))) (V (j + 1 + 1))) (1 + (X.2.2.1 0 * 4 + 0)) = 1 := by
    rw [pz_up_ne (by omega), pz_up_ne (by omega), show (1 + (X.2.2.1 0 * 4 + 0)) = pz_bs (pz_rt 11) + (X.2.2.1 (pz_ci (pz_rt 11)) * pz_wi (pz_rt 11) + 0) from rfl, pz_ad_n (by decide) (by decide)]; rfl
  have f1 : (pz_up (pz_up (pz_ad 11 X.2.2.1) (1 + (X.2.2.1 0 * 4 + (0 + 1))) (V (j + 1 + 0))) (1 + (X.2.2.1 0 * 4 + (1 + 1))) (V (j + 1 + 1))) (1 + (X.2.2.1 0 * 4 + 1)) = V (j + 1 + 0) := by rw [pz_up_ne (by omega), pz_up_eq]
  have f2 : (pz_up (pz_up (pz_ad 11 X.2.2.1) (1 + (X.2.2.1 0 * 4 + (0 + 1))) (V (j + 1 + 0))) (1 + (X.2.2.1 0 * 4 + (1 + 1))) (V (j + 1 + 1))) (1 + (X.2.2.1 0 * 4 + 2)) = V (j + 1 + 1) := by rw [pz_up_eq]
  refine (hX x1).add x5 ?_ (fun k h0 h1 => ?_) ?_
  · rw [pz_up_ne (by omega), pz_up_ne (by omega)]; exact pz_ad_c (w := 11)
  · rw [pz_up_ne (by omega), pz_up_ne (by omega)]; exact pz_ad_o (w := 11) h0 (Or.inl h1)
  · exact ⟨by rw [f0]; decide, fun _ => ⟨by rw [f1]; exact d0, by rw [f2]; exact d1⟩, fun g => absurd (f0.symm.trans g) (by decide)⟩
theorem pz_good_12 {K V S : Nat → Nat} {len j : Nat} {X : pz_X} (hX : X.1 = 0 → pz_ID X.2.2.1) (h : (pz_ln K V S len 12 j X).2.1 = 0) : pz_ID (pz_ln K V S len 12 j X).2.2.2.1 := by
  obtain ⟨m, m1, m2, m3, m4, m5⟩ := pz_ln_0 h
  have m1' : 2 ≤ m := m1
  have hm : m = 2 := by
    rcases Nat.eq_or_lt_of_le m1' with e | e
    · exact e.symm
    · exact absurd ((pz_sgv_12 2).2.2 (by decide)) (m2 2 e)
  subst hm
  rw [m4]
  obtain ⟨x1, x2, -⟩ := pz_ow_0 (pz_it_0 2 0 (Nat.zero_le _) m3)
  obtain ⟨x3, x4⟩ := x2 (by decide)
  have x5 : X.2.2.1 0 < 30 := x3
  have c0 := pz_it_can (i := 0) (by decide) m3
  have c1 := pz_it_can (i := 1) (by decide) m3
  rw [(pz_sgv_12 0).1 rfl] at c0
  rw [(pz_sgv_12 1).2.1 rfl] at c1
  have d0 : V (j + 1 + 0) < 5 := c0
  have d1 : V (j + 1 + 1) < 10 := c1
  have e1 : (pz_it V S 12 (X.2.2.1 0) (j + 1) 2 (pz_ow 12 (S j) X)).2.2.1 = (pz_up (pz_up (pz_ad 12 X.2.2.1) (1 + (X.2.2.1 0 * 4 + (0 + 1))) (V (j + 1 + 0))) (1 + (X.2.2.1 0 * 4 + (1 + 1))) (V (j + 1 + 1))) := by
    rw [← x4]; rfl
  have e9 : (pz_it V S 12 (X.2.2.1 (pz_ci (pz_rt 12))) (j + 1) 2 (pz_ow 12 (S j) X)).2.2.1 = (pz_up (pz_up (pz_ad 12 X.2.2.1) (1 + (X.2.2.1 0 * 4 + (0 + 1))) (V (j + 1 + 0))) (1 + (X.2.2.1 0 * 4 + (1 + 1))) (V (j + 1 + 1))) := e1
  rw [e9]
  have f0 : (pz_up (pz_up (pz_ad 12 X.2.2.1) (1 + (X.2.2.1 0 * 4 + (0 + 1))) (V (j + 1 + 0))) (1 + (X.2.2.1 0 * 4 + (1 + 1))) (V (j + 1 + 1))) (1 + (X.2.2.1 0 * 4 + 0)) = 2 := by
    rw [pz_up_ne (by omega), pz_up_ne (by omega), show (1 + (X.2.2.1 0 * 4 + 0)) = pz_bs (pz_rt 12) + (X.2.2.1 (pz_ci (pz_rt 12)) * pz_wi (pz_rt 12) + 0) from rfl, pz_ad_n (by decide) (by decide)]; rfl
  have f1 : (pz_up (pz_up (pz_ad 12 X.2.2.1) (1 + (X.2.2.1 0 * 4 + (0 + 1))) (V (j + 1 + 0))) (1 + (X.2.2.1 0 * 4 + (1 + 1))) (V (j + 1 + 1))) (1 + (X.2.2.1 0 * 4 + 1)) = V (j + 1 + 0) := by rw [pz_up_ne (by omega), pz_up_eq]
  have f2 : (pz_up (pz_up (pz_ad 12 X.2.2.1) (1 + (X.2.2.1 0 * 4 + (0 + 1))) (V (j + 1 + 0))) (1 + (X.2.2.1 0 * 4 + (1 + 1))) (V (j + 1 + 1))) (1 + (X.2.2.1 0 * 4 + 2)) = V (j + 1 + 1) := by rw [pz_up_eq]
  refine (hX x1).add x5 ?_ (fun k h0 h1 => ?_) ?_
  · rw [pz_up_ne (by omega), pz_up_ne (by omega)]; exact pz_ad_c (w := 12)
  · rw [pz_up_ne (by omega), pz_up_ne (by omega)]; exact pz_ad_o (w := 12) h0 (Or.inl h1)
  · exact ⟨by rw [f0]; decide, fun _ => ⟨by rw [f1]; exact d0, by rw [f2]; exact d1⟩, fun g => absurd (f0.symm.trans g) (by decide)⟩
theorem pz_good_13 {K V S : Nat → Nat} {len j : Nat} {X : pz_X} (hX : X.1 = 0 → pz_ID X.2.2.1) (h : (pz_ln K V S len 13 j X).2.1 = 0) : pz_ID (pz_ln K V S len 13 j X).2.2.2.1 := by
  obtain ⟨m, m1, m2, m3, m4, m5⟩ := pz_ln_0 h
  have m1' : 2 ≤ m := m1
  have hm : m = 2 := by
    rcases Nat.eq_or_lt_of_le m1' with e | e
    · exact e.symm
    · exact absurd ((pz_sgv_13 2).2.2 (by decide)) (m2 2 e)
  subst hm
  rw [m4]
  obtain ⟨x1, x2, -⟩ := pz_ow_0 (pz_it_0 2 0 (Nat.zero_le _) m3)
  obtain ⟨x3, x4⟩ := x2 (by decide)
  have x5 : X.2.2.1 0 < 30 := x3
  have c0 := pz_it_can (i := 0) (by decide) m3
  have c1 := pz_it_can (i := 1) (by decide) m3
  rw [(pz_sgv_13 0).1 rfl] at c0
  rw [(pz_sgv_13 1).2.1 rfl] at c1
  have d0 : V (j + 1 + 0) < 5 := c0
  have d1 : V (j + 1 + 1) < 10 := c1
  have e1 : (pz_it V S 13 (X.2.2.1 0) (j + 1) 2 (pz_ow 13 (S j) X)).2.2.1 = (pz_up (pz_up (pz_ad 13 X.2.2.1) (1 + (X.2.2.1 0 * 4 + (0 + 1))) (V (j + 1 + 0))) (1 + (X.2.2.1 0 * 4 + (1 + 1))) (V (j + 1 + 1))) := by
    rw [← x4]; rfl
  have e9 : (pz_it V S 13 (X.2.2.1 (pz_ci (pz_rt 13))) (j + 1) 2 (pz_ow 13 (S j) X)).2.2.1 = (pz_up (pz_up (pz_ad 13 X.2.2.1) (1 + (X.2.2.1 0 * 4 + (0 + 1))) (V (j + 1 + 0))) (1 + (X.2.2.1 0 * 4 + (1 + 1))) (V (j + 1 + 1))) := e1
  rw [e9]
  have f0 : (pz_up (pz_up (pz_ad 13 X.2.2.1) (1 + (X.2.2.1 0 * 4 + (0 + 1))) (V (j + 1 + 0))) (1 + (X.2.2.1 0 * 4 + (1 + 1))) (V (j + 1 + 1))) (1 + (X.2.2.1 0 * 4 + 0)) = 3 := by
    rw [pz_up_ne (by omega), pz_up_ne (by omega), show (1 + (X.2.2.1 0 * 4 + 0)) = pz_bs (pz_rt 13) + (X.2.2.1 (pz_ci (pz_rt 13)) * pz_wi (pz_rt 13) + 0) from rfl, pz_ad_n (by decide) (by decide)]; rfl
  have f1 : (pz_up (pz_up (pz_ad 13 X.2.2.1) (1 + (X.2.2.1 0 * 4 + (0 + 1))) (V (j + 1 + 0))) (1 + (X.2.2.1 0 * 4 + (1 + 1))) (V (j + 1 + 1))) (1 + (X.2.2.1 0 * 4 + 1)) = V (j + 1 + 0) := by rw [pz_up_ne (by omega), pz_up_eq]
  have f2 : (pz_up (pz_up (pz_ad 13 X.2.2.1) (1 + (X.2.2.1 0 * 4 + (0 + 1))) (V (j + 1 + 0))) (1 + (X.2.2.1 0 * 4 + (1 + 1))) (V (j + 1 + 1))) (1 + (X.2.2.1 0 * 4 + 2)) = V (j + 1 + 1) := by rw [pz_up_eq]
  refine (hX x1).add x5 ?_ (fun k h0 h1 => ?_) ?_
  · rw [pz_up_ne (by omega), pz_up_ne (by omega)]; exact pz_ad_c (w := 13)
  · rw [pz_up_ne (by omega), pz_up_ne (by omega)]; exact pz_ad_o (w := 13) h0 (Or.inl h1)
  · exact ⟨by rw [f0]; decide, fun _ => ⟨by rw [f1]; exact d0, by rw [f2]; exact d1⟩, fun g => absurd (f0.symm.trans g) (by decide)⟩
theorem pz_good_14 {K V S : Nat → Nat} {len j : Nat} {X : pz_X} (hX : X.1 = 0 → pz_ID X.2.2.1) (h : (pz_ln K V S len 14 j X).2.1 = 0) : pz_ID (pz_ln K V S len 14 j X).2.2.2.1 := by
  obtain ⟨m, m1, m2, m3, m4, m5⟩ := pz_ln_0 h
  have m1' : 2 ≤ m := m1
  have hm : m = 2 := by
    rcases Nat.eq_or_lt_of_le m1' with e | e
    · exact e.symm
    · exact absurd ((pz_sgv_14 2).2.2 (by decide)) (m2 2 e)
  subst hm
  rw [m4]
  obtain ⟨x1, x2, -⟩ := pz_ow_0 (pz_it_0 2 0 (Nat.zero_le _) m3)
  obtain ⟨x3, x4⟩ := x2 (by decide)
  have x5 : X.2.2.1 0 < 30 := x3
  have c0 := pz_it_can (i := 0) (by decide) m3
  have c1 := pz_it_can (i := 1) (by decide) m3
  rw [(pz_sgv_14 0).1 rfl] at c0
  rw [(pz_sgv_14 1).2.1 rfl] at c1
  have d0 : V (j + 1 + 0) < 5 := c0
  have d1 : V (j + 1 + 1) < 10 := c1
  have e1 : (pz_it V S 14 (X.2.2.1 0) (j + 1) 2 (pz_ow 14 (S j) X)).2.2.1 = (pz_up (pz_up (pz_ad 14 X.2.2.1) (1 + (X.2.2.1 0 * 4 + (0 + 1))) (V (j + 1 + 0))) (1 + (X.2.2.1 0 * 4 + (1 + 1))) (V (j + 1 + 1))) := by
    rw [← x4]; rfl
  have e9 : (pz_it V S 14 (X.2.2.1 (pz_ci (pz_rt 14))) (j + 1) 2 (pz_ow 14 (S j) X)).2.2.1 = (pz_up (pz_up (pz_ad 14 X.2.2.1) (1 + (X.2.2.1 0 * 4 + (0 + 1))) (V (j + 1 + 0))) (1 + (X.2.2.1 0 * 4 + (1 + 1))) (V (j + 1 + 1))) := e1
  rw [e9]
  have f0 : (pz_up (pz_up (pz_ad 14 X.2.2.1) (1 + (X.2.2.1 0 * 4 + (0 + 1))) (V (j + 1 + 0))) (1 + (X.2.2.1 0 * 4 + (1 + 1))) (V (j + 1 + 1))) (1 + (X.2.2.1 0 * 4 + 0)) = 4 := by
    rw [pz_up_ne (by omega), pz_up_ne (by omega), show (1 + (X.2.2.1 0 * 4 + 0)) = pz_bs (pz_rt 14) + (X.2.2.1 (pz_ci (pz_rt 14)) * pz_wi (pz_rt 14) + 0) from rfl, pz_ad_n (by decide) (by decide)]; rfl
  have f1 : (pz_up (pz_up (pz_ad 14 X.2.2.1) (1 + (X.2.2.1 0 * 4 + (0 + 1))) (V (j + 1 + 0))) (1 + (X.2.2.1 0 * 4 + (1 + 1))) (V (j + 1 + 1))) (1 + (X.2.2.1 0 * 4 + 1)) = V (j + 1 + 0) := by rw [pz_up_ne (by omega), pz_up_eq]
  have f2 : (pz_up (pz_up (pz_ad 14 X.2.2.1) (1 + (X.2.2.1 0 * 4 + (0 + 1))) (V (j + 1 + 0))) (1 + (X.2.2.1 0 * 4 + (1 + 1))) (V (j + 1 + 1))) (1 + (X.2.2.1 0 * 4 + 2)) = V (j + 1 + 1) := by rw [pz_up_eq]
  refine (hX x1).add x5 ?_ (fun k h0 h1 => ?_) ?_
  · rw [pz_up_ne (by omega), pz_up_ne (by omega)]; exact pz_ad_c (w := 14)
  · rw [pz_up_ne (by omega), pz_up_ne (by omega)]; exact pz_ad_o (w := 14) h0 (Or.inl h1)
  · exact ⟨by rw [f0]; decide, fun _ => ⟨by rw [f1]; exact d0, by rw [f2]; exact d1⟩, fun g => absurd (f0.symm.trans g) (by decide)⟩
theorem pz_good_15 {K V S : Nat → Nat} {len j : Nat} {X : pz_X} (hX : X.1 = 0 → pz_ID X.2.2.1) (h : (pz_ln K V S len 15 j X).2.1 = 0) : pz_ID (pz_ln K V S len 15 j X).2.2.2.1 := by
  obtain ⟨m, m1, m2, m3, m4, m5⟩ := pz_ln_0 h
  have m1' : 3 ≤ m := m1
  have hm : m = 3 := by
    rcases Nat.eq_or_lt_of_le m1' with e | e
    · exact e.symm
    · exact absurd ((pz_sgv_15 3).2.2.2 (by decide)) (m2 3 e)
  subst hm
  rw [m4]
  obtain ⟨x1, x2, -⟩ := pz_ow_0 (pz_it_0 3 0 (Nat.zero_le _) m3)
  obtain ⟨x3, x4⟩ := x2 (by decide)
  have x5 : X.2.2.1 0 < 30 := x3
  have c0 := pz_it_can (i := 0) (by decide) m3
  have c1 := pz_it_can (i := 1) (by decide) m3
  rw [(pz_sgv_15 0).1 rfl] at c0
  rw [(pz_sgv_15 1).2.1 rfl] at c1
  have d0 : V (j + 1 + 0) < 5 := c0
  have d1 : V (j + 1 + 1) < 5 ∧ _ := c1
  have c2 := pz_it_can (i := 2) (by decide) m3
  rw [(pz_sgv_15 2).2.2.1 rfl] at c2
  have d2 : V (j + 1 + 2) < 10 := c2
  have e1 : (pz_it V S 15 (X.2.2.1 0) (j + 1) 3 (pz_ow 15 (S j) X)).2.2.1 = (pz_up (pz_up (pz_up (pz_ad 15 X.2.2.1) (1 + (X.2.2.1 0 * 4 + (0 + 1))) (V (j + 1 + 0))) (1 + (X.2.2.1 0 * 4 + (1 + 1))) (V (j + 1 + 1))) (1 + (X.2.2.1 0 * 4 + (2 + 1))) (V (j + 1 + 2))) := by
    rw [← x4]; rfl
  have e9 : (pz_it V S 15 (X.2.2.1 (pz_ci (pz_rt 15))) (j + 1) 3 (pz_ow 15 (S j) X)).2.2.1 = (pz_up (pz_up (pz_up (pz_ad 15 X.2.2.1) (1 + (X.2.2.1 0 * 4 + (0 + 1))) (V (j + 1 + 0))) (1 + (X.2.2.1 0 * 4 + (1 + 1))) (V (j + 1 + 1))) (1 + (X.2.2.1 0 * 4 + (2 + 1))) (V (j + 1 + 2))) := e1
  rw [e9]
  have f0 : (pz_up (pz_up (pz_up (pz_ad 15 X.2.2.1) (1 + (X.2.2.1 0 * 4 + (0 + 1))) (V (j + 1 + 0))) (1 + (X.2.2.1 0 * 4 + (1 + 1))) (V (j + 1 + 1))) (1 + (X.2.2.1 0 * 4 + (2 + 1))) (V (j + 1 + 2))) (1 + (X.2.2.1 0 * 4 + 0)) = 5 := by
    rw [pz_up_ne (by omega), pz_up_ne (by omega), pz_up_ne (by omega), show (1 + (X.2.2.1 0 * 4 + 0)) = pz_bs (pz_rt 15) + (X.2.2.1 (pz_ci (pz_rt 15)) * pz_wi (pz_rt 15) + 0) from rfl, pz_ad_n (by decide) (by decide)]; rfl
  have f1 : (pz_up (pz_up (pz_up (pz_ad 15 X.2.2.1) (1 + (X.2.2.1 0 * 4 + (0 + 1))) (V (j + 1 + 0))) (1 + (X.2.2.1 0 * 4 + (1 + 1))) (V (j + 1 + 1))) (1 + (X.2.2.1 0 * 4 + (2 + 1))) (V (j + 1 + 2))) (1 + (X.2.2.1 0 * 4 + 1)) = V (j + 1 + 0) := by rw [pz_up_ne (by omega), pz_up_ne (by omega), pz_up_eq]
  have f2 : (pz_up (pz_up (pz_up (pz_ad 15 X.2.2.1) (1 + (X.2.2.1 0 * 4 + (0 + 1))) (V (j + 1 + 0))) (1 + (X.2.2.1 0 * 4 + (1 + 1))) (V (j + 1 + 1))) (1 + (X.2.2.1 0 * 4 + (2 + 1))) (V (j + 1 + 2))) (1 + (X.2.2.1 0 * 4 + 2)) = V (j + 1 + 1) := by rw [pz_up_ne (by omega), pz_up_eq]
  have f3 : (pz_up (pz_up (pz_up (pz_ad 15 X.2.2.1) (1 + (X.2.2.1 0 * 4 + (0 + 1))) (V (j + 1 + 0))) (1 + (X.2.2.1 0 * 4 + (1 + 1))) (V (j + 1 + 1))) (1 + (X.2.2.1 0 * 4 + (2 + 1))) (V (j + 1 + 2))) (1 + (X.2.2.1 0 * 4 + 3)) = V (j + 1 + 2) := by rw [pz_up_eq]
  refine (hX x1).add x5 ?_ (fun k h0 h1 => ?_) ?_
  · rw [pz_up_ne (by omega), pz_up_ne (by omega), pz_up_ne (by omega)]; exact pz_ad_c (w := 15)
  · rw [pz_up_ne (by omega), pz_up_ne (by omega), pz_up_ne (by omega)]; exact pz_ad_o (w := 15) h0 (Or.inl h1)
  · exact ⟨by rw [f0]; decide, fun _ => ⟨by rw [f1]; exact d0, by rw [f2]; omega⟩, fun _ => ⟨by rw [f2]; exact d1.1, by rw [f3]; exact d2⟩⟩
theorem pz_good_16 {K V S : Nat → Nat} {len j : Nat} {X : pz_X} (hX : X.1 = 0 → pz_ID X.2.2.1) (h : (pz_ln K V S len 16 j X).2.1 = 0) : pz_ID (pz_ln K V S len 16 j X).2.2.2.1 := by
  obtain ⟨m, m1, m2, m3, m4, m5⟩ := pz_ln_0 h
  have m1' : 0 ≤ m := m1
  have hm : m = 0 := by
    rcases Nat.eq_or_lt_of_le m1' with e | e
    · exact e.symm
    · exact absurd (pz_sgv_16 0 (by decide)) (m2 0 e)
  subst hm
  rw [m4]
  obtain ⟨x1, x2, -⟩ := pz_ow_0 (pz_it_0 0 0 (Nat.zero_le _) m3)
  obtain ⟨x3, x4⟩ := x2 (by decide)
  have x5 : X.2.2.1 0 < 30 := x3
  have e1 : (pz_it V S 16 (X.2.2.1 0) (j + 1) 0 (pz_ow 16 (S j) X)).2.2.1 = (pz_ad 16 X.2.2.1) := by
    rw [← x4]; rfl
  have e9 : (pz_it V S 16 (X.2.2.1 (pz_ci (pz_rt 16))) (j + 1) 0 (pz_ow 16 (S j) X)).2.2.1 = (pz_ad 16 X.2.2.1) := e1
  rw [e9]
  have f0 : (pz_ad 16 X.2.2.1) (1 + (X.2.2.1 0 * 4 + 0)) = 6 := by
    rw [show (1 + (X.2.2.1 0 * 4 + 0)) = pz_bs (pz_rt 16) + (X.2.2.1 (pz_ci (pz_rt 16)) * pz_wi (pz_rt 16) + 0) from rfl, pz_ad_n (by decide) (by decide)]; rfl
  skip
  refine (hX x1).add x5 ?_ (fun k h0 h1 => ?_) ?_
  · exact pz_ad_c (w := 16)
  · exact pz_ad_o (w := 16) h0 (Or.inl h1)
  · exact ⟨by rw [f0]; decide, fun g => absurd f0 g, fun g => absurd (f0.symm.trans g) (by decide)⟩
