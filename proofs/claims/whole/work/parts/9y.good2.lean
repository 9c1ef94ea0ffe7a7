/-! what is read is good: a line -/
theorem pz_nl_sp {K V S : Nat → Nat} {w r q : Nat} {Y : pz_Y} : ∀ f i, (pz_nl K V S w r q f i (pz_it V S w r q i Y)).2 = pz_it V S w r q (pz_nl K V S w r q f i (pz_it V S w r q i Y)).1 Y ∧ i ≤ (pz_nl K V S w r q f i (pz_it V S w r q i Y)).1 ∧ ∀ k, i ≤ k → k < (pz_nl K V S w r q f i (pz_it V S w r q i Y)).1 → K (q + k) = 1 ∧ pz_sg w k ≠ 32 := by
  intro f
  induction f with
  | zero => intro i; exact ⟨rfl, Nat.le_refl _, fun k h1 h2 => by have h3 : k < i := h2; omega⟩
  | succ f ih =>
    intro i
    by_cases c : K (q + i) = 1 ∧ pz_sg w i ≠ 32
    · rw [pz_nl_s c.1 c.2]
      obtain ⟨a, b, d⟩ := ih (i + 1)
      refine ⟨a, by have b2 : i + 1 ≤ (pz_nl K V S w r q f (i + 1) (pz_st w r i (V (q + i)) (S (q + i)) (pz_it V S w r q i Y))).1 := b; omega, fun k h1 h2 => ?_⟩
      rcases Nat.eq_or_lt_of_le h1 with e | e
      · rw [← e]; exact c
      · exact d k e h2
    · rw [pz_nl_e c]
      exact ⟨rfl, Nat.le_refl _, fun k h1 h2 => by have h3 : k < i := h2; omega⟩
theorem pz_it_0 {V S : Nat → Nat} {w r q : Nat} {Y : pz_Y} : ∀ m i, i ≤ m → (pz_it V S w r q m Y).1 = 0 → (pz_it V S w r q i Y).1 = 0 := by
  intro m
  induction m with
  | zero => intro i hi h; rw [show i = 0 by omega]; exact h
  | succ m ih =>
    intro i hi h
    rcases Nat.eq_or_lt_of_le hi with e | e
    · rw [e]; exact h
    · exact ih i (by omega) (pz_st_0 h).1
theorem pz_it_can {V S : Nat → Nat} {w r q m i : Nat} {Y : pz_Y} (hi : i < m) (h : (pz_it V S w r q m Y).1 = 0) : pz_can (pz_sg w i) (V (q + i)) ((pz_it V S w r q i Y).2.2.1 2) (pz_it V S w r q i Y).2.2.2.2.1 (pz_it V S w r q i Y).2.2.2.2.2 := (pz_ff0 (pz_st_0 (pz_it_0 m (i + 1) hi h)).2).1
theorem pz_it_ff {V S : Nat → Nat} {w r q m i : Nat} {Y : pz_Y} (hi : i < m) (h : (pz_it V S w r q m Y).1 = 0) : pz_ff (pz_sg w i) i (V (q + i)) ((pz_it V S w r q i Y).2.2.1 2) (pz_it V S w r q i Y).2.2.2.2.1 (pz_it V S w r q i Y).2.2.2.2.2 = 0 := (pz_st_0 (pz_it_0 m (i + 1) hi h)).2
theorem pz_ow_0 {w s : Nat} {X : pz_X} (h : (pz_ow w s X).1 = 0) : X.1 = 0 ∧ (pz_op w = true → X.2.2.1 (pz_ci (pz_rt w)) < pz_mx (pz_rt w) ∧ (pz_ow w s X).2.2.1 = pz_ad w X.2.2.1) ∧ (¬ pz_op w = true → (pz_ow w s X).2.2.1 = X.2.2.1) := by
  by_cases c : pz_op w = true
  · have e : pz_ow w s X = if X.2.2.1 (pz_ci (pz_rt w)) < pz_mx (pz_rt w) then (X.1, X.2.1, pz_ad w X.2.2.1, X.2.2.2, 0, 4294967295) else (if X.1 = 0 then 3 else X.1, if X.1 = 0 then s else X.2.1, X.2.2.1, X.2.2.2, 0, 4294967295) := if_pos c
    rw [e] at h ⊢
    by_cases d : X.2.2.1 (pz_ci (pz_rt w)) < pz_mx (pz_rt w)
    · rw [if_pos d] at h ⊢; exact ⟨h, fun _ => ⟨d, rfl⟩, fun g => absurd c g⟩
    · rw [if_neg d] at h
      have h2 : (if X.1 = 0 then 3 else X.1) = 0 := h
      by_cases z : X.1 = 0
      · rw [if_pos z] at h2; exact absurd h2 (by decide)
      · rw [if_neg z] at h2; exact absurd h2 z
  · have e : pz_ow w s X = (X.1, X.2.1, X.2.2.1, X.2.2.2, 0, 4294967295) := if_neg c
    rw [e] at h ⊢
    exact ⟨h, fun g => absurd g c, fun _ => rfl⟩
/-- a line without a fault -/
theorem pz_ln_0 {K V S : Nat → Nat} {len w j : Nat} {X : pz_X} (h : (pz_ln K V S len w j X).2.1 = 0) : ∃ m, (pz_ns w).length ≤ m ∧ (∀ i, i < m → pz_sg w i ≠ 32) ∧ (pz_it V S w (X.2.2.1 (pz_ci (pz_rt w))) (j + 1) m (pz_ow w (S j) X)).1 = 0 ∧ (pz_ln K V S len w j X).2.2.2.1 = (pz_it V S w (X.2.2.1 (pz_ci (pz_rt w))) (j + 1) m (pz_ow w (S j) X)).2.2.1 ∧ (pz_ln K V S len w j X).2.2.2.2 = (pz_it V S w (X.2.2.1 (pz_ci (pz_rt w))) (j + 1) m (pz_ow w (S j) X)).2.2.2.1 := by
  obtain ⟨a, -, d⟩ := pz_nl_sp (K := K) (V := V) (S := S) (w := w) (r := X.2.2.1 (pz_ci (pz_rt w))) (q := j + 1) (Y := pz_ow w (S j) X) len 0
  have e0 : pz_it V S w (X.2.2.1 (pz_ci (pz_rt w))) (j + 1) 0 (pz_ow w (S j) X) = pz_ow w (S j) X := rfl
  rw [e0] at a d
  have el : pz_ln K V S len w j X = pz_le K S w j (pz_nl K V S w (X.2.2.1 (pz_ci (pz_rt w))) (j + 1) len 0 (pz_ow w (S j) X)) := rfl
  rw [el] at h ⊢
  generalize pz_nl K V S w (X.2.2.1 (pz_ci (pz_rt w))) (j + 1) len 0 (pz_ow w (S j) X) = res at a d h ⊢
  obtain ⟨m, Y'⟩ := res
  have a2 : Y' = pz_it V S w (X.2.2.1 (pz_ci (pz_rt w))) (j + 1) m (pz_ow w (S j) X) := a
  by_cases c : K (j + 1 + m) = 2 ∧ (pz_ns w).length ≤ m
  · have e : pz_le K S w j (m, Y') = (j + 1 + m + 1, (Y'.1, Y'.2.1, Y'.2.2.1, Y'.2.2.2.1)) := if_pos c
    rw [e] at h ⊢
    exact ⟨m, c.2, fun i hi => (d i (Nat.zero_le _) hi).2, by rw [← a2]; exact h, by rw [← a2], by rw [← a2]⟩
  · have e : pz_le K S w j (m, Y') = (j + 1 + m, (1, S (j + 1 + m), Y'.2.2.1, Y'.2.2.2.1)) := if_neg c
    rw [e] at h
    exact absurd (show (1 : Nat) = 0 from h) (by decide)
theorem pz_tf_le {sg v tf : Nat} : fg_le tf (pz_tf sg v tf) := by
  unfold pz_tf; split
  · exact fg_le_or1 _ _
  · exact fg_le_rf _
theorem pz_opw : ∀ w, w < 10 → pz_op w = true → pz_rt w < 6 ∧ w ≠ 0 ∧ w ≠ 9 ∧ ¬ (w = 3 ∨ w = 4) ∧ (pz_mo w = 1 → pz_wi (pz_rt w) = 2) ∧ (pz_mo w = 0 → (pz_ns w).length ≤ pz_wi (pz_rt w)) ∧ (pz_mo w = 0 ∨ pz_mo w = 1) := by decide
/-- of words that open a row of a town -/
theorem pz_it_IX {V S : Nat → Nat} {w q m s : Nat} {X : pz_X} (hw : w < 10) (hop : pz_op w = true) (hX : X.1 = 0 → pz_IV X.2.2.1 X.2.2.2) (hs : ∀ i, i < m → pz_sg w i ≠ 32) (hm : (pz_it V S w (X.2.2.1 (pz_ci (pz_rt w))) q m (pz_ow w s X)).1 = 0) : ∀ i, i ≤ m → pz_IX (pz_it V S w (X.2.2.1 (pz_ci (pz_rt w))) q i (pz_ow w s X)).2.2.1 (pz_it V S w (X.2.2.1 (pz_ci (pz_rt w))) q i (pz_ow w s X)).2.2.2.1 (pz_rt w) (X.2.2.1 (pz_ci (pz_rt w))) ∧ X.2.2.1 (pz_ci (pz_rt w)) < (pz_it V S w (X.2.2.1 (pz_ci (pz_rt w))) q i (pz_ow w s X)).2.2.1 (pz_ci (pz_rt w)) := by
  obtain ⟨t6, w0, w9, w34, wm1, wm0, wmo⟩ := pz_opw w hw hop
  obtain ⟨x1, x2, -⟩ := pz_ow_0 (pz_it_0 m 0 (Nat.zero_le _) hm)
  obtain ⟨x3, x4⟩ := x2 hop
  intro i
  induction i with
  | zero =>
    intro _
    show pz_IX (pz_ow w s X).2.2.1 (pz_ow w s X).2.2.2.1 _ _ ∧ _ < (pz_ow w s X).2.2.1 _
    rw [x4, (pz_ow_l w s X).2, pz_ad_c]
    exact ⟨(hX x1).ad hw hop x3, Nat.lt_succ_self _⟩
  | succ i ih =>
    intro hi
    obtain ⟨h1, h2⟩ := ih (by omega)
    have hff := pz_it_ff (i := i) (by omega) hm
    have ht2 := pz_tf_lt hff h1.1.2.2
    show pz_IX (pz_kp w _ i _ _ (pz_it V S w (X.2.2.1 (pz_ci (pz_rt w))) q i (pz_ow w s X)).2.2.1) (pz_tf (pz_sg w i) _ _) _ _ ∧ _ < pz_kp w _ i _ _ _ _
    rw [pz_kp_ci (by omega) hop]
    refine ⟨?_, h2⟩
    unfold pz_kp
    rw [if_neg w0, if_neg w9, if_neg w34, if_neg (by omega)]
    by_cases c : pz_mo w = 1 ∧ 0 < i
    · rw [if_pos c]
      have e := wm1 c.1
      have := h1.put (i := 1) (v := (pz_it V S w (X.2.2.1 (pz_ci (pz_rt w))) q i (pz_ow w s X)).2.2.1 (pz_bs (pz_rt w) + (X.2.2.1 (pz_ci (pz_rt w)) * 2 + 1)) ||| 2 ^ V (q + i)) t6 h2 (by omega) (pz_tf_le (sg := pz_sg w i) (v := V (q + i))) ht2
      rw [e] at this
      exact this
    · rw [if_neg c]
      refine h1.put t6 h2 ?_ pz_tf_le ht2
      rcases wmo with g | g
      · have := pz_sg32 g (hs i (by omega))
        have := wm0 g
        omega
      · have := wm1 g
        omega
theorem pz_IV.c07 {C : Nat → Nat} {tf k v : Nat} (h : pz_IV C tf) (hv : (k = 0 ∧ 1 ≤ v ∧ v ≤ 10) ∨ (k = 7 ∧ v ≤ 99)) : pz_IV (pz_up C k v) tf := by
  obtain ⟨⟨h0, h7, h1⟩, hc, hrow, hz⟩ := h
  have ne : ∀ x, x ≠ 0 → x ≠ 7 → pz_up C k v x = C x := fun x a b => pz_up_ne (by omega)
  have c6 : ∀ u, u < 6 → pz_ci u ≠ 0 ∧ pz_ci u ≠ 7 := by decide
  refine ⟨⟨?_, ?_, h1⟩, fun u hu => by rw [ne _ (c6 u hu).1 (c6 u hu).2]; exact hc u hu, fun u hu l hl hne => ?_, fun n hn hn5 => ?_⟩
  · rcases hv with ⟨rfl, a, b⟩ | ⟨rfl, a⟩
    · rw [pz_up_eq]; exact ⟨a, b⟩
    · rw [pz_up_ne (by decide)]; exact h0
  · rcases hv with ⟨rfl, a, b⟩ | ⟨rfl, a⟩
    · rw [pz_up_ne (by decide)]; exact h7
    · rw [pz_up_eq]; exact a
  · rw [ne _ (c6 u hu).1 (c6 u hu).2] at hl
    have bu := pz_bs8 u hu
    exact (hrow u hu l hl hne).fr hu (fun i hi => ne _ (by omega) (by omega)) (by rw [ne 2 (by decide) (by decide)]; exact Nat.le_refl _) (fg_le_rf _)
  · rw [ne 2 (by decide) (by decide)] at hn
    rw [ne _ (by omega) (by omega), ne _ (by omega) (by omega)]
    exact hz n hn hn5
theorem pz_good_0 {K V S : Nat → Nat} {len j : Nat} {X : pz_X} (hX : X.1 = 0 → pz_IV X.2.2.1 X.2.2.2) (h : (pz_ln K V S len 0 j X).2.1 = 0) : pz_IV (pz_ln K V S len 0 j X).2.2.2.1 (pz_ln K V S len 0 j X).2.2.2.2 := by
  obtain ⟨m, m1, m2, m3, m4, m5⟩ := pz_ln_0 h
  have m1' : 1 ≤ m := m1
  have hm : m = 1 := by
    rcases Nat.eq_or_lt_of_le m1' with e | e
    · exact e.symm
    · exact absurd ((pz_sgv_0 1).2 (by decide)) (m2 1 e)
  subst hm
  rw [m4, m5]
  have hc := pz_it_can (i := 0) (by decide) m3
  rw [(pz_sgv_0 0).1 rfl] at hc
  have hc2 : 1 ≤ V (j + 1 + 0) ∧ V (j + 1 + 0) ≤ 10 := hc
  obtain ⟨x1, -, x2⟩ := pz_ow_0 (pz_it_0 1 0 (by decide) m3)
  show pz_IV (pz_up (pz_ow 0 (S j) X).2.2.1 0 (V (j + 1 + 0))) (pz_ow 0 (S j) X).2.2.2.1
  rw [x2 (by decide), (pz_ow_l 0 (S j) X).2]
  exact (hX x1).c07 (Or.inl ⟨rfl, hc2⟩)
theorem pz_good_9 {K V S : Nat → Nat} {len j : Nat} {X : pz_X} (hT : rz_TS K V S len) (hX : X.1 = 0 → pz_IV X.2.2.1 X.2.2.2) (h : (pz_ln K V S len 9 j X).2.1 = 0) : pz_IV (pz_ln K V S len 9 j X).2.2.2.1 (pz_ln K V S len 9 j X).2.2.2.2 := by
  obtain ⟨m, m1, m2, m3, m4, m5⟩ := pz_ln_0 h
  have m1' : 1 ≤ m := m1
  have hm : m = 1 := by
    rcases Nat.eq_or_lt_of_le m1' with e | e
    · exact e.symm
    · exact absurd ((pz_sgv_9 1).2 (by decide)) (m2 1 e)
  subst hm
  rw [m4, m5]
  obtain ⟨x1, -, x2⟩ := pz_ow_0 (pz_it_0 1 0 (by decide) m3)
  show pz_IV (pz_up (pz_ow 9 (S j) X).2.2.1 7 (V (j + 1 + 0))) (pz_ow 9 (S j) X).2.2.2.1
  rw [x2 (by decide), (pz_ow_l 9 (S j) X).2]
  exact (hX x1).c07 (Or.inr ⟨rfl, (hT (j + 1 + 0)).2.1⟩)
theorem pz_good_2 {K V S : Nat → Nat} {len j : Nat} {X : pz_X} (hT : rz_TS K V S len) (hX : X.1 = 0 → pz_IV X.2.2.1 X.2.2.2) (h : (pz_ln K V S len 2 j X).2.1 = 0) : pz_IV (pz_ln K V S len 2 j X).2.2.2.1 (pz_ln K V S len 2 j X).2.2.2.2 := by
  obtain ⟨m, m1, m2, m3, m4, m5⟩ := pz_ln_0 h
  rw [m4, m5]
  have IXm := (pz_it_IX (w := 2) (by decide) rfl hX m2 m3 m (Nat.le_refl _)).1
  obtain ⟨x1, x2, -⟩ := pz_ow_0 (pz_it_0 m 0 (Nat.zero_le _) m3)
  obtain ⟨x3, x4⟩ := x2 rfl
  have htf := (pz_ow_l 2 (S j) X).2
  generalize er : X.2.2.1 (pz_ci (pz_rt 2)) = r at IXm m3 x3 ⊢
  refine IXm.iv (by decide) ?_
  have m1' : 1 ≤ m := m1
  have hm : m = 1 := by
    rcases Nat.eq_or_lt_of_le m1' with e | e
    · exact e.symm
    · exact absurd ((pz_sgv_2 1).2 (by decide)) (m2 1 e)
  subst hm
  have hv := (hT (j + 1 + 0)).2.1
  have z : ∀ i, i < 3 → (pz_ow 2 (S j) X).2.2.1 (40 + (r * 3 + i)) = 0 := fun i hi => by
    rw [x4, ← er]; exact pz_ad_n (w := 2) (by decide) hi
  have e : (pz_it V S 2 r (j + 1) 1 (pz_ow 2 (S j) X)).2.2.1 = pz_up (pz_ow 2 (S j) X).2.2.1 (40 + (r * 3 + 0)) (V (j + 1 + 0)) := rfl
  rw [e]
  refine ⟨?_, ?_, ?_⟩
  · rw [pz_up_eq]; exact hv
  · rw [pz_up_ne (by omega), z 1 (by decide)]; exact fun i hh => by rw [Nat.zero_testBit] at hh; exact absurd hh (by decide)
  · rw [pz_up_ne (by omega), z 2 (by decide)]; decide
theorem pz_good_5 {K V S : Nat → Nat} {len j : Nat} {X : pz_X} (hT : rz_TS K V S len) (hX : X.1 = 0 → pz_IV X.2.2.1 X.2.2.2) (h : (pz_ln K V S len 5 j X).2.1 = 0) : pz_IV (pz_ln K V S len 5 j X).2.2.2.1 (pz_ln K V S len 5 j X).2.2.2.2 := by
  obtain ⟨m, m1, m2, m3, m4, m5⟩ := pz_ln_0 h
  rw [m4, m5]
  have IXm := (pz_it_IX (w := 5) (by decide) rfl hX m2 m3 m (Nat.le_refl _)).1
  obtain ⟨x1, x2, -⟩ := pz_ow_0 (pz_it_0 m 0 (Nat.zero_le _) m3)
  obtain ⟨x3, x4⟩ := x2 rfl
  have htf := (pz_ow_l 5 (S j) X).2
  generalize er : X.2.2.1 (pz_ci (pz_rt 5)) = r at IXm m3 x3 ⊢
  refine IXm.iv (by decide) ?_
  have m1' : 2 ≤ m := m1
  have hm : m = 2 := by
    rcases Nat.eq_or_lt_of_le m1' with e | e
    · exact e.symm
    · exact absurd ((pz_sgv_5 2).2.2 (by decide)) (m2 2 e)
  subst hm
  have c0 := pz_it_can (i := 0) (by decide) m3
  have c1 := pz_it_can (i := 1) (by decide) m3
  rw [(pz_sgv_5 0).1 rfl] at c0
  rw [(pz_sgv_5 1).2.1 rfl] at c1
  have d0 : 1 ≤ V (j + 1 + 0) ∧ V (j + 1 + 0) ≤ 9 := c0
  have d1 : V (j + 1 + 1) < 10 := c1
  have e : (pz_it V S 5 r (j + 1) 2 (pz_ow 5 (S j) X)).2.2.1 = pz_up (pz_up (pz_ow 5 (S j) X).2.2.1 (55 + (r * 2 + 0)) (V (j + 1 + 0))) (55 + (r * 2 + 1)) (V (j + 1 + 1)) := rfl
  have et : (pz_it V S 5 r (j + 1) 2 (pz_ow 5 (S j) X)).2.2.2.1 = (pz_ow 5 (S j) X).2.2.2.1 ||| 2 ^ V (j + 1 + 1) := rfl
  rw [e, et]
  refine ⟨?_, ?_⟩
  · rw [pz_up_ne (by omega), pz_up_eq]; exact d0.2
  · rw [pz_up_eq, Nat.testBit_or, Nat.testBit_two_pow_self]; simp
theorem pz_good_6 {K V S : Nat → Nat} {len j : Nat} {X : pz_X} (hT : rz_TS K V S len) (hX : X.1 = 0 → pz_IV X.2.2.1 X.2.2.2) (h : (pz_ln K V S len 6 j X).2.1 = 0) : pz_IV (pz_ln K V S len 6 j X).2.2.2.1 (pz_ln K V S len 6 j X).2.2.2.2 := by
  obtain ⟨m, m1, m2, m3, m4, m5⟩ := pz_ln_0 h
  rw [m4, m5]
  have IXm := (pz_it_IX (w := 6) (by decide) rfl hX m2 m3 m (Nat.le_refl _)).1
  obtain ⟨x1, x2, -⟩ := pz_ow_0 (pz_it_0 m 0 (Nat.zero_le _) m3)
  obtain ⟨x3, x4⟩ := x2 rfl
  have htf := (pz_ow_l 6 (S j) X).2
  generalize er : X.2.2.1 (pz_ci (pz_rt 6)) = r at IXm m3 x3 ⊢
  refine IXm.iv (by decide) ?_
  have m1' : 4 ≤ m := m1
  have hm : m = 4 := by
    rcases Nat.eq_or_lt_of_le m1' with e | e
    · exact e.symm
    · exact absurd ((pz_sgv_6 4).2.2.2.2 (by decide)) (m2 4 e)
  subst hm
  have c0 := pz_it_can (i := 0) (by decide) m3
  have c1 := pz_it_can (i := 1) (by decide) m3
  have c2 := pz_it_can (i := 2) (by decide) m3
  have c3 := pz_it_can (i := 3) (by decide) m3
  rw [(pz_sgv_6 0).1 rfl] at c0
  rw [(pz_sgv_6 1).2.1 rfl] at c1
  rw [(pz_sgv_6 2).2.2.1 rfl] at c2
  rw [(pz_sgv_6 3).2.2.2.1 rfl] at c3
  have d0 : V (j + 1 + 0) < (pz_ow 6 (S j) X).2.2.1 2 := c0
  have e1 : (pz_it V S 6 r (j + 1) 1 (pz_ow 6 (S j) X)).2.2.1 = pz_up (pz_ow 6 (S j) X).2.2.1 (79 + (r * 4 + 0)) (V (j + 1 + 0)) := rfl
  rw [e1] at c1
  have d1 : V (j + 1 + 1) < pz_up (pz_ow 6 (S j) X).2.2.1 (79 + (r * 4 + 0)) (V (j + 1 + 0)) 2 ∧ _ := c1
  rw [pz_up_ne (by omega)] at d1
  have d2 : 1 ≤ V (j + 1 + 2) ∧ V (j + 1 + 2) ≤ 9 := c2
  have e : (pz_it V S 6 r (j + 1) 4 (pz_ow 6 (S j) X)).2.2.1 = pz_up (pz_up (pz_up (pz_up (pz_ow 6 (S j) X).2.2.1 (79 + (r * 4 + 0)) (V (j + 1 + 0))) (79 + (r * 4 + 1)) (V (j + 1 + 1))) (79 + (r * 4 + 2)) (V (j + 1 + 2))) (79 + (r * 4 + 3)) (V (j + 1 + 3)) := rfl
  have et : (pz_it V S 6 r (j + 1) 4 (pz_ow 6 (S j) X)).2.2.2.1 = (pz_ow 6 (S j) X).2.2.2.1 ||| 2 ^ V (j + 1 + 3) := rfl
  rw [e, et]
  have e2 : pz_up (pz_up (pz_up (pz_up (pz_ow 6 (S j) X).2.2.1 (79 + (r * 4 + 0)) (V (j + 1 + 0))) (79 + (r * 4 + 1)) (V (j + 1 + 1))) (79 + (r * 4 + 2)) (V (j + 1 + 2))) (79 + (r * 4 + 3)) (V (j + 1 + 3)) 2 = (pz_ow 6 (S j) X).2.2.1 2 := by
    rw [pz_up_ne (by omega), pz_up_ne (by omega), pz_up_ne (by omega), pz_up_ne (by omega)]
  refine ⟨?_, ?_, ?_, ?_⟩
  · rw [e2, pz_up_ne (by omega), pz_up_ne (by omega), pz_up_ne (by omega), pz_up_eq]; exact d0
  · rw [e2, pz_up_ne (by omega), pz_up_ne (by omega), pz_up_eq]; exact d1.1
  · rw [pz_up_ne (by omega), pz_up_eq]; exact d2.2
  · rw [pz_up_eq, Nat.testBit_or, Nat.testBit_two_pow_self]; simp
theorem pz_good_1 {K V S : Nat → Nat} {len j : Nat} {X : pz_X} (hT : rz_TS K V S len) (hX : X.1 = 0 → pz_IV X.2.2.1 X.2.2.2) (h : (pz_ln K V S len 1 j X).2.1 = 0) : pz_IV (pz_ln K V S len 1 j X).2.2.2.1 (pz_ln K V S len 1 j X).2.2.2.2 := by
  obtain ⟨m, m1, m2, m3, m4, m5⟩ := pz_ln_0 h
  rw [m4, m5]
  have IXm := (pz_it_IX (w := 1) (by decide) rfl hX m2 m3 m (Nat.le_refl _)).1
  obtain ⟨x1, x2, -⟩ := pz_ow_0 (pz_it_0 m 0 (Nat.zero_le _) m3)
  obtain ⟨x3, x4⟩ := x2 rfl
  have htf := (pz_ow_l 1 (S j) X).2
  generalize er : X.2.2.1 (pz_ci (pz_rt 1)) = r at IXm m3 x3 ⊢
  refine IXm.iv (by decide) ?_
  have z : ∀ i, i < 2 → (pz_ow 1 (S j) X).2.2.1 (8 + (r * 2 + i)) = 0 := fun i hi => by
    rw [x4, ← er]; exact pz_ad_n (w := 1) (by decide) hi
  have row : ∀ i, i ≤ m → (1 ≤ i → ((pz_it V S 1 r (j + 1) i (pz_ow 1 (S j) X)).2.2.1 (8 + (r * 2 + 0)) < 10 ∧ (pz_it V S 1 r (j + 1) i (pz_ow 1 (S j) X)).2.2.2.1.testBit ((pz_it V S 1 r (j + 1) i (pz_ow 1 (S j) X)).2.2.1 (8 + (r * 2 + 0))) = true)) ∧ fg_le ((pz_it V S 1 r (j + 1) i (pz_ow 1 (S j) X)).2.2.1 (8 + (r * 2 + 1))) (pz_it V S 1 r (j + 1) i (pz_ow 1 (S j) X)).2.2.2.1 ∧ (2 ≤ i → (pz_it V S 1 r (j + 1) i (pz_ow 1 (S j) X)).2.2.1 (8 + (r * 2 + 1)) ≠ 0) := by
    intro i
    induction i with
    | zero =>
      intro _
      refine ⟨fun g => absurd g (by decide), ?_, fun g => absurd g (by decide)⟩
      have e1 : (pz_it V S 1 r (j + 1) 0 (pz_ow 1 (S j) X)).2.2.1 = (pz_ow 1 (S j) X).2.2.1 := rfl
      rw [e1, z 1 (by decide)]
      exact fun i hh => by rw [Nat.zero_testBit] at hh; exact absurd hh (by decide)
    | succ i ih =>
      intro hi
      obtain ⟨a, b, c⟩ := ih (by omega)
      have hc := pz_it_can (i := i) (by omega) m3
      rcases Nat.eq_zero_or_pos i with g | g
      · subst g
        have e1 : (pz_it V S 1 r (j + 1) (0 + 1) (pz_ow 1 (S j) X)).2.2.1 = pz_up (pz_ow 1 (S j) X).2.2.1 (8 + (r * 2 + 0)) (V (j + 1 + 0)) := rfl
        have e2 : (pz_it V S 1 r (j + 1) (0 + 1) (pz_ow 1 (S j) X)).2.2.2.1 = (pz_ow 1 (S j) X).2.2.2.1 ||| 2 ^ V (j + 1 + 0) := rfl
        rw [(pz_sgv_1 0).1 rfl] at hc
        have d0 : V (j + 1 + 0) < 10 ∧ _ := hc
        rw [e1, e2]
        refine ⟨fun _ => ⟨by rw [pz_up_eq]; exact d0.1, by rw [pz_up_eq, Nat.testBit_or, Nat.testBit_two_pow_self]; simp⟩, ?_, fun k => absurd k (by decide)⟩
        rw [pz_up_ne (by omega), z 1 (by decide)]
        exact fun i hh => by rw [Nat.zero_testBit] at hh; exact absurd hh (by decide)
      · have e1 : (pz_it V S 1 r (j + 1) (i + 1) (pz_ow 1 (S j) X)).2.2.1 = pz_up (pz_it V S 1 r (j + 1) i (pz_ow 1 (S j) X)).2.2.1 (8 + (r * 2 + 1)) ((pz_it V S 1 r (j + 1) i (pz_ow 1 (S j) X)).2.2.1 (8 + (r * 2 + 1)) ||| 2 ^ V (j + 1 + i)) := by
          show pz_kp 1 r i (V (j + 1 + i)) (pz_f1 i (V (j + 1 + i)) (pz_it V S 1 r (j + 1) i (pz_ow 1 (S j) X)).2.2.2.2.2) (pz_it V S 1 r (j + 1) i (pz_ow 1 (S j) X)).2.2.1 = _
          unfold pz_kp
          rw [if_neg (by decide), if_neg (by decide), if_neg (by decide), if_neg (by decide), if_pos ⟨rfl, g⟩]; rfl
        have hs : pz_sg 1 i = 117 := (pz_sgv_1 i).2 g
        have e2 : (pz_it V S 1 r (j + 1) (i + 1) (pz_ow 1 (S j) X)).2.2.2.1 = (pz_it V S 1 r (j + 1) i (pz_ow 1 (S j) X)).2.2.2.1 ||| 2 ^ V (j + 1 + i) := by
          show pz_tf (pz_sg 1 i) _ _ = _
          rw [hs]; exact if_pos (Or.inr rfl)
        rw [e1, e2]
        have hle := fg_le_or1 (pz_it V S 1 r (j + 1) i (pz_ow 1 (S j) X)).2.2.2.1 (2 ^ V (j + 1 + i))
        refine ⟨fun _ => ?_, ?_, fun _ => ?_⟩
        · rw [pz_up_ne (by omega)]; exact ⟨(a g).1, hle _ (a g).2⟩
        · rw [pz_up_eq]
          exact fg_or_le (fg_le_tr b hle) (fun x hx => by rw [Nat.testBit_or, hx]; simp)
        · rw [pz_up_eq]
          intro q
          have q2 : ((pz_it V S 1 r (j + 1) i (pz_ow 1 (S j) X)).2.2.1 (8 + (r * 2 + 1)) ||| 2 ^ V (j + 1 + i)).testBit (V (j + 1 + i)) = true := by rw [Nat.testBit_or, Nat.testBit_two_pow_self]; simp
          rw [q, Nat.zero_testBit] at q2
          exact absurd q2 (by decide)
  have m1' : 2 ≤ m := m1
  obtain ⟨a, b, c⟩ := row m (Nat.le_refl _)
  exact ⟨(a (by omega)).1, (a (by omega)).2, b, c m1'⟩
theorem pz_good_7 {K V S : Nat → Nat} {len j : Nat} {X : pz_X} (hT : rz_TS K V S len) (hX : X.1 = 0 → pz_IV X.2.2.1 X.2.2.2) (h : (pz_ln K V S len 7 j X).2.1 = 0) : pz_IV (pz_ln K V S len 7 j X).2.2.2.1 (pz_ln K V S len 7 j X).2.2.2.2 := by
  obtain ⟨m, m1, m2, m3, m4, m5⟩ := pz_ln_0 h
  rw [m4, m5]
  have IXm := (pz_it_IX (w := 7) (by decide) rfl hX m2 m3 m (Nat.le_refl _)).1
  obtain ⟨x1, x2, -⟩ := pz_ow_0 (pz_it_0 m 0 (Nat.zero_le _) m3)
  obtain ⟨x3, x4⟩ := x2 rfl
  have htf := (pz_ow_l 7 (S j) X).2
  generalize er : X.2.2.1 (pz_ci (pz_rt 7)) = r at IXm m3 x3 ⊢
  refine IXm.iv (by decide) ?_
  have z : ∀ i, i < 2 → (pz_ow 7 (S j) X).2.2.1 (127 + (r * 2 + i)) = 0 := fun i hi => by
    rw [x4, ← er]; exact pz_ad_n (w := 7) (by decide) hi
  have row : ∀ i, i ≤ m → (1 ≤ i → (pz_it V S 7 r (j + 1) i (pz_ow 7 (S j) X)).2.2.1 (127 + (r * 2 + 0)) ≤ 99) ∧ fg_le ((pz_it V S 7 r (j + 1) i (pz_ow 7 (S j) X)).2.2.1 (127 + (r * 2 + 1))) (pz_it V S 7 r (j + 1) i (pz_ow 7 (S j) X)).2.2.2.1 ∧ (2 ≤ i → (pz_it V S 7 r (j + 1) i (pz_ow 7 (S j) X)).2.2.1 (127 + (r * 2 + 1)) ≠ 0) := by
    intro i
    induction i with
    | zero =>
      intro _
      refine ⟨fun g => absurd g (by decide), ?_, fun g => absurd g (by decide)⟩
      have e1 : (pz_it V S 7 r (j + 1) 0 (pz_ow 7 (S j) X)).2.2.1 = (pz_ow 7 (S j) X).2.2.1 := rfl
      rw [e1, z 1 (by decide)]
      exact fun i hh => by rw [Nat.zero_testBit] at hh; exact absurd hh (by decide)
    | succ i ih =>
      intro hi
      obtain ⟨a, b, c⟩ := ih (by omega)
      have hc := pz_it_can (i := i) (by omega) m3
      rcases Nat.eq_zero_or_pos i with g | g
      · subst g
        have e1 : (pz_it V S 7 r (j + 1) (0 + 1) (pz_ow 7 (S j) X)).2.2.1 = pz_up (pz_ow 7 (S j) X).2.2.1 (127 + (r * 2 + 0)) (V (j + 1 + 0)) := rfl
        rw [e1]
        refine ⟨fun _ => by rw [pz_up_eq]; exact (hT (j + 1 + 0)).2.1, ?_, fun k => absurd k (by decide)⟩
        rw [pz_up_ne (by omega), z 1 (by decide)]
        exact fun i hh => by rw [Nat.zero_testBit] at hh; exact absurd hh (by decide)
      · have e1 : (pz_it V S 7 r (j + 1) (i + 1) (pz_ow 7 (S j) X)).2.2.1 = pz_up (pz_it V S 7 r (j + 1) i (pz_ow 7 (S j) X)).2.2.1 (127 + (r * 2 + 1)) ((pz_it V S 7 r (j + 1) i (pz_ow 7 (S j) X)).2.2.1 (127 + (r * 2 + 1)) ||| 2 ^ V (j + 1 + i)) := by
          show pz_kp 7 r i (V (j + 1 + i)) (pz_f1 i (V (j + 1 + i)) (pz_it V S 7 r (j + 1) i (pz_ow 7 (S j) X)).2.2.2.2.2) (pz_it V S 7 r (j + 1) i (pz_ow 7 (S j) X)).2.2.1 = _
          unfold pz_kp
          rw [if_neg (by decide), if_neg (by decide), if_neg (by decide), if_neg (by decide), if_pos ⟨rfl, g⟩]; rfl
        have hs : pz_sg 7 i = 117 := (pz_sgv_7 i).2 g
        have e2 : (pz_it V S 7 r (j + 1) (i + 1) (pz_ow 7 (S j) X)).2.2.2.1 = (pz_it V S 7 r (j + 1) i (pz_ow 7 (S j) X)).2.2.2.1 ||| 2 ^ V (j + 1 + i) := by
          show pz_tf (pz_sg 7 i) _ _ = _
          rw [hs]; exact if_pos (Or.inr rfl)
        rw [e1, e2]
        have hle := fg_le_or1 (pz_it V S 7 r (j + 1) i (pz_ow 7 (S j) X)).2.2.2.1 (2 ^ V (j + 1 + i))
        refine ⟨fun _ => ?_, ?_, fun _ => ?_⟩
        · rw [pz_up_ne (by omega)]; exact a g
        · rw [pz_up_eq]
          exact fg_or_le (fg_le_tr b hle) (fun x hx => by rw [Nat.testBit_or, hx]; simp)
        · rw [pz_up_eq]
          intro q
          have q2 : ((pz_it V S 7 r (j + 1) i (pz_ow 7 (S j) X)).2.2.1 (127 + (r * 2 + 1)) ||| 2 ^ V (j + 1 + i)).testBit (V (j + 1 + i)) = true := by rw [Nat.testBit_or, Nat.testBit_two_pow_self]; simp
          rw [q, Nat.zero_testBit] at q2
          exact absurd q2 (by decide)
  have m1' : 2 ≤ m := m1
  obtain ⟨a, b, c⟩ := row m (Nat.le_refl _)
  exact ⟨a (by omega), b⟩
theorem pz_good_8 {K V S : Nat → Nat} {len j : Nat} {X : pz_X} (hT : rz_TS K V S len) (hX : X.1 = 0 → pz_IV X.2.2.1 X.2.2.2) (h : (pz_ln K V S len 8 j X).2.1 = 0) : pz_IV (pz_ln K V S len 8 j X).2.2.2.1 (pz_ln K V S len 8 j X).2.2.2.2 := by
  obtain ⟨m, m1, m2, m3, m4, m5⟩ := pz_ln_0 h
  rw [m4, m5]
  have IXm := (pz_it_IX (w := 8) (by decide) rfl hX m2 m3 m (Nat.le_refl _)).1
  obtain ⟨x1, x2, -⟩ := pz_ow_0 (pz_it_0 m 0 (Nat.zero_le _) m3)
  obtain ⟨x3, x4⟩ := x2 rfl
  have htf := (pz_ow_l 8 (S j) X).2
  generalize er : X.2.2.1 (pz_ci (pz_rt 8)) = r at IXm m3 x3 ⊢
  refine IXm.iv (by decide) ?_
  have z : ∀ i, i < 2 → (pz_ow 8 (S j) X).2.2.1 (139 + (r * 2 + i)) = 0 := fun i hi => by
    rw [x4, ← er]; exact pz_ad_n (w := 8) (by decide) hi
  have row : ∀ i, i ≤ m → (1 ≤ i → (pz_it V S 8 r (j + 1) i (pz_ow 8 (S j) X)).2.2.1 (139 + (r * 2 + 0)) ≤ 99) ∧ fg_le ((pz_it V S 8 r (j + 1) i (pz_ow 8 (S j) X)).2.2.1 (139 + (r * 2 + 1))) (pz_it V S 8 r (j + 1) i (pz_ow 8 (S j) X)).2.2.2.1 ∧ (2 ≤ i → (pz_it V S 8 r (j + 1) i (pz_ow 8 (S j) X)).2.2.1 (139 + (r * 2 + 1)) ≠ 0) := by
    intro i
    induction i with
    | zero =>
      intro _
      refine ⟨fun g => absurd g (by decide), ?_, fun g => absurd g (by decide)⟩
      have e1 : (pz_it V S 8 r (j + 1) 0 (pz_ow 8 (S j) X)).2.2.1 = (pz_ow 8 (S j) X).2.2.1 := rfl
      rw [e1, z 1 (by decide)]
      exact fun i hh => by rw [Nat.zero_testBit] at hh; exact absurd hh (by decide)
    | succ i ih =>
      intro hi
      obtain ⟨a, b, c⟩ := ih (by omega)
      have hc := pz_it_can (i := i) (by omega) m3
      rcases Nat.eq_zero_or_pos i with g | g
      · subst g
        have e1 : (pz_it V S 8 r (j + 1) (0 + 1) (pz_ow 8 (S j) X)).2.2.1 = pz_up (pz_ow 8 (S j) X).2.2.1 (139 + (r * 2 + 0)) (V (j + 1 + 0)) := rfl
        rw [e1]
        refine ⟨fun _ => by rw [pz_up_eq]; exact (hT (j + 1 + 0)).2.1, ?_, fun k => absurd k (by decide)⟩
        rw [pz_up_ne (by omega), z 1 (by decide)]
        exact fun i hh => by rw [Nat.zero_testBit] at hh; exact absurd hh (by decide)
      · have e1 : (pz_it V S 8 r (j + 1) (i + 1) (pz_ow 8 (S j) X)).2.2.1 = pz_up (pz_it V S 8 r (j + 1) i (pz_ow 8 (S j) X)).2.2.1 (139 + (r * 2 + 1)) ((pz_it V S 8 r (j + 1) i (pz_ow 8 (S j) X)).2.2.1 (139 + (r * 2 + 1)) ||| 2 ^ V (j + 1 + i)) := by
          show pz_kp 8 r i (V (j + 1 + i)) (pz_f1 i (V (j + 1 + i)) (pz_it V S 8 r (j + 1) i (pz_ow 8 (S j) X)).2.2.2.2.2) (pz_it V S 8 r (j + 1) i (pz_ow 8 (S j) X)).2.2.1 = _
          unfold pz_kp
          rw [if_neg (by decide), if_neg (by decide), if_neg (by decide), if_neg (by decide), if_pos ⟨rfl, g⟩]; rfl
        have hs : pz_sg 8 i = 117 := (pz_sgv_8 i).2 g
        have e2 : (pz_it V S 8 r (j + 1) (i + 1) (pz_ow 8 (S j) X)).2.2.2.1 = (pz_it V S 8 r (j + 1) i (pz_ow 8 (S j) X)).2.2.2.1 ||| 2 ^ V (j + 1 + i) := by
          show pz_tf (pz_sg 8 i) _ _ = _
          rw [hs]; exact if_pos (Or.inr rfl)
        rw [e1, e2]
        have hle := fg_le_or1 (pz_it V S 8 r (j + 1) i (pz_ow 8 (S j) X)).2.2.2.1 (2 ^ V (j + 1 + i))
        refine ⟨fun _ => ?_, ?_, fun _ => ?_⟩
        · rw [pz_up_ne (by omega)]; exact a g
        · rw [pz_up_eq]
          exact fg_or_le (fg_le_tr b hle) (fun x hx => by rw [Nat.testBit_or, hx]; simp)
        · rw [pz_up_eq]
          intro q
          have q2 : ((pz_it V S 8 r (j + 1) i (pz_ow 8 (S j) X)).2.2.1 (139 + (r * 2 + 1)) ||| 2 ^ V (j + 1 + i)).testBit (V (j + 1 + i)) = true := by rw [Nat.testBit_or, Nat.testBit_two_pow_self]; simp
          rw [q, Nat.zero_testBit] at q2
          exact absurd q2 (by decide)
  have m1' : 2 ≤ m := m1
  obtain ⟨a, b, c⟩ := row m (Nat.le_refl _)
  exact ⟨a (by omega), b⟩
