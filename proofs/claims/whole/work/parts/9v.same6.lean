/-! both read alike: rules, skills, hurts -/
theorem pz_ow_l (w s : Nat) (X : pz_X) : (pz_ow w s X).2.2.2.2.1 = 0 ∧ (pz_ow w s X).2.2.2.1 = X.2.2.2 := by
  unfold pz_ow
  by_cases c : pz_op w = true
  · rw [if_pos c]
    by_cases d : X.2.2.1 (pz_ci (pz_rt w)) < pz_mx (pz_rt w)
    · rw [if_pos d]; exact ⟨rfl, rfl⟩
    · rw [if_neg d]; exact ⟨rfl, rfl⟩
  · rw [if_neg c]; exact ⟨rfl, rfl⟩
theorem pz_nl_0 {K V S : Nat → Nat} {w r q : Nat} : ∀ f i Y, (pz_nl K V S w r q f i Y).2.1 = 0 → Y.1 = 0 := by
  intro f
  induction f with
  | zero => intro i Y h; exact h
  | succ f ih =>
    intro i Y h
    by_cases c : K (q + i) = 1 ∧ pz_sg w i ≠ 32
    · rw [pz_nl_s c.1 c.2] at h
      exact (pz_st_0 (ih _ _ h)).1
    · rw [pz_nl_e c] at h; exact h
theorem pz_eq2 {C : Nat → Nat} {base ci n v0 v1 : Nat} {x : Nat → Nat} (hb : ci < base) (hn : C ci = n) : pz_up (pz_up (pz_up C (base + 2 * C ci) v0) (base + 2 * C ci + 1) v1) ci (C ci + 1) = pz_up (pz_up (fun k => if k = ci then n + 1 else if base + n * 2 ≤ k ∧ k < base + n * 2 + 2 then x k else C k) (base + (n * 2 + 0)) v0) (base + (n * 2 + 1)) v1 := by
  funext k
  rw [hn]
  by_cases y9 : k = ci
  · refine (pz_up_if (by omega)).trans ?_
    refine Eq.symm ?_
    refine (pz_up_ne (by omega)).trans ?_
    refine (pz_up_ne (by omega)).trans ?_
    exact if_pos (by omega)
  by_cases y0 : k = base + n * 2 + 0
  · refine (pz_up_ne (by omega)).trans ?_
    refine (pz_up_ne (by omega)).trans ?_
    refine (pz_up_if (by omega)).trans ?_
    refine Eq.symm ?_
    refine (pz_up_ne (by omega)).trans ?_
    exact pz_up_if (by omega)
  by_cases y1 : k = base + n * 2 + 1
  · refine (pz_up_ne (by omega)).trans ?_
    refine (pz_up_if (by omega)).trans ?_
    refine Eq.symm ?_
    exact pz_up_if (by omega)
  · refine (pz_up_ne (by omega)).trans ?_
    refine (pz_up_ne (by omega)).trans ?_
    refine (pz_up_ne (by omega)).trans ?_
    refine Eq.symm ?_
    refine (pz_up_ne (by omega)).trans ?_
    refine (pz_up_ne (by omega)).trans ?_
    refine (if_neg (by omega)).trans ?_
    exact if_neg (by omega)
theorem fg_df_self (a : Nat) : fg_df a a = 0 := fg_df0.mpr (fg_le_rf a)
theorem rz_line_1v {K V S : Nat → Nat} {len j : Nat} {X : pz_X} {Z : rz_Z} (hT : rz_TS K V S len) (hk : K j = 3) (hR : rz_Rg S 0 j X Z) {z0 : rz_Z} (ez0 : rz_c3 1 16 (S j) (rz_ad Z) = z0) {a0 : Nat × rz_Z} (ea0 : rz_fa K V S z0 = a0) {u0 : Nat × rz_Z} (eu0 : rz_un K V S len (rz_ahd a0.1) a0.2 = u0) : rz_Re S 0 (pz_ln K V S len 1 j X) (rz_el K S (rz_pr 1 16 8 a0.1 u0.1 u0.2)) := by
  have hk0 : K j ≠ 0 := by omega
  obtain ⟨h0a, hoa, hg0a⟩ := rz_open (w := 1) hT hk0 rfl hR
  have h0 : rz_Rl S (j + 1) (pz_ow 1 (S j) X).1 (pz_ow 1 (S j) X).2.1 (rz_c3 1 16 (S j) (rz_ad Z)) := h0a
  have hg0 : (rz_c3 1 16 (S j) (rz_ad Z)).2.2.2.1 = Z.2.2.2.1 := hg0a
  have ho : (pz_ow 1 (S j) X).1 = 0 → X.1 = 0 ∧ X.2.2.1 1 < 16 ∧ pz_ow 1 (S j) X = (X.1, X.2.1, pz_ad 1 X.2.2.1, X.2.2.2, 0, 4294967295) := hoa
  clear h0a hg0a hoa
  have hC0 : (rz_c3 1 16 (S j) (rz_ad Z)).2.2.2.2 = Z.2.2.2.2 := rz_c3_C
  rw [ez0] at h0 hg0 hC0
  show rz_Re S 0 (pz_le K S 1 j (pz_nl K V S 1 (X.2.2.1 (pz_ci (pz_rt 1))) (j + 1) len 0 (pz_ow 1 (S j) X))) _
  obtain ⟨hl0, ht0⟩ := pz_ow_l 1 (S j) X
  generalize eY0 : pz_ow 1 (S j) X = Y0 at h0 ho hl0 ht0 ⊢
  generalize er : X.2.2.1 (pz_ci (pz_rt 1)) = r at ⊢
  have hv0 := (hT (j + 1 + 0)).2.1
  by_cases k0 : K (j + 1 + 0) = 1
  rotate_left
  · have en : pz_nl K V S 1 r (j + 1) len 0 Y0 = (0, Y0) := pz_nl_e (fun g => k0 g.1)
    rw [en]
    have hW : rz_W (j + 1 + 0) (S (j + 1 + 0)) a0.2 := by
      have hW0 : rz_W (j + 1 + 0) (S (j + 1 + 0)) (rz_fa K V S z0).2 := rz_W.gr (h0.no k0)
      rw [ea0] at hW0; exact hW0
    have hW2 : rz_W (j + 1 + 0) (S (j + 1 + 0)) u0.2 := by rw [← eu0]; exact hW.un
    exact rz_fail (by decide) (rz_W.el (rz_W.pr hW2))
  obtain ⟨h1, g1, d1⟩ := rz_stepN (w := 1) (r := r) (i := 0) (lo := 0) (hi := 10) (Y := Y0) hT k0 h0 (fun _ => by
    rw [(pz_sgv_1 0).1 rfl, hl0]
    by_cases d : V (j + 1 + 0) < 10
    · rw [pz_ffT (show pz_can 117 (V (j + 1 + 0)) (Y0.2.2.1 2) 0 Y0.2.2.2.2.2 from (⟨d, by rw [Nat.zero_testBit]; decide⟩ : V (j + 1 + 0) < 10 ∧ ¬ (0 : Nat).testBit (V (j + 1 + 0)) = true)), if_neg (by omega), if_pos ⟨Nat.zero_le _, d⟩]
    · rw [pz_ffF (show ¬ pz_can 117 (V (j + 1 + 0)) (Y0.2.2.1 2) 0 Y0.2.2.2.2.2 from fun g => d (show V (j + 1 + 0) < 10 ∧ ¬ (0 : Nat).testBit (V (j + 1 + 0)) = true from g).1), if_neg (fun g => d g.2)])
  have hf1 := h1.fa
  have gf1 : a0.2.2.2.2.1 = (if (rz_nu K V S 0 10 z0).1 ≠ 4294967295 ∧ (rz_nu K V S 0 10 z0).2.2.2.2.1 < (rz_nu K V S 0 10 z0).1 then (rz_nu K V S 0 10 z0).1 else (rz_nu K V S 0 10 z0).2.2.2.2.1) := by rw [← ea0]; exact rz_fa_e.2.2.2.2
  have ef1 : a0.1 = (rz_nu K V S 0 10 z0).1 := by rw [← ea0]; rfl
  rw [ea0] at hf1
  rw [g1, ← ef1] at gf1
  rw [← ef1] at d1
  replace h1 := hf1
  have hC1 : a0.2.2.2.2.2 = z0.2.2.2.2 := by rw [← ea0, rz_fa_C]
  have e1 : pz_nl K V S 1 r (j + 1) len 0 Y0 = pz_nl K V S 1 r (j + 1) (len - 1) 1 (pz_it V S 1 r (j + 1) 1 Y0) := pz_nl_it 1 len (by have := ((hT (j + 1 + 0)).1 (by omega)).2; omega) (fun i hi => by
      rcases (show i = 0 by omega) with rfl
      exact ⟨k0, by decide⟩)
  rw [e1]
  by_cases k1 : K (j + 1 + 1) = 1
  rotate_left
  · rw [pz_nl_e (K := K) (q := j + 1) (i := 1) (fun g => k1 g.1)]
    have hW2 : rz_W (j + 1 + 1) (S (j + 1 + 1)) u0.2 := by rw [← eu0]; exact rz_un_no k1 h1
    exact rz_fail (by decide) (rz_W.el (rz_W.pr hW2))
  have hY1l : (pz_it V S 1 r (j + 1) 1 Y0).1 = 0 → (rz_ahd a0.1) = (pz_it V S 1 r (j + 1) 1 Y0).2.2.2.2.1 := fun z => by
    obtain ⟨z0, ok1, va1⟩ := d1 z
    show _ = pz_tf (pz_sg 1 0) (V (j + 1 + 0)) Y0.2.2.2.2.1
    rw [(pz_sgv_1 0).1 rfl, hl0, va1]
    rw [show pz_tf 117 (V (j + 1 + 0)) 0 = 0 ||| 2 ^ V (j + 1 + 0) from if_pos (Or.inr rfl), Nat.zero_or]
    exact if_neg (by omega)
  have hYC : (pz_it V S 1 r (j + 1) 1 Y0).1 = 0 → (pz_it V S 1 r (j + 1) 1 Y0).2.2.1 = pz_up (fun k => if k = 1 then X.2.2.1 1 + 1 else if 8 + X.2.2.1 1 * 2 ≤ k ∧ k < 8 + X.2.2.1 1 * 2 + 2 then (if 1 < 10 then 0 else if k = 8 + X.2.2.1 1 * 2 then 1 - 10 else 4294967295) else X.2.2.1 k) (8 + (X.2.2.1 1 * 2 + 0)) (V (j + 1 + 0)) := fun z => by
    obtain ⟨z0, ok1, va1⟩ := d1 z
    obtain ⟨x1, x2, x3⟩ := ho z0
    have e0 : Y0.2.2.1 = (fun k => if k = 1 then X.2.2.1 1 + 1 else if 8 + X.2.2.1 1 * 2 ≤ k ∧ k < 8 + X.2.2.1 1 * 2 + 2 then (if 1 < 10 then 0 else if k = 8 + X.2.2.1 1 * 2 then 1 - 10 else 4294967295) else X.2.2.1 k) := by rw [x3]; rfl
    rw [← e0, ← er]; rfl
  have hr : r = X.2.2.1 1 := er.symm
  obtain ⟨m', p1, p2, p3, p4, p5, p6⟩ := rz_ulRel (w := 1) (r := r) (q := j + 1) (ah := (rz_ahd a0.1)) (cb := 8 + (r * 2 + 1)) (C1 := (pz_it V S 1 r (j + 1) 1 Y0).2.2.1) (Cz := a0.2.2.2.2.2) hT (fun i hi => (pz_sgv_1 i).2 hi) (fun i v fi C hi => by unfold pz_kp; rw [if_neg (by decide), if_neg (by decide), if_neg (by decide), if_neg (by decide), if_pos ⟨rfl, by omega⟩]; rfl) len 0 (rz_ahd a0.1) (len + 2) a0.2 (pz_it V S 1 r (j + 1) 1 Y0) (by omega) (by omega) (Or.inr k1) ⟨h1, fun z => ⟨hY1l z, fg_le_rf _, by
      rw [fg_df_self]
      funext k
      by_cases e : k = 8 + (r * 2 + 1)
      · rw [e, pz_up_eq, hYC z, hr, pz_up_ne (by omega)]
        exact (if_neg (by omega)).trans ((if_pos (by omega)).trans (if_pos (by decide)))
      · rw [pz_up_ne e], by
      obtain ⟨z0, ok1, va1⟩ := d1 z
      obtain ⟨x1, x2, x3⟩ := ho z0
      have hg := (hR.2 x1).2 rfl
      rw [gf1, va1, hg0]
      show rz_gt _ (pz_tf (pz_sg 1 0) (V (j + 1 + 0)) Y0.2.2.2.1)
      rw [(pz_sgv_1 0).1 rfl, show pz_tf 117 (V (j + 1 + 0)) Y0.2.2.2.1 = Y0.2.2.2.1 ||| 2 ^ V (j + 1 + 0) from if_pos (Or.inr rfl), ht0]
      exact rz_gt_up hg (by omega), rfl⟩⟩
  have p1' := p1 k1
  have hu : u0.1 = fg_df (rz_ul K V S (len + 2) 0 (rz_ahd a0.1) a0.2).1 (rz_ahd a0.1) ∧ u0.2 = (rz_ul K V S (len + 2) 0 (rz_ahd a0.1) a0.2).2 := by rw [← eu0]; exact ⟨rfl, rfl⟩
  have hCu : u0.2.2.2.2.2 = Z.2.2.2.2 := by rw [← eu0, rz_un_C, hC1, hC0]
  generalize hres : pz_nl K V S 1 r (j + 1) (len - (0 + 1)) (0 + 1) (pz_it V S 1 r (j + 1) 1 Y0) = res at p3 p5 p6
  have hres2 : pz_nl K V S 1 r (j + 1) (len - 1) 1 (pz_it V S 1 r (j + 1) 1 Y0) = res := hres
  have hz1 : res.2.1 = 0 → (pz_it V S 1 r (j + 1) 1 Y0).1 = 0 := fun z => pz_nl_0 (K := K) (V := V) (S := S) (w := 1) (r := r) (q := j + 1) (len - 1) 1 (pz_it V S 1 r (j + 1) 1 Y0) (by rw [hres2]; exact z)
  obtain ⟨i', Y'⟩ := res
  have p3' : i' = m' + 1 := p3
  subst p3'
  refine rz_close hT (show 2 ≤ m' + 1 by omega) (rz_Rn.pr (by rw [hu.2]; exact p5)) (fun zz => ?_)
  have z1 := hz1 zz
  obtain ⟨z0, ok1, va1⟩ := d1 z1
  obtain ⟨x1, x2, x3⟩ := ho z0
  obtain ⟨y1, y2, y3, y4, y5⟩ := p6 zz
  refine ⟨?_, fun _ => ?_⟩
  · rw [(hR.2 x1).1] at hCu
    rw [rz_pr_C hCu x2, y3, hYC z1, hu.1, va1, hr]
    exact pz_eq2 (by decide) rfl
  · rw [rz_pr_g, hu.2]; exact y4
theorem rz_line_1 {K V S : Nat → Nat} {len j : Nat} {X : pz_X} {Z : rz_Z} (hT : rz_TS K V S len) (hk : K j = 3) (hR : rz_Rg S 0 j X Z) : rz_Re S 0 (pz_ln K V S len 1 j X) (rz_el K S (rz_rl K V S len (S j) (rz_ad Z))) := rz_line_1v hT hk hR rfl rfl rfl
theorem rz_line_7v {K V S : Nat → Nat} {len j : Nat} {X : pz_X} {Z : rz_Z} (hT : rz_TS K V S len) (hk : K j = 3) (hR : rz_Rg S 0 j X Z) {z0 : rz_Z} (ez0 : rz_c3 5 6 (S j) (rz_ad Z) = z0) {a0 : Nat × rz_Z} (ea0 : rz_nu K V S 0 100 z0 = a0) {u0 : Nat × rz_Z} (eu0 : rz_un K V S len 0 a0.2 = u0) : rz_Re S 0 (pz_ln K V S len 7 j X) (rz_el K S (rz_pr 5 6 127 a0.1 u0.1 u0.2)) := by
  have hk0 : K j ≠ 0 := by omega
  obtain ⟨h0a, hoa, hg0a⟩ := rz_open (w := 7) hT hk0 rfl hR
  have h0 : rz_Rl S (j + 1) (pz_ow 7 (S j) X).1 (pz_ow 7 (S j) X).2.1 (rz_c3 5 6 (S j) (rz_ad Z)) := h0a
  have hg0 : (rz_c3 5 6 (S j) (rz_ad Z)).2.2.2.1 = Z.2.2.2.1 := hg0a
  have ho : (pz_ow 7 (S j) X).1 = 0 → X.1 = 0 ∧ X.2.2.1 5 < 6 ∧ pz_ow 7 (S j) X = (X.1, X.2.1, pz_ad 7 X.2.2.1, X.2.2.2, 0, 4294967295) := hoa
  clear h0a hg0a hoa
  have hC0 : (rz_c3 5 6 (S j) (rz_ad Z)).2.2.2.2 = Z.2.2.2.2 := rz_c3_C
  rw [ez0] at h0 hg0 hC0
  show rz_Re S 0 (pz_le K S 7 j (pz_nl K V S 7 (X.2.2.1 (pz_ci (pz_rt 7))) (j + 1) len 0 (pz_ow 7 (S j) X))) _
  obtain ⟨hl0, ht0⟩ := pz_ow_l 7 (S j) X
  generalize eY0 : pz_ow 7 (S j) X = Y0 at h0 ho hl0 ht0 ⊢
  generalize er : X.2.2.1 (pz_ci (pz_rt 7)) = r at ⊢
  have hv0 := (hT (j + 1 + 0)).2.1
  by_cases k0 : K (j + 1 + 0) = 1
  rotate_left
  · have en : pz_nl K V S 7 r (j + 1) len 0 Y0 = (0, Y0) := pz_nl_e (fun g => k0 g.1)
    rw [en]
    have hW : rz_W (j + 1 + 0) (S (j + 1 + 0)) a0.2 := by
      have hW0 : rz_W (j + 1 + 0) (S (j + 1 + 0)) (rz_nu K V S 0 100 z0).2 := h0.no k0
      rw [ea0] at hW0; exact hW0
    have hW2 : rz_W (j + 1 + 0) (S (j + 1 + 0)) u0.2 := by rw [← eu0]; exact hW.un
    exact rz_fail (by decide) (rz_W.el (rz_W.pr hW2))
  obtain ⟨h1, g1, d1⟩ := rz_stepN (w := 7) (r := r) (i := 0) (lo := 0) (hi := 100) (Y := Y0) hT k0 h0 (fun _ => pz_ffE (by rw [(pz_sgv_7 0).1 rfl]; decide) (by rw [(pz_sgv_7 0).1 rfl]; exact (show True ↔ _ from ⟨fun _ => by omega, fun _ => trivial⟩)))
  rw [ea0] at h1 g1 d1
  have hC1 : a0.2.2.2.2.2 = z0.2.2.2.2 := by rw [← ea0, rz_nu_C]
  have e1 : pz_nl K V S 7 r (j + 1) len 0 Y0 = pz_nl K V S 7 r (j + 1) (len - 1) 1 (pz_it V S 7 r (j + 1) 1 Y0) := pz_nl_it 1 len (by have := ((hT (j + 1 + 0)).1 (by omega)).2; omega) (fun i hi => by
      rcases (show i = 0 by omega) with rfl
      exact ⟨k0, by decide⟩)
  rw [e1]
  by_cases k1 : K (j + 1 + 1) = 1
  rotate_left
  · rw [pz_nl_e (K := K) (q := j + 1) (i := 1) (fun g => k1 g.1)]
    have hW2 : rz_W (j + 1 + 1) (S (j + 1 + 1)) u0.2 := by rw [← eu0]; exact rz_un_no k1 h1
    exact rz_fail (by decide) (rz_W.el (rz_W.pr hW2))
  have hY1l : (pz_it V S 7 r (j + 1) 1 Y0).1 = 0 → 0 = (pz_it V S 7 r (j + 1) 1 Y0).2.2.2.2.1 := fun z => by
    show _ = pz_tf (pz_sg 7 0) (V (j + 1 + 0)) Y0.2.2.2.2.1
    rw [(pz_sgv_7 0).1 rfl, hl0]; rfl
  have hYC : (pz_it V S 7 r (j + 1) 1 Y0).1 = 0 → (pz_it V S 7 r (j + 1) 1 Y0).2.2.1 = pz_up (fun k => if k = 5 then X.2.2.1 5 + 1 else if 127 + X.2.2.1 5 * 2 ≤ k ∧ k < 127 + X.2.2.1 5 * 2 + 2 then (if 7 < 10 then 0 else if k = 127 + X.2.2.1 5 * 2 then 7 - 10 else 4294967295) else X.2.2.1 k) (127 + (X.2.2.1 5 * 2 + 0)) (V (j + 1 + 0)) := fun z => by
    obtain ⟨z0, ok1, va1⟩ := d1 z
    obtain ⟨x1, x2, x3⟩ := ho z0
    have e0 : Y0.2.2.1 = (fun k => if k = 5 then X.2.2.1 5 + 1 else if 127 + X.2.2.1 5 * 2 ≤ k ∧ k < 127 + X.2.2.1 5 * 2 + 2 then (if 7 < 10 then 0 else if k = 127 + X.2.2.1 5 * 2 then 7 - 10 else 4294967295) else X.2.2.1 k) := by rw [x3]; rfl
    rw [← e0, ← er]; rfl
  have hr : r = X.2.2.1 5 := er.symm
  obtain ⟨m', p1, p2, p3, p4, p5, p6⟩ := rz_ulRel (w := 7) (r := r) (q := j + 1) (ah := 0) (cb := 127 + (r * 2 + 1)) (C1 := (pz_it V S 7 r (j + 1) 1 Y0).2.2.1) (Cz := a0.2.2.2.2.2) hT (fun i hi => (pz_sgv_7 i).2 hi) (fun i v fi C hi => by unfold pz_kp; rw [if_neg (by decide), if_neg (by decide), if_neg (by decide), if_neg (by decide), if_pos ⟨rfl, by omega⟩]; rfl) len 0 0 (len + 2) a0.2 (pz_it V S 7 r (j + 1) 1 Y0) (by omega) (by omega) (Or.inr k1) ⟨h1, fun z => ⟨hY1l z, fg_le_rf _, by
      rw [fg_df_self]
      funext k
      by_cases e : k = 127 + (r * 2 + 1)
      · rw [e, pz_up_eq, hYC z, hr, pz_up_ne (by omega)]
        exact (if_neg (by omega)).trans ((if_pos (by omega)).trans (if_pos (by decide)))
      · rw [pz_up_ne e], by
      obtain ⟨z0, ok1, va1⟩ := d1 z
      obtain ⟨x1, x2, x3⟩ := ho z0
      have hg := (hR.2 x1).2 rfl
      rw [g1, hg0]
      show rz_gt _ (pz_tf (pz_sg 7 0) (V (j + 1 + 0)) Y0.2.2.2.1)
      rw [(pz_sgv_7 0).1 rfl, show pz_tf 110 (V (j + 1 + 0)) Y0.2.2.2.1 = Y0.2.2.2.1 from rfl, ht0]
      exact hg, rfl⟩⟩
  have p1' := p1 k1
  have hu : u0.1 = fg_df (rz_ul K V S (len + 2) 0 0 a0.2).1 0 ∧ u0.2 = (rz_ul K V S (len + 2) 0 0 a0.2).2 := by rw [← eu0]; exact ⟨rfl, rfl⟩
  have hCu : u0.2.2.2.2.2 = Z.2.2.2.2 := by rw [← eu0, rz_un_C, hC1, hC0]
  generalize hres : pz_nl K V S 7 r (j + 1) (len - (0 + 1)) (0 + 1) (pz_it V S 7 r (j + 1) 1 Y0) = res at p3 p5 p6
  have hres2 : pz_nl K V S 7 r (j + 1) (len - 1) 1 (pz_it V S 7 r (j + 1) 1 Y0) = res := hres
  have hz1 : res.2.1 = 0 → (pz_it V S 7 r (j + 1) 1 Y0).1 = 0 := fun z => pz_nl_0 (K := K) (V := V) (S := S) (w := 7) (r := r) (q := j + 1) (len - 1) 1 (pz_it V S 7 r (j + 1) 1 Y0) (by rw [hres2]; exact z)
  obtain ⟨i', Y'⟩ := res
  have p3' : i' = m' + 1 := p3
  subst p3'
  refine rz_close hT (show 2 ≤ m' + 1 by omega) (rz_Rn.pr (by rw [hu.2]; exact p5)) (fun zz => ?_)
  have z1 := hz1 zz
  obtain ⟨z0, ok1, va1⟩ := d1 z1
  obtain ⟨x1, x2, x3⟩ := ho z0
  obtain ⟨y1, y2, y3, y4, y5⟩ := p6 zz
  refine ⟨?_, fun _ => ?_⟩
  · rw [(hR.2 x1).1] at hCu
    rw [rz_pr_C hCu x2, y3, hYC z1, hu.1, va1, hr]
    exact pz_eq2 (by decide) rfl
  · rw [rz_pr_g, hu.2]; exact y4
theorem rz_line_7 {K V S : Nat → Nat} {len j : Nat} {X : pz_X} {Z : rz_Z} (hT : rz_TS K V S len) (hk : K j = 3) (hR : rz_Rg S 0 j X Z) : rz_Re S 0 (pz_ln K V S len 7 j X) (rz_el K S (rz_sk K V S len 5 127 (S j) (rz_ad Z))) := rz_line_7v hT hk hR rfl rfl rfl
theorem rz_line_8v {K V S : Nat → Nat} {len j : Nat} {X : pz_X} {Z : rz_Z} (hT : rz_TS K V S len) (hk : K j = 3) (hR : rz_Rg S 0 j X Z) {z0 : rz_Z} (ez0 : rz_c3 6 6 (S j) (rz_ad Z) = z0) {a0 : Nat × rz_Z} (ea0 : rz_nu K V S 0 100 z0 = a0) {u0 : Nat × rz_Z} (eu0 : rz_un K V S len 0 a0.2 = u0) : rz_Re S 0 (pz_ln K V S len 8 j X) (rz_el K S (rz_pr 6 6 139 a0.1 u0.1 u0.2)) := by
  have hk0 : K j ≠ 0 := by omega
  obtain ⟨h0a, hoa, hg0a⟩ := rz_open (w := 8) hT hk0 rfl hR
  have h0 : rz_Rl S (j + 1) (pz_ow 8 (S j) X).1 (pz_ow 8 (S j) X).2.1 (rz_c3 6 6 (S j) (rz_ad Z)) := h0a
  have hg0 : (rz_c3 6 6 (S j) (rz_ad Z)).2.2.2.1 = Z.2.2.2.1 := hg0a
  have ho : (pz_ow 8 (S j) X).1 = 0 → X.1 = 0 ∧ X.2.2.1 6 < 6 ∧ pz_ow 8 (S j) X = (X.1, X.2.1, pz_ad 8 X.2.2.1, X.2.2.2, 0, 4294967295) := hoa
  clear h0a hg0a hoa
  have hC0 : (rz_c3 6 6 (S j) (rz_ad Z)).2.2.2.2 = Z.2.2.2.2 := rz_c3_C
  rw [ez0] at h0 hg0 hC0
  show rz_Re S 0 (pz_le K S 8 j (pz_nl K V S 8 (X.2.2.1 (pz_ci (pz_rt 8))) (j + 1) len 0 (pz_ow 8 (S j) X))) _
  obtain ⟨hl0, ht0⟩ := pz_ow_l 8 (S j) X
  generalize eY0 : pz_ow 8 (S j) X = Y0 at h0 ho hl0 ht0 ⊢
  generalize er : X.2.2.1 (pz_ci (pz_rt 8)) = r at ⊢
  have hv0 := (hT (j + 1 + 0)).2.1
  by_cases k0 : K (j + 1 + 0) = 1
  rotate_left
  · have en : pz_nl K V S 8 r (j + 1) len 0 Y0 = (0, Y0) := pz_nl_e (fun g => k0 g.1)
    rw [en]
    have hW : rz_W (j + 1 + 0) (S (j + 1 + 0)) a0.2 := by
      have hW0 : rz_W (j + 1 + 0) (S (j + 1 + 0)) (rz_nu K V S 0 100 z0).2 := h0.no k0
      rw [ea0] at hW0; exact hW0
    have hW2 : rz_W (j + 1 + 0) (S (j + 1 + 0)) u0.2 := by rw [← eu0]; exact hW.un
    exact rz_fail (by decide) (rz_W.el (rz_W.pr hW2))
  obtain ⟨h1, g1, d1⟩ := rz_stepN (w := 8) (r := r) (i := 0) (lo := 0) (hi := 100) (Y := Y0) hT k0 h0 (fun _ => pz_ffE (by rw [(pz_sgv_8 0).1 rfl]; decide) (by rw [(pz_sgv_8 0).1 rfl]; exact (show True ↔ _ from ⟨fun _ => by omega, fun _ => trivial⟩)))
  rw [ea0] at h1 g1 d1
  have hC1 : a0.2.2.2.2.2 = z0.2.2.2.2 := by rw [← ea0, rz_nu_C]
  have e1 : pz_nl K V S 8 r (j + 1) len 0 Y0 = pz_nl K V S 8 r (j + 1) (len - 1) 1 (pz_it V S 8 r (j + 1) 1 Y0) := pz_nl_it 1 len (by have := ((hT (j + 1 + 0)).1 (by omega)).2; omega) (fun i hi => by
      rcases (show i = 0 by omega) with rfl
      exact ⟨k0, by decide⟩)
  rw [e1]
  by_cases k1 : K (j + 1 + 1) = 1
  rotate_left
  · rw [pz_nl_e (K := K) (q := j + 1) (i := 1) (fun g => k1 g.1)]
    have hW2 : rz_W (j + 1 + 1) (S (j + 1 + 1)) u0.2 := by rw [← eu0]; exact rz_un_no k1 h1
    exact rz_fail (by decide) (rz_W.el (rz_W.pr hW2))
  have hY1l : (pz_it V S 8 r (j + 1) 1 Y0).1 = 0 → 0 = (pz_it V S 8 r (j + 1) 1 Y0).2.2.2.2.1 := fun z => by
    show _ = pz_tf (pz_sg 8 0) (V (j + 1 + 0)) Y0.2.2.2.2.1
    rw [(pz_sgv_8 0).1 rfl, hl0]; rfl
  have hYC : (pz_it V S 8 r (j + 1) 1 Y0).1 = 0 → (pz_it V S 8 r (j + 1) 1 Y0).2.2.1 = pz_up (fun k => if k = 6 then X.2.2.1 6 + 1 else if 139 + X.2.2.1 6 * 2 ≤ k ∧ k < 139 + X.2.2.1 6 * 2 + 2 then (if 8 < 10 then 0 else if k = 139 + X.2.2.1 6 * 2 then 8 - 10 else 4294967295) else X.2.2.1 k) (139 + (X.2.2.1 6 * 2 + 0)) (V (j + 1 + 0)) := fun z => by
    obtain ⟨z0, ok1, va1⟩ := d1 z
    obtain ⟨x1, x2, x3⟩ := ho z0
    have e0 : Y0.2.2.1 = (fun k => if k = 6 then X.2.2.1 6 + 1 else if 139 + X.2.2.1 6 * 2 ≤ k ∧ k < 139 + X.2.2.1 6 * 2 + 2 then (if 8 < 10 then 0 else if k = 139 + X.2.2.1 6 * 2 then 8 - 10 else 4294967295) else X.2.2.1 k) := by rw [x3]; rfl
    rw [← e0, ← er]; rfl
  have hr : r = X.2.2.1 6 := er.symm
  obtain ⟨m', p1, p2, p3, p4, p5, p6⟩ := rz_ulRel (w := 8) (r := r) (q := j + 1) (ah := 0) (cb := 139 + (r * 2 + 1)) (C1 := (pz_it V S 8 r (j + 1) 1 Y0).2.2.1) (Cz := a0.2.2.2.2.2) hT (fun i hi => (pz_sgv_8 i).2 hi) (fun i v fi C hi => by unfold pz_kp; rw [if_neg (by decide), if_neg (by decide), if_neg (by decide), if_neg (by decide), if_pos ⟨rfl, by omega⟩]; rfl) len 0 0 (len + 2) a0.2 (pz_it V S 8 r (j + 1) 1 Y0) (by omega) (by omega) (Or.inr k1) ⟨h1, fun z => ⟨hY1l z, fg_le_rf _, by
      rw [fg_df_self]
      funext k
      by_cases e : k = 139 + (r * 2 + 1)
      · rw [e, pz_up_eq, hYC z, hr, pz_up_ne (by omega)]
        exact (if_neg (by omega)).trans ((if_pos (by omega)).trans (if_pos (by decide)))
      · rw [pz_up_ne e], by
      obtain ⟨z0, ok1, va1⟩ := d1 z
      obtain ⟨x1, x2, x3⟩ := ho z0
      have hg := (hR.2 x1).2 rfl
      rw [g1, hg0]
      show rz_gt _ (pz_tf (pz_sg 8 0) (V (j + 1 + 0)) Y0.2.2.2.1)
      rw [(pz_sgv_8 0).1 rfl, show pz_tf 110 (V (j + 1 + 0)) Y0.2.2.2.1 = Y0.2.2.2.1 from rfl, ht0]
      exact hg, rfl⟩⟩
  have p1' := p1 k1
  have hu : u0.1 = fg_df (rz_ul K V S (len + 2) 0 0 a0.2).1 0 ∧ u0.2 = (rz_ul K V S (len + 2) 0 0 a0.2).2 := by rw [← eu0]; exact ⟨rfl, rfl⟩
  have hCu : u0.2.2.2.2.2 = Z.2.2.2.2 := by rw [← eu0, rz_un_C, hC1, hC0]
  generalize hres : pz_nl K V S 8 r (j + 1) (len - (0 + 1)) (0 + 1) (pz_it V S 8 r (j + 1) 1 Y0) = res at p3 p5 p6
  have hres2 : pz_nl K V S 8 r (j + 1) (len - 1) 1 (pz_it V S 8 r (j + 1) 1 Y0) = res := hres
  have hz1 : res.2.1 = 0 → (pz_it V S 8 r (j + 1) 1 Y0).1 = 0 := fun z => pz_nl_0 (K := K) (V := V) (S := S) (w := 8) (r := r) (q := j + 1) (len - 1) 1 (pz_it V S 8 r (j + 1) 1 Y0) (by rw [hres2]; exact z)
  obtain ⟨i', Y'⟩ := res
  have p3' : i' = m' + 1 := p3
  subst p3'
  refine rz_close hT (show 2 ≤ m' + 1 by omega) (rz_Rn.pr (by rw [hu.2]; exact p5)) (fun zz => ?_)
  have z1 := hz1 zz
  obtain ⟨z0, ok1, va1⟩ := d1 z1
  obtain ⟨x1, x2, x3⟩ := ho z0
  obtain ⟨y1, y2, y3, y4, y5⟩ := p6 zz
  refine ⟨?_, fun _ => ?_⟩
  · rw [(hR.2 x1).1] at hCu
    rw [rz_pr_C hCu x2, y3, hYC z1, hu.1, va1, hr]
    exact pz_eq2 (by decide) rfl
  · rw [rz_pr_g, hu.2]; exact y4
theorem rz_line_8 {K V S : Nat → Nat} {len j : Nat} {X : pz_X} {Z : rz_Z} (hT : rz_TS K V S len) (hk : K j = 3) (hR : rz_Rg S 0 j X Z) : rz_Re S 0 (pz_ln K V S len 8 j X) (rz_el K S (rz_sk K V S len 6 139 (S j) (rz_ad Z))) := rz_line_8v hT hk hR rfl rfl rfl
