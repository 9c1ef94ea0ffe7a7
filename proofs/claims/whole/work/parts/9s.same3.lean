/-! both read alike: lines of so many numbers -/
theorem rz_c3_ad {cell mx at9 : Nat} {Z : rz_Z} : rz_c3 cell mx at9 (rz_ad Z) = rz_ad (rz_c3 cell mx at9 Z) := by
  unfold rz_c3
  show (if mx ≤ Z.2.2.2.2 cell then rz_al 3 at9 (rz_ad Z) else rz_ad Z) = _
  by_cases c : mx ≤ Z.2.2.2.2 cell
  · rw [if_pos c, if_pos c]; rfl
  · rw [if_neg c, if_neg c]
theorem pz_ad_2w {w : Nat} {C : Nat → Nat} (hw : w < 17) (hop : pz_op w = true) (hd : w < 10) (hne : pz_ci (pz_rt w) ≠ 2) : pz_ad w C 2 = C 2 := by
  obtain ⟨t7, h2, -, hso⟩ := pz_opc hw hop
  have ht6 : pz_rt w < 6 := by
    unfold pz_so at hso; rw [if_pos hd] at hso
    rcases Nat.lt_or_ge (pz_rt w) 6 with q | q
    · exact q
    · rw [if_neg (by omega)] at hso; exact absurd hso (by decide)
  obtain ⟨b1, -⟩ := pz_bs8 _ ht6
  exact pz_ad_o (fun h => hne h.symm) (by omega)
theorem pz_up_if {C : Nat → Nat} {k v x : Nat} (h : x = k) : pz_up C k v x = v := if_pos h
theorem rz_W.pr {q s cell mx base a b : Nat} {Z : rz_Z} (h : rz_W q s Z) : rz_W q s (rz_pr cell mx base a b Z) := h
theorem rz_W.p1 {q s cell mx base w a : Nat} {Z : rz_Z} (h : rz_W q s Z) : rz_W q s (rz_p1 cell mx base w a Z) := h
theorem rz_W.pm {q s a b c f : Nat} {Z : rz_Z} (h : rz_W q s Z) : rz_W q s (rz_pm a b c f Z) := h
theorem rz_W.pd {q s a b c f : Nat} {Z : rz_Z} (h : rz_W q s Z) : rz_W q s (rz_pd a b c f Z) := h
theorem rz_W.ce {q s c : Nat} {a : Nat × rz_Z} (h : rz_W q s a.2) : rz_W q s (rz_ce c a) := h
theorem rz_Rn.pr {S : Nat → Nat} {q F Pl f cell mx base a b : Nat} {Z : rz_Z} (h : rz_Rn S q F Pl f Z) : rz_Rn S q F Pl f (rz_pr cell mx base a b Z) := h
theorem rz_Rn.p1 {S : Nat → Nat} {q F Pl f cell mx base w a : Nat} {Z : rz_Z} (h : rz_Rn S q F Pl f Z) : rz_Rn S q F Pl f (rz_p1 cell mx base w a Z) := h
theorem rz_Rn.pm {S : Nat → Nat} {q F Pl f a b c d : Nat} {Z : rz_Z} (h : rz_Rn S q F Pl f Z) : rz_Rn S q F Pl f (rz_pm a b c d Z) := h
theorem rz_Rn.pd {S : Nat → Nat} {q F Pl f a b c d : Nat} {Z : rz_Z} (h : rz_Rn S q F Pl f Z) : rz_Rn S q F Pl f (rz_pd a b c d Z) := h
theorem rz_Rn.ce {S : Nat → Nat} {q F Pl f c : Nat} {a : Nat × rz_Z} (h : rz_Rn S q F Pl f a.2) : rz_Rn S q F Pl f (rz_ce c a) := h
theorem rz_Rn.fa {K V S : Nat → Nat} {q F Pl f : Nat} {Z : rz_Z} (h : rz_Rn S q F Pl f (rz_nu K V S 0 10 Z).2) : rz_Rn S q F Pl f (rz_fa K V S Z).2 := h
theorem rz_pr_g {cell mx base a b : Nat} {Z : rz_Z} : (rz_pr cell mx base a b Z).2.2.2.1 = Z.2.2.2.1 := rfl
theorem rz_p1_g {cell mx base w a : Nat} {Z : rz_Z} : (rz_p1 cell mx base w a Z).2.2.2.1 = Z.2.2.2.1 := rfl
theorem rz_pm_g {a b c d : Nat} {Z : rz_Z} : (rz_pm a b c d Z).2.2.2.1 = Z.2.2.2.1 := rfl
theorem rz_ce_g {c : Nat} {a : Nat × rz_Z} : (rz_ce c a).2.2.2.1 = a.2.2.2.2.1 := rfl
theorem rz_pr_C {cell mx base a b : Nat} {Z : rz_Z} {C : Nat → Nat} (h : Z.2.2.2.2 = C) (hn : C cell < mx) : (rz_pr cell mx base a b Z).2.2.2.2 = pz_up (pz_up (pz_up C (base + 2 * C cell) a) (base + 2 * C cell + 1) b) cell (C cell + 1) := by
  subst h
  show pz_up (if Z.2.2.2.2 cell < mx then _ else _) _ _ = _
  rw [if_pos hn]
theorem rz_p1_C {cell mx base w a : Nat} {Z : rz_Z} {C : Nat → Nat} (h : Z.2.2.2.2 = C) (hn : C cell < mx) : (rz_p1 cell mx base w a Z).2.2.2.2 = pz_up (pz_up C (base + w * C cell) a) cell (C cell + 1) := by
  subst h
  show pz_up (if Z.2.2.2.2 cell < mx then _ else _) _ _ = _
  rw [if_pos hn]
theorem rz_pm_C {a b c d : Nat} {Z : rz_Z} {C : Nat → Nat} (h : Z.2.2.2.2 = C) (hn : C 4 < 12) : (rz_pm a b c d Z).2.2.2.2 = pz_up (pz_up (pz_up (pz_up (pz_up C (79 + 4 * C 4) a) (79 + 4 * C 4 + 1) b) (79 + 4 * C 4 + 2) c) (79 + 4 * C 4 + 3) d) 4 (C 4 + 1) := by
  subst h
  show pz_up (if Z.2.2.2.2 4 < 12 then _ else _) _ _ = _
  rw [if_pos hn]
theorem rz_pd_C {a b c d : Nat} {Z : rz_Z} {C : Nat → Nat} (h : Z.2.2.2.2 = C) (hn : C 0 < 30) : (rz_pd a b c d Z).2.2.2.2 = pz_up (pz_up (pz_up (pz_up (pz_up C (1 + 4 * C 0) a) (1 + 4 * C 0 + 1) b) (1 + 4 * C 0 + 2) c) (1 + 4 * C 0 + 3) d) 0 (C 0 + 1) := by
  subst h
  show pz_up (if Z.2.2.2.2 0 < 30 then _ else _) _ _ = _
  rw [if_pos hn]
theorem rz_ce_C {c : Nat} {a : Nat × rz_Z} {C : Nat → Nat} (h : a.2.2.2.2.2 = C) : (rz_ce c a).2.2.2.2 = pz_up C c a.1 := by rw [← h]; rfl
theorem rz_line_0v {K V S : Nat → Nat} {len j : Nat} {X : pz_X} {Z : rz_Z} (hT : rz_TS K V S len) (hk : K j = 3) (hR : rz_Rg S 0 j X Z) {z0 : rz_Z} (ez0 : (rz_ad Z) = z0) {a0 : Nat × rz_Z} (ea0 : (rz_nu K V S 1 11 z0) = a0) : rz_Re S 0 (pz_ln K V S len 0 j X) (rz_el K S (rz_ce 0 a0)) := by
  have hk0 : K j ≠ 0 := by omega
  have h0 : rz_Rl S (j + 1) (pz_ow 0 (S j) X).1 (pz_ow 0 (S j) X).2.1 (rz_ad Z) := hR.ad hT hk0
  have ho : (pz_ow 0 (S j) X).1 = 0 → X.1 = 0 := fun z => z
  have hg0 : (rz_ad Z).2.2.2.1 = Z.2.2.2.1 := rfl
  have hC0 : (rz_ad Z).2.2.2.2 = Z.2.2.2.2 := rfl
  rw [ez0] at h0 hg0 hC0
  show rz_Re S 0 (pz_le K S 0 j (pz_nl K V S 0 (X.2.2.1 (pz_ci (pz_rt 0))) (j + 1) len 0 (pz_ow 0 (S j) X))) _
  generalize eY0 : pz_ow 0 (S j) X = Y0 at h0 ho ⊢
  generalize er : X.2.2.1 (pz_ci (pz_rt 0)) = r at ⊢
  have hv0 := (hT (j + 1 + 0)).2.1
  by_cases k0 : K (j + 1 + 0) = 1
  rotate_left
  · have en : pz_nl K V S 0 r (j + 1) len 0 Y0 = (0, Y0) := pz_nl_e (fun g => k0 g.1)
    rw [en]
    have hW : rz_W (j + 1 + 0) (S (j + 1 + 0)) a0.2 := by
      have hW0 : rz_W (j + 1 + 0) (S (j + 1 + 0)) (rz_nu K V S 1 11 z0).2 := h0.no k0
      rw [ea0] at hW0; exact hW0
    exact rz_fail (by decide) (rz_W.el (rz_W.ce hW))
  obtain ⟨h1, g1, d1⟩ := rz_stepN (w := 0) (r := r) (i := 0) (lo := 1) (hi := 11) (Y := Y0) hT k0 h0 (fun _ => pz_ffE (by rw [((pz_sgv_0 0).1 rfl)]; decide) (by rw [((pz_sgv_0 0).1 rfl)]; exact (show (1 ≤ V (j + 1 + 0) ∧ V (j + 1 + 0) ≤ 10) ↔ _ by omega)))
  rw [ea0] at h1 g1 d1
  have hC1 : a0.2.2.2.2.2 = z0.2.2.2.2 := by rw [← ea0, rz_nu_C]
  have en : pz_nl K V S 0 r (j + 1) len 0 Y0 = (1, (pz_it V S 0 r (j + 1) 1 Y0)) := (pz_nl_it 1 len (by have := ((hT (j + 1 + 0)).1 (by omega)).2; omega) (fun i hi => by
      rcases (show i = 0 by omega) with rfl
      · exact ⟨k0, by decide⟩)).trans (pz_nl_e (fun g => g.2 (by decide)))
  rw [en]
  have hCl : a0.2.2.2.2.2 = Z.2.2.2.2 := by rw [hC1, hC0]
  refine rz_close hT (by decide) (rz_Rn.ce h1) (fun z1 => ⟨?_, fun hs => ?_⟩)
  · obtain ⟨z0, ok1, va1⟩ := d1 z1
    have x1 := ho z0
    rw [(hR.2 x1).1] at hCl
    rw [rz_ce_C hCl, va1, ← eY0]; rfl
  · obtain ⟨z0, ok1, va1⟩ := d1 z1
    have x1 := ho z0
    have hg := (hR.2 x1).2 rfl
    have et : Y0.2.2.2.1 = X.2.2.2 := by rw [← eY0]; rfl
    have eg : a0.2.2.2.2.1 = Z.2.2.2.1 := by rw [g1, hg0]
    rw [rz_ce_g, eg]
    show rz_gt Z.2.2.2.1 Y0.2.2.2.1
    rw [et]; exact hg
theorem rz_line_0 {K V S : Nat → Nat} {len j : Nat} {X : pz_X} {Z : rz_Z} (hT : rz_TS K V S len) (hk : K j = 3) (hR : rz_Rg S 0 j X Z) : rz_Re S 0 (pz_ln K V S len 0 j X) (rz_el K S (rz_ce 0 (rz_nu K V S 1 11 (rz_ad Z)))) := rz_line_0v hT hk hR rfl rfl
theorem rz_line_9v {K V S : Nat → Nat} {len j : Nat} {X : pz_X} {Z : rz_Z} (hT : rz_TS K V S len) (hk : K j = 3) (hR : rz_Rg S 0 j X Z) {z0 : rz_Z} (ez0 : (rz_ad Z) = z0) {a0 : Nat × rz_Z} (ea0 : (rz_nu K V S 0 100 z0) = a0) : rz_Re S 0 (pz_ln K V S len 9 j X) (rz_el K S (rz_ce 7 a0)) := by
  have hk0 : K j ≠ 0 := by omega
  have h0 : rz_Rl S (j + 1) (pz_ow 9 (S j) X).1 (pz_ow 9 (S j) X).2.1 (rz_ad Z) := hR.ad hT hk0
  have ho : (pz_ow 9 (S j) X).1 = 0 → X.1 = 0 := fun z => z
  have hg0 : (rz_ad Z).2.2.2.1 = Z.2.2.2.1 := rfl
  have hC0 : (rz_ad Z).2.2.2.2 = Z.2.2.2.2 := rfl
  rw [ez0] at h0 hg0 hC0
  show rz_Re S 0 (pz_le K S 9 j (pz_nl K V S 9 (X.2.2.1 (pz_ci (pz_rt 9))) (j + 1) len 0 (pz_ow 9 (S j) X))) _
  generalize eY0 : pz_ow 9 (S j) X = Y0 at h0 ho ⊢
  generalize er : X.2.2.1 (pz_ci (pz_rt 9)) = r at ⊢
  have hv0 := (hT (j + 1 + 0)).2.1
  by_cases k0 : K (j + 1 + 0) = 1
  rotate_left
  · have en : pz_nl K V S 9 r (j + 1) len 0 Y0 = (0, Y0) := pz_nl_e (fun g => k0 g.1)
    rw [en]
    have hW : rz_W (j + 1 + 0) (S (j + 1 + 0)) a0.2 := by
      have hW0 : rz_W (j + 1 + 0) (S (j + 1 + 0)) (rz_nu K V S 0 100 z0).2 := h0.no k0
      rw [ea0] at hW0; exact hW0
    exact rz_fail (by decide) (rz_W.el (rz_W.ce hW))
  obtain ⟨h1, g1, d1⟩ := rz_stepN (w := 9) (r := r) (i := 0) (lo := 0) (hi := 100) (Y := Y0) hT k0 h0 (fun _ => pz_ffE (by rw [((pz_sgv_9 0).1 rfl)]; decide) (by rw [((pz_sgv_9 0).1 rfl)]; exact (show True ↔ _ from ⟨fun _ => by omega, fun _ => trivial⟩)))
  rw [ea0] at h1 g1 d1
  have hC1 : a0.2.2.2.2.2 = z0.2.2.2.2 := by rw [← ea0, rz_nu_C]
  have en : pz_nl K V S 9 r (j + 1) len 0 Y0 = (1, (pz_it V S 9 r (j + 1) 1 Y0)) := (pz_nl_it 1 len (by have := ((hT (j + 1 + 0)).1 (by omega)).2; omega) (fun i hi => by
      rcases (show i = 0 by omega) with rfl
      · exact ⟨k0, by decide⟩)).trans (pz_nl_e (fun g => g.2 (by decide)))
  rw [en]
  have hCl : a0.2.2.2.2.2 = Z.2.2.2.2 := by rw [hC1, hC0]
  refine rz_close hT (by decide) (rz_Rn.ce h1) (fun z1 => ⟨?_, fun hs => ?_⟩)
  · obtain ⟨z0, ok1, va1⟩ := d1 z1
    have x1 := ho z0
    rw [(hR.2 x1).1] at hCl
    rw [rz_ce_C hCl, va1, ← eY0]; rfl
  · obtain ⟨z0, ok1, va1⟩ := d1 z1
    have x1 := ho z0
    have hg := (hR.2 x1).2 rfl
    have et : Y0.2.2.2.1 = X.2.2.2 := by rw [← eY0]; rfl
    have eg : a0.2.2.2.2.1 = Z.2.2.2.1 := by rw [g1, hg0]
    rw [rz_ce_g, eg]
    show rz_gt Z.2.2.2.1 Y0.2.2.2.1
    rw [et]; exact hg
theorem rz_line_9 {K V S : Nat → Nat} {len j : Nat} {X : pz_X} {Z : rz_Z} (hT : rz_TS K V S len) (hk : K j = 3) (hR : rz_Rg S 0 j X Z) : rz_Re S 0 (pz_ln K V S len 9 j X) (rz_el K S (rz_ce 7 (rz_nu K V S 0 100 (rz_ad Z)))) := rz_line_9v hT hk hR rfl rfl
theorem pz_eqC_2 {C : Nat → Nat} {v0 : Nat} (hn : C 2 < 5) (hzn : C (40 + 3 * C 2 + 1) = 0 ∧ C (40 + 3 * C 2 + 2) = 0) : pz_up (pz_up C (40 + 3 * C 2) v0) 2 (C 2 + 1) = (pz_up (fun k => if k = 2 then (C 2) + 1 else if 40 + (C 2) * 3 ≤ k ∧ k < 40 + (C 2) * 3 + 3 then (if 2 < 10 then 0 else if k = 40 + (C 2) * 3 then 2 - 10 else 4294967295) else C k) (40 + ((C 2) * 3 + 0)) v0) := by
  funext k
  generalize C 2 = n at *
  by_cases y9 : k = 2
  · refine (pz_up_if (by omega)).trans ?_
    refine Eq.symm ?_
    refine (pz_up_ne (by omega)).trans ?_
    exact if_pos (by omega)
  by_cases y0 : k = 40 + n * 3 + 0
  · refine (pz_up_ne (by omega)).trans ?_
    refine (pz_up_if (by omega)).trans ?_
    refine Eq.symm ?_
    exact pz_up_if (by omega)
  by_cases y1 : k = 40 + n * 3 + 1
  · refine (pz_up_ne (by omega)).trans ?_
    refine (pz_up_ne (by omega)).trans ?_
    refine Eq.trans (b := 0) (by rw [show k = 40 + 3 * n + 1 by omega]; exact hzn.1) ?_
    refine Eq.symm ?_
    refine (pz_up_ne (by omega)).trans ?_
    refine (if_neg (by omega)).trans ?_
    refine (if_pos (by omega)).trans ?_
    exact if_pos (by decide)
  by_cases y2 : k = 40 + n * 3 + 2
  · refine (pz_up_ne (by omega)).trans ?_
    refine (pz_up_ne (by omega)).trans ?_
    refine Eq.trans (b := 0) (by rw [show k = 40 + 3 * n + 2 by omega]; exact hzn.2) ?_
    refine Eq.symm ?_
    refine (pz_up_ne (by omega)).trans ?_
    refine (if_neg (by omega)).trans ?_
    refine (if_pos (by omega)).trans ?_
    exact if_pos (by decide)
  · refine (pz_up_ne (by omega)).trans ?_
    refine (pz_up_ne (by omega)).trans ?_
    refine Eq.symm ?_
    refine (pz_up_ne (by omega)).trans ?_
    refine (if_neg (by omega)).trans ?_
    exact if_neg (by omega)
theorem rz_line_2v {K V S : Nat → Nat} {len j : Nat} {X : pz_X} {Z : rz_Z} (hT : rz_TS K V S len) (hk : K j = 3) (hz : X.1 = 0 → ∀ n, X.2.2.1 2 ≤ n → n < 5 → X.2.2.1 (40 + 3 * n + 1) = 0 ∧ X.2.2.1 (40 + 3 * n + 2) = 0) (hR : rz_Rg S 0 j X Z) {z0 : rz_Z} (ez0 : (rz_c3 2 5 (S j) (rz_ad Z)) = z0) {a0 : Nat × rz_Z} (ea0 : (rz_nu K V S 0 100 z0) = a0) : rz_Re S 0 (pz_ln K V S len 2 j X) (rz_el K S (rz_p1 2 5 40 3 a0.1 a0.2)) := by
  have hk0 : K j ≠ 0 := by omega
  obtain ⟨h0a, hoa, hg0a⟩ := rz_open (w := 2) hT hk0 rfl hR
  have h0 : rz_Rl S (j + 1) (pz_ow 2 (S j) X).1 (pz_ow 2 (S j) X).2.1 (rz_c3 2 5 (S j) (rz_ad Z)) := h0a
  have hg0 : (rz_c3 2 5 (S j) (rz_ad Z)).2.2.2.1 = Z.2.2.2.1 := hg0a
  have ho : (pz_ow 2 (S j) X).1 = 0 → X.1 = 0 ∧ X.2.2.1 2 < 5 ∧ pz_ow 2 (S j) X = (X.1, X.2.1, pz_ad 2 X.2.2.1, X.2.2.2, 0, 4294967295) := hoa
  clear h0a hg0a hoa
  have hC0 : (rz_c3 2 5 (S j) (rz_ad Z)).2.2.2.2 = Z.2.2.2.2 := rz_c3_C
  rw [ez0] at h0 hg0 hC0
  show rz_Re S 0 (pz_le K S 2 j (pz_nl K V S 2 (X.2.2.1 (pz_ci (pz_rt 2))) (j + 1) len 0 (pz_ow 2 (S j) X))) _
  generalize eY0 : pz_ow 2 (S j) X = Y0 at h0 ho ⊢
  generalize er : X.2.2.1 (pz_ci (pz_rt 2)) = r at ⊢
  have hv0 := (hT (j + 1 + 0)).2.1
  by_cases k0 : K (j + 1 + 0) = 1
  rotate_left
  · have en : pz_nl K V S 2 r (j + 1) len 0 Y0 = (0, Y0) := pz_nl_e (fun g => k0 g.1)
    rw [en]
    have hW : rz_W (j + 1 + 0) (S (j + 1 + 0)) a0.2 := by
      have hW0 : rz_W (j + 1 + 0) (S (j + 1 + 0)) (rz_nu K V S 0 100 z0).2 := h0.no k0
      rw [ea0] at hW0; exact hW0
    exact rz_fail (by decide) (rz_W.el (rz_W.p1 hW))
  obtain ⟨h1, g1, d1⟩ := rz_stepN (w := 2) (r := r) (i := 0) (lo := 0) (hi := 100) (Y := Y0) hT k0 h0 (fun _ => pz_ffE (by rw [((pz_sgv_2 0).1 rfl)]; decide) (by rw [((pz_sgv_2 0).1 rfl)]; exact (show True ↔ _ from ⟨fun _ => by omega, fun _ => trivial⟩)))
  rw [ea0] at h1 g1 d1
  have hC1 : a0.2.2.2.2.2 = z0.2.2.2.2 := by rw [← ea0, rz_nu_C]
  have en : pz_nl K V S 2 r (j + 1) len 0 Y0 = (1, (pz_it V S 2 r (j + 1) 1 Y0)) := (pz_nl_it 1 len (by have := ((hT (j + 1 + 0)).1 (by omega)).2; omega) (fun i hi => by
      rcases (show i = 0 by omega) with rfl
      · exact ⟨k0, by decide⟩)).trans (pz_nl_e (fun g => g.2 (by decide)))
  rw [en]
  have hCl : a0.2.2.2.2.2 = Z.2.2.2.2 := by rw [hC1, hC0]
  refine rz_close hT (by decide) (rz_Rn.p1 h1) (fun z1 => ⟨?_, fun hs => ?_⟩)
  · obtain ⟨z0, ok1, va1⟩ := d1 z1
    obtain ⟨x1, x2, x3⟩ := ho z0
    rw [(hR.2 x1).1] at hCl
    have e0 : Y0.2.2.1 = (fun k => if k = 2 then (X.2.2.1 2) + 1 else if 40 + (X.2.2.1 2) * 3 ≤ k ∧ k < 40 + (X.2.2.1 2) * 3 + 3 then (if 2 < 10 then 0 else if k = 40 + (X.2.2.1 2) * 3 then 2 - 10 else 4294967295) else X.2.2.1 k) := by rw [x3]; rfl
    have eR : (pz_it V S 2 r (j + 1) 1 Y0).2.2.1 = (pz_up (fun k => if k = 2 then (X.2.2.1 2) + 1 else if 40 + (X.2.2.1 2) * 3 ≤ k ∧ k < 40 + (X.2.2.1 2) * 3 + 3 then (if 2 < 10 then 0 else if k = 40 + (X.2.2.1 2) * 3 then 2 - 10 else 4294967295) else X.2.2.1 k) (40 + ((X.2.2.1 2) * 3 + 0)) (V (j + 1 + 0))) := by rw [← e0, ← er]; rfl
    rw [eR, rz_p1_C hCl x2, va1]
    exact pz_eqC_2 x2 (hz x1 (X.2.2.1 2) (Nat.le_refl _) x2)
  · obtain ⟨z0, ok1, va1⟩ := d1 z1
    obtain ⟨x1, x2, x3⟩ := ho z0
    have hg := (hR.2 x1).2 rfl
    have et : Y0.2.2.2.1 = X.2.2.2 := by rw [x3]
    have eg : a0.2.2.2.2.1 = Z.2.2.2.1 := by rw [g1, hg0]
    rw [rz_p1_g, eg]
    show rz_gt Z.2.2.2.1 Y0.2.2.2.1
    rw [et]; exact hg
theorem rz_line_2 {K V S : Nat → Nat} {len j : Nat} {X : pz_X} {Z : rz_Z} (hT : rz_TS K V S len) (hk : K j = 3) (hz : X.1 = 0 → ∀ n, X.2.2.1 2 ≤ n → n < 5 → X.2.2.1 (40 + 3 * n + 1) = 0 ∧ X.2.2.1 (40 + 3 * n + 2) = 0) (hR : rz_Rg S 0 j X Z) : rz_Re S 0 (pz_ln K V S len 2 j X) (rz_el K S (rz_p1 2 5 40 3 (rz_nu K V S 0 100 (rz_c3 2 5 (S j) (rz_ad Z))).1 (rz_nu K V S 0 100 (rz_c3 2 5 (S j) (rz_ad Z))).2)) := rz_line_2v hT hk hz hR rfl rfl
theorem pz_eqC_5 {C : Nat → Nat} {v0 v1 : Nat} (hn : C 3 < 12) : pz_up (pz_up (pz_up C (55 + 2 * C 3) v0) (55 + 2 * C 3 + 1) v1) 3 (C 3 + 1) = (pz_up (pz_up (fun k => if k = 3 then (C 3) + 1 else if 55 + (C 3) * 2 ≤ k ∧ k < 55 + (C 3) * 2 + 2 then (if 5 < 10 then 0 else if k = 55 + (C 3) * 2 then 5 - 10 else 4294967295) else C k) (55 + ((C 3) * 2 + 0)) v0) (55 + ((C 3) * 2 + 1)) v1) := by
  funext k
  generalize C 3 = n at *
  by_cases y9 : k = 3
  · refine (pz_up_if (by omega)).trans ?_
    refine Eq.symm ?_
    refine (pz_up_ne (by omega)).trans ?_
    refine (pz_up_ne (by omega)).trans ?_
    exact if_pos (by omega)
  by_cases y0 : k = 55 + n * 2 + 0
  · refine (pz_up_ne (by omega)).trans ?_
    refine (pz_up_ne (by omega)).trans ?_
    refine (pz_up_if (by omega)).trans ?_
    refine Eq.symm ?_
    refine (pz_up_ne (by omega)).trans ?_
    exact pz_up_if (by omega)
  by_cases y1 : k = 55 + n * 2 + 1
  · refine (pz_up_ne (by omega)).trans ?_
    refine (pz_up_if (by omega)).trans ?_
    refine Eq.symm ?_
    exact pz_up_if (by omega)
  · refine (pz_up_ne (by omega)).trans ?_
    refine (pz_up_ne (by omega)).trans ?_
    refine (pz_up_ne (by omega)).trans ?_
    refine Eq.symm ?_
    refine (pz_up_ne (by omega)).trans ?_
    refine (pz_up_ne (by omega)).trans ?_
    refine (if_neg (by omega)).trans ?_
    exact if_neg (by omega)
theorem rz_line_5v {K V S : Nat → Nat} {len j : Nat} {X : pz_X} {Z : rz_Z} (hT : rz_TS K V S len) (hk : K j = 3) (hR : rz_Rg S 0 j X Z) {z0 : rz_Z} (ez0 : (rz_c3 3 12 (S j) (rz_ad Z)) = z0) {a0 : Nat × rz_Z} (ea0 : (rz_nu K V S 1 10 z0) = a0) {a1 : Nat × rz_Z} (ea1 : (rz_fa K V S a0.2) = a1) : rz_Re S 0 (pz_ln K V S len 5 j X) (rz_el K S (rz_pr 3 12 55 a0.1 a1.1 a1.2)) := by
  have hk0 : K j ≠ 0 := by omega
  obtain ⟨h0a, hoa, hg0a⟩ := rz_open (w := 5) hT hk0 rfl hR
  have h0 : rz_Rl S (j + 1) (pz_ow 5 (S j) X).1 (pz_ow 5 (S j) X).2.1 (rz_c3 3 12 (S j) (rz_ad Z)) := h0a
  have hg0 : (rz_c3 3 12 (S j) (rz_ad Z)).2.2.2.1 = Z.2.2.2.1 := hg0a
  have ho : (pz_ow 5 (S j) X).1 = 0 → X.1 = 0 ∧ X.2.2.1 3 < 12 ∧ pz_ow 5 (S j) X = (X.1, X.2.1, pz_ad 5 X.2.2.1, X.2.2.2, 0, 4294967295) := hoa
  clear h0a hg0a hoa
  have hC0 : (rz_c3 3 12 (S j) (rz_ad Z)).2.2.2.2 = Z.2.2.2.2 := rz_c3_C
  rw [ez0] at h0 hg0 hC0
  show rz_Re S 0 (pz_le K S 5 j (pz_nl K V S 5 (X.2.2.1 (pz_ci (pz_rt 5))) (j + 1) len 0 (pz_ow 5 (S j) X))) _
  generalize eY0 : pz_ow 5 (S j) X = Y0 at h0 ho ⊢
  generalize er : X.2.2.1 (pz_ci (pz_rt 5)) = r at ⊢
  have hv0 := (hT (j + 1 + 0)).2.1
  by_cases k0 : K (j + 1 + 0) = 1
  rotate_left
  · have en : pz_nl K V S 5 r (j + 1) len 0 Y0 = (0, Y0) := pz_nl_e (fun g => k0 g.1)
    rw [en]
    have hW : rz_W (j + 1 + 0) (S (j + 1 + 0)) a0.2 := by
      have hW0 : rz_W (j + 1 + 0) (S (j + 1 + 0)) (rz_nu K V S 1 10 z0).2 := h0.no k0
      rw [ea0] at hW0; exact hW0
    have hW1 : rz_W (j + 1 + 0) (S (j + 1 + 0)) a1.2 := by rw [← ea1]; exact hW.fa
    exact rz_fail (by decide) (rz_W.el (rz_W.pr hW1))
  obtain ⟨h1, g1, d1⟩ := rz_stepN (w := 5) (r := r) (i := 0) (lo := 1) (hi := 10) (Y := Y0) hT k0 h0 (fun _ => pz_ffE (by rw [((pz_sgv_5 0).1 rfl)]; decide) (by rw [((pz_sgv_5 0).1 rfl)]; exact (show (1 ≤ V (j + 1 + 0) ∧ V (j + 1 + 0) ≤ 9) ↔ _ by omega)))
  rw [ea0] at h1 g1 d1
  have hC1 : a0.2.2.2.2.2 = z0.2.2.2.2 := by rw [← ea0, rz_nu_C]
  have hv1 := (hT (j + 1 + 1)).2.1
  by_cases k1 : K (j + 1 + 1) = 1
  rotate_left
  · have en : pz_nl K V S 5 r (j + 1) len 0 Y0 = (1, (pz_it V S 5 r (j + 1) 1 Y0)) := (pz_nl_it 1 len (by have := ((hT (j + 1 + 0)).1 (by omega)).2; omega) (fun i hi => by
      rcases (show i = 0 by omega) with rfl
      · exact ⟨k0, by decide⟩)).trans (pz_nl_e (fun g => k1 g.1))
    rw [en]
    have hW : rz_W (j + 1 + 1) (S (j + 1 + 1)) a1.2 := by
      have hW0 : rz_W (j + 1 + 1) (S (j + 1 + 1)) (rz_fa K V S a0.2).2 := rz_W.gr (h1.no k1)
      rw [ea1] at hW0; exact hW0
    exact rz_fail (by decide) (rz_W.el (rz_W.pr hW))
  obtain ⟨h2, g2, d2⟩ := rz_stepN (w := 5) (r := r) (i := 1) (lo := 0) (hi := 10) (Y := (pz_it V S 5 r (j + 1) 1 Y0)) hT k1 h1 (fun _ => pz_ffE (by rw [((pz_sgv_5 1).2.1 rfl)]; decide) (by rw [((pz_sgv_5 1).2.1 rfl)]; exact (show (V (j + 1 + 1) < 10) ↔ _ by omega)))
  have hf2 := h2.fa
  have gf2 : a1.2.2.2.2.1 = (if (rz_nu K V S 0 10 a0.2).1 ≠ 4294967295 ∧ (rz_nu K V S 0 10 a0.2).2.2.2.2.1 < (rz_nu K V S 0 10 a0.2).1 then (rz_nu K V S 0 10 a0.2).1 else (rz_nu K V S 0 10 a0.2).2.2.2.2.1) := by rw [← ea1]; exact rz_fa_e.2.2.2.2
  have ef1 : a1.1 = (rz_nu K V S 0 10 a0.2).1 := by rw [← ea1]; rfl
  rw [ea1] at hf2
  rw [g2, ← ef1] at gf2
  rw [← ef1] at d2
  replace h2 := hf2
  have hC2 : a1.2.2.2.2.2 = a0.2.2.2.2.2 := by rw [← ea1, rz_fa_C]
  have en : pz_nl K V S 5 r (j + 1) len 0 Y0 = (2, (pz_it V S 5 r (j + 1) 2 Y0)) := (pz_nl_it 2 len (by have := ((hT (j + 1 + 1)).1 (by omega)).2; omega) (fun i hi => by
      rcases (show i = 0 ∨ i = 1 by omega) with rfl | rfl
      · exact ⟨k0, by decide⟩
      · exact ⟨k1, by decide⟩)).trans (pz_nl_e (fun g => g.2 (by decide)))
  rw [en]
  have hCl : a1.2.2.2.2.2 = Z.2.2.2.2 := by rw [hC2, hC1, hC0]
  refine rz_close hT (by decide) (rz_Rn.pr h2) (fun z2 => ⟨?_, fun hs => ?_⟩)
  · obtain ⟨z1, ok2, va2⟩ := d2 z2
    obtain ⟨z0, ok1, va1⟩ := d1 z1
    obtain ⟨x1, x2, x3⟩ := ho z0
    rw [(hR.2 x1).1] at hCl
    have e0 : Y0.2.2.1 = (fun k => if k = 3 then (X.2.2.1 3) + 1 else if 55 + (X.2.2.1 3) * 2 ≤ k ∧ k < 55 + (X.2.2.1 3) * 2 + 2 then (if 5 < 10 then 0 else if k = 55 + (X.2.2.1 3) * 2 then 5 - 10 else 4294967295) else X.2.2.1 k) := by rw [x3]; rfl
    have eR : (pz_it V S 5 r (j + 1) 2 Y0).2.2.1 = (pz_up (pz_up (fun k => if k = 3 then (X.2.2.1 3) + 1 else if 55 + (X.2.2.1 3) * 2 ≤ k ∧ k < 55 + (X.2.2.1 3) * 2 + 2 then (if 5 < 10 then 0 else if k = 55 + (X.2.2.1 3) * 2 then 5 - 10 else 4294967295) else X.2.2.1 k) (55 + ((X.2.2.1 3) * 2 + 0)) (V (j + 1 + 0))) (55 + ((X.2.2.1 3) * 2 + 1)) (V (j + 1 + 1))) := by rw [← e0, ← er]; rfl
    rw [eR, rz_pr_C hCl x2, va1, va2]
    exact pz_eqC_5 x2
  · obtain ⟨z1, ok2, va2⟩ := d2 z2
    obtain ⟨z0, ok1, va1⟩ := d1 z1
    obtain ⟨x1, x2, x3⟩ := ho z0
    have hg := (hR.2 x1).2 rfl
    have et : Y0.2.2.2.1 = X.2.2.2 := by rw [x3]
    have eg : a0.2.2.2.2.1 = Z.2.2.2.1 := by rw [g1, hg0]
    rw [rz_pr_g, gf2, va2, eg]
    show rz_gt _ (Y0.2.2.2.1 ||| 2 ^ V (j + 1 + 1))
    rw [et]; exact rz_gt_up hg (by omega)
theorem rz_line_5 {K V S : Nat → Nat} {len j : Nat} {X : pz_X} {Z : rz_Z} (hT : rz_TS K V S len) (hk : K j = 3) (hR : rz_Rg S 0 j X Z) : rz_Re S 0 (pz_ln K V S len 5 j X) (rz_el K S (rz_pr 3 12 55 (rz_nu K V S 1 10 (rz_c3 3 12 (S j) (rz_ad Z))).1 (rz_fa K V S (rz_nu K V S 1 10 (rz_c3 3 12 (S j) (rz_ad Z))).2).1 (rz_fa K V S (rz_nu K V S 1 10 (rz_c3 3 12 (S j) (rz_ad Z))).2).2)) := rz_line_5v hT hk hR rfl rfl rfl
theorem pz_eqC_6 {C : Nat → Nat} {v0 v1 v2 v3 : Nat} (hn : C 4 < 12) : pz_up (pz_up (pz_up (pz_up (pz_up C (79 + 4 * C 4) v0) (79 + 4 * C 4 + 1) v1) (79 + 4 * C 4 + 2) v2) (79 + 4 * C 4 + 3) v3) 4 (C 4 + 1) = (pz_up (pz_up (pz_up (pz_up (fun k => if k = 4 then (C 4) + 1 else if 79 + (C 4) * 4 ≤ k ∧ k < 79 + (C 4) * 4 + 4 then (if 6 < 10 then 0 else if k = 79 + (C 4) * 4 then 6 - 10 else 4294967295) else C k) (79 + ((C 4) * 4 + 0)) v0) (79 + ((C 4) * 4 + 1)) v1) (79 + ((C 4) * 4 + 2)) v2) (79 + ((C 4) * 4 + 3)) v3) := by
  funext k
  generalize C 4 = n at *
  by_cases y9 : k = 4
  · refine (pz_up_if (by omega)).trans ?_
    refine Eq.symm ?_
    refine (pz_up_ne (by omega)).trans ?_
    refine (pz_up_ne (by omega)).trans ?_
    refine (pz_up_ne (by omega)).trans ?_
    refine (pz_up_ne (by omega)).trans ?_
    exact if_pos (by omega)
  by_cases y0 : k = 79 + n * 4 + 0
  · refine (pz_up_ne (by omega)).trans ?_
    refine (pz_up_ne (by omega)).trans ?_
    refine (pz_up_ne (by omega)).trans ?_
    refine (pz_up_ne (by omega)).trans ?_
    refine (pz_up_if (by omega)).trans ?_
    refine Eq.symm ?_
    refine (pz_up_ne (by omega)).trans ?_
    refine (pz_up_ne (by omega)).trans ?_
    refine (pz_up_ne (by omega)).trans ?_
    exact pz_up_if (by omega)
  by_cases y1 : k = 79 + n * 4 + 1
  · refine (pz_up_ne (by omega)).trans ?_
    refine (pz_up_ne (by omega)).trans ?_
    refine (pz_up_ne (by omega)).trans ?_
    refine (pz_up_if (by omega)).trans ?_
    refine Eq.symm ?_
    refine (pz_up_ne (by omega)).trans ?_
    refine (pz_up_ne (by omega)).trans ?_
    exact pz_up_if (by omega)
  by_cases y2 : k = 79 + n * 4 + 2
  · refine (pz_up_ne (by omega)).trans ?_
    refine (pz_up_ne (by omega)).trans ?_
    refine (pz_up_if (by omega)).trans ?_
    refine Eq.symm ?_
    refine (pz_up_ne (by omega)).trans ?_
    exact pz_up_if (by omega)
  by_cases y3 : k = 79 + n * 4 + 3
  · refine (pz_up_ne (by omega)).trans ?_
    refine (pz_up_if (by omega)).trans ?_
    refine Eq.symm ?_
    exact pz_up_if (by omega)
  · refine (pz_up_ne (by omega)).trans ?_
    refine (pz_up_ne (by omega)).trans ?_
    refine (pz_up_ne (by omega)).trans ?_
    refine (pz_up_ne (by omega)).trans ?_
    refine (pz_up_ne (by omega)).trans ?_
    refine Eq.symm ?_
    refine (pz_up_ne (by omega)).trans ?_
    refine (pz_up_ne (by omega)).trans ?_
    refine (pz_up_ne (by omega)).trans ?_
    refine (pz_up_ne (by omega)).trans ?_
    refine (if_neg (by omega)).trans ?_
    exact if_neg (by omega)
theorem rz_line_6v {K V S : Nat → Nat} {len j : Nat} {X : pz_X} {Z : rz_Z} (hT : rz_TS K V S len) (hk : K j = 3) (hR : rz_Rg S 0 j X Z) {z0 : rz_Z} (ez0 : (rz_c3 4 12 (S j) (rz_ad Z)) = z0) {a0 : Nat × rz_Z} (ea0 : (rz_nu K V S 0 (z0.2.2.2.2 2) z0) = a0) {a1 : Nat × rz_Z} (ea1 : (rz_nu K V S 0 ((rz_dup K V S a0.1 a0.2).2.2.2.2 2) (rz_dup K V S a0.1 a0.2)) = a1) {a2 : Nat × rz_Z} (ea2 : (rz_nu K V S 1 10 a1.2) = a2) {a3 : Nat × rz_Z} (ea3 : (rz_fa K V S a2.2) = a3) : rz_Re S 0 (pz_ln K V S len 6 j X) (rz_el K S (rz_pm a0.1 a1.1 a2.1 a3.1 a3.2)) := by
  have hk0 : K j ≠ 0 := by omega
  obtain ⟨h0a, hoa, hg0a⟩ := rz_open (w := 6) hT hk0 rfl hR
  have h0 : rz_Rl S (j + 1) (pz_ow 6 (S j) X).1 (pz_ow 6 (S j) X).2.1 (rz_c3 4 12 (S j) (rz_ad Z)) := h0a
  have hg0 : (rz_c3 4 12 (S j) (rz_ad Z)).2.2.2.1 = Z.2.2.2.1 := hg0a
  have ho : (pz_ow 6 (S j) X).1 = 0 → X.1 = 0 ∧ X.2.2.1 4 < 12 ∧ pz_ow 6 (S j) X = (X.1, X.2.1, pz_ad 6 X.2.2.1, X.2.2.2, 0, 4294967295) := hoa
  clear h0a hg0a hoa
  have hC0 : (rz_c3 4 12 (S j) (rz_ad Z)).2.2.2.2 = Z.2.2.2.2 := rz_c3_C
  rw [ez0] at h0 hg0 hC0
  show rz_Re S 0 (pz_le K S 6 j (pz_nl K V S 6 (X.2.2.1 (pz_ci (pz_rt 6))) (j + 1) len 0 (pz_ow 6 (S j) X))) _
  generalize eY0 : pz_ow 6 (S j) X = Y0 at h0 ho ⊢
  generalize er : X.2.2.1 (pz_ci (pz_rt 6)) = r at ⊢
  have hv0 := (hT (j + 1 + 0)).2.1
  by_cases k0 : K (j + 1 + 0) = 1
  rotate_left
  · have en : pz_nl K V S 6 r (j + 1) len 0 Y0 = (0, Y0) := pz_nl_e (fun g => k0 g.1)
    rw [en]
    have hW : rz_W (j + 1 + 0) (S (j + 1 + 0)) a0.2 := by
      have hW0 : rz_W (j + 1 + 0) (S (j + 1 + 0)) (rz_nu K V S 0 (z0.2.2.2.2 2) z0).2 := h0.no k0
      rw [ea0] at hW0; exact hW0
    have hW1 : rz_W (j + 1 + 0) (S (j + 1 + 0)) a1.2 := by rw [← ea1]; exact (hW.dup).nu
    have hW2 : rz_W (j + 1 + 0) (S (j + 1 + 0)) a2.2 := by rw [← ea2]; exact hW1.nu
    have hW3 : rz_W (j + 1 + 0) (S (j + 1 + 0)) a3.2 := by rw [← ea3]; exact hW2.fa
    exact rz_fail (by decide) (rz_W.el (rz_W.pm hW3))
  have hc2 : Y0.1 = 0 → z0.2.2.2.2 2 = Y0.2.2.1 2 := fun z => by
    obtain ⟨x1, x2, x3⟩ := ho z
    rw [x3, hC0, (hR.2 x1).1]
    exact (pz_ad_2w (w := 6) (by decide) rfl (by decide) (by decide)).symm
  obtain ⟨h1, g1, d1⟩ := rz_stepN (w := 6) (r := r) (i := 0) (lo := 0) (hi := (z0.2.2.2.2 2)) (Y := Y0) hT k0 h0 (fun z => pz_ffE (by rw [((pz_sgv_6 0).1 rfl)]; decide) (by rw [((pz_sgv_6 0).1 rfl), ← hc2 z]; exact (show (V (j + 1 + 0) < (z0.2.2.2.2 2)) ↔ _ by omega)))
  rw [ea0] at h1 g1 d1
  have hC1 : a0.2.2.2.2.2 = z0.2.2.2.2 := by rw [← ea0, rz_nu_C]
  have hv1 := (hT (j + 1 + 1)).2.1
  by_cases k1 : K (j + 1 + 1) = 1
  rotate_left
  · have en : pz_nl K V S 6 r (j + 1) len 0 Y0 = (1, (pz_it V S 6 r (j + 1) 1 Y0)) := (pz_nl_it 1 len (by have := ((hT (j + 1 + 0)).1 (by omega)).2; omega) (fun i hi => by
      rcases (show i = 0 by omega) with rfl
      · exact ⟨k0, by decide⟩)).trans (pz_nl_e (fun g => k1 g.1))
    rw [en]
    have hdn : (rz_dup K V S a0.1 a0.2) = a0.2 := if_neg (fun g => k1 (by rw [← h1.1]; exact g.1))
    have hW : rz_W (j + 1 + 1) (S (j + 1 + 1)) a1.2 := by
      have hW0 : rz_W (j + 1 + 1) (S (j + 1 + 1)) (rz_nu K V S 0 ((rz_dup K V S a0.1 a0.2).2.2.2.2 2) (rz_dup K V S a0.1 a0.2)).2 := by rw [hdn]; exact h1.no k1
      rw [ea1] at hW0; exact hW0
    have hW2 : rz_W (j + 1 + 1) (S (j + 1 + 1)) a2.2 := by rw [← ea2]; exact hW.nu
    have hW3 : rz_W (j + 1 + 1) (S (j + 1 + 1)) a3.2 := by rw [← ea3]; exact hW2.fa
    exact rz_fail (by decide) (rz_W.el (rz_W.pm hW3))
  have hc3 : (pz_it V S 6 r (j + 1) 1 Y0).1 = 0 → ((rz_dup K V S a0.1 a0.2).2.2.2.2 2) = (pz_it V S 6 r (j + 1) 1 Y0).2.2.1 2 := fun z => by
    obtain ⟨z0, ok1, va1⟩ := d1 z
    rw [rz_dup_C, hC1, hC0, ← hC0, hc2 z0]
    exact (pz_kp_lo (w := 6) (r := r) (i := 0) (v := V (j + 1 + 0)) (fi := pz_f1 0 (V (j + 1 + 0)) Y0.2.2.2.2.2) (by decide) (by decide) (by decide) (by decide)).symm
  obtain ⟨h2, g2, d2⟩ := rz_stepD (w := 6) (r := r) (i := 1) (hi := ((rz_dup K V S a0.1 a0.2).2.2.2.2 2)) (a := a0.1) (Y := (pz_it V S 6 r (j + 1) 1 Y0)) hT k1 h1 (fun z => by
    obtain ⟨z0, ok1, va1⟩ := d1 z
    have efi : (pz_it V S 6 r (j + 1) 1 Y0).2.2.2.2.2 = V (j + 1 + 0) := rfl
    refine pz_ffE (by rw [((pz_sgv_6 1).2.1 rfl)]; decide) ?_
    rw [((pz_sgv_6 1).2.1 rfl), ← hc3 z, efi, va1]
    exact Iff.rfl)
  rw [ea1] at h2 g2 d2
  have hC2 : a1.2.2.2.2.2 = a0.2.2.2.2.2 := by rw [← ea1, rz_nu_C, rz_dup_C]
  have hv2 := (hT (j + 1 + 2)).2.1
  by_cases k2 : K (j + 1 + 2) = 1
  rotate_left
  · have en : pz_nl K V S 6 r (j + 1) len 0 Y0 = (2, (pz_it V S 6 r (j + 1) 2 Y0)) := (pz_nl_it 2 len (by have := ((hT (j + 1 + 1)).1 (by omega)).2; omega) (fun i hi => by
      rcases (show i = 0 ∨ i = 1 by omega) with rfl | rfl
      · exact ⟨k0, by decide⟩
      · exact ⟨k1, by decide⟩)).trans (pz_nl_e (fun g => k2 g.1))
    rw [en]
    have hW : rz_W (j + 1 + 2) (S (j + 1 + 2)) a2.2 := by
      have hW0 : rz_W (j + 1 + 2) (S (j + 1 + 2)) (rz_nu K V S 1 10 a1.2).2 := h2.no k2
      rw [ea2] at hW0; exact hW0
    have hW3 : rz_W (j + 1 + 2) (S (j + 1 + 2)) a3.2 := by rw [← ea3]; exact hW.fa
    exact rz_fail (by decide) (rz_W.el (rz_W.pm hW3))
  obtain ⟨h3, g3, d3⟩ := rz_stepN (w := 6) (r := r) (i := 2) (lo := 1) (hi := 10) (Y := (pz_it V S 6 r (j + 1) 2 Y0)) hT k2 h2 (fun _ => pz_ffE (by rw [((pz_sgv_6 2).2.2.1 rfl)]; decide) (by rw [((pz_sgv_6 2).2.2.1 rfl)]; exact (show (1 ≤ V (j + 1 + 2) ∧ V (j + 1 + 2) ≤ 9) ↔ _ by omega)))
  rw [ea2] at h3 g3 d3
  have hC3 : a2.2.2.2.2.2 = a1.2.2.2.2.2 := by rw [← ea2, rz_nu_C]
  have hv3 := (hT (j + 1 + 3)).2.1
  by_cases k3 : K (j + 1 + 3) = 1
  rotate_left
  · have en : pz_nl K V S 6 r (j + 1) len 0 Y0 = (3, (pz_it V S 6 r (j + 1) 3 Y0)) := (pz_nl_it 3 len (by have := ((hT (j + 1 + 2)).1 (by omega)).2; omega) (fun i hi => by
      rcases (show i = 0 ∨ i = 1 ∨ i = 2 by omega) with rfl | rfl | rfl
      · exact ⟨k0, by decide⟩
      · exact ⟨k1, by decide⟩
      · exact ⟨k2, by decide⟩)).trans (pz_nl_e (fun g => k3 g.1))
    rw [en]
    have hW : rz_W (j + 1 + 3) (S (j + 1 + 3)) a3.2 := by
      have hW0 : rz_W (j + 1 + 3) (S (j + 1 + 3)) (rz_fa K V S a2.2).2 := rz_W.gr (h3.no k3)
      rw [ea3] at hW0; exact hW0
    exact rz_fail (by decide) (rz_W.el (rz_W.pm hW))
  obtain ⟨h4, g4, d4⟩ := rz_stepN (w := 6) (r := r) (i := 3) (lo := 0) (hi := 10) (Y := (pz_it V S 6 r (j + 1) 3 Y0)) hT k3 h3 (fun _ => pz_ffE (by rw [((pz_sgv_6 3).2.2.2.1 rfl)]; decide) (by rw [((pz_sgv_6 3).2.2.2.1 rfl)]; exact (show (V (j + 1 + 3) < 10) ↔ _ by omega)))
  have hf4 := h4.fa
  have gf4 : a3.2.2.2.2.1 = (if (rz_nu K V S 0 10 a2.2).1 ≠ 4294967295 ∧ (rz_nu K V S 0 10 a2.2).2.2.2.2.1 < (rz_nu K V S 0 10 a2.2).1 then (rz_nu K V S 0 10 a2.2).1 else (rz_nu K V S 0 10 a2.2).2.2.2.2.1) := by rw [← ea3]; exact rz_fa_e.2.2.2.2
  have ef1 : a3.1 = (rz_nu K V S 0 10 a2.2).1 := by rw [← ea3]; rfl
  rw [ea3] at hf4
  rw [g4, ← ef1] at gf4
  rw [← ef1] at d4
  replace h4 := hf4
  have hC4 : a3.2.2.2.2.2 = a2.2.2.2.2.2 := by rw [← ea3, rz_fa_C]
  have en : pz_nl K V S 6 r (j + 1) len 0 Y0 = (4, (pz_it V S 6 r (j + 1) 4 Y0)) := (pz_nl_it 4 len (by have := ((hT (j + 1 + 3)).1 (by omega)).2; omega) (fun i hi => by
      rcases (show i = 0 ∨ i = 1 ∨ i = 2 ∨ i = 3 by omega) with rfl | rfl | rfl | rfl
      · exact ⟨k0, by decide⟩
      · exact ⟨k1, by decide⟩
      · exact ⟨k2, by decide⟩
      · exact ⟨k3, by decide⟩)).trans (pz_nl_e (fun g => g.2 (by decide)))
  rw [en]
  have hCl : a3.2.2.2.2.2 = Z.2.2.2.2 := by rw [hC4, hC3, hC2, hC1, hC0]
  refine rz_close hT (by decide) (rz_Rn.pm h4) (fun z4 => ⟨?_, fun hs => ?_⟩)
  · obtain ⟨z3, ok4, va4⟩ := d4 z4
    obtain ⟨z2, ok3, va3⟩ := d3 z3
    obtain ⟨z1, ok2, va2⟩ := d2 z2
    obtain ⟨z0, ok1, va1⟩ := d1 z1
    obtain ⟨x1, x2, x3⟩ := ho z0
    rw [(hR.2 x1).1] at hCl
    have e0 : Y0.2.2.1 = (fun k => if k = 4 then (X.2.2.1 4) + 1 else if 79 + (X.2.2.1 4) * 4 ≤ k ∧ k < 79 + (X.2.2.1 4) * 4 + 4 then (if 6 < 10 then 0 else if k = 79 + (X.2.2.1 4) * 4 then 6 - 10 else 4294967295) else X.2.2.1 k) := by rw [x3]; rfl
    have eR : (pz_it V S 6 r (j + 1) 4 Y0).2.2.1 = (pz_up (pz_up (pz_up (pz_up (fun k => if k = 4 then (X.2.2.1 4) + 1 else if 79 + (X.2.2.1 4) * 4 ≤ k ∧ k < 79 + (X.2.2.1 4) * 4 + 4 then (if 6 < 10 then 0 else if k = 79 + (X.2.2.1 4) * 4 then 6 - 10 else 4294967295) else X.2.2.1 k) (79 + ((X.2.2.1 4) * 4 + 0)) (V (j + 1 + 0))) (79 + ((X.2.2.1 4) * 4 + 1)) (V (j + 1 + 1))) (79 + ((X.2.2.1 4) * 4 + 2)) (V (j + 1 + 2))) (79 + ((X.2.2.1 4) * 4 + 3)) (V (j + 1 + 3))) := by rw [← e0, ← er]; rfl
    rw [eR, rz_pm_C hCl x2, va1, va2, va3, va4]
    exact pz_eqC_6 x2
  · obtain ⟨z3, ok4, va4⟩ := d4 z4
    obtain ⟨z2, ok3, va3⟩ := d3 z3
    obtain ⟨z1, ok2, va2⟩ := d2 z2
    obtain ⟨z0, ok1, va1⟩ := d1 z1
    obtain ⟨x1, x2, x3⟩ := ho z0
    have hg := (hR.2 x1).2 rfl
    have et : Y0.2.2.2.1 = X.2.2.2 := by rw [x3]
    have eg : a2.2.2.2.2.1 = Z.2.2.2.1 := by rw [g3, g2, g1, hg0]
    rw [rz_pm_g, gf4, va4, eg]
    show rz_gt _ (Y0.2.2.2.1 ||| 2 ^ V (j + 1 + 3))
    rw [et]; exact rz_gt_up hg (by omega)
theorem rz_line_6 {K V S : Nat → Nat} {len j : Nat} {X : pz_X} {Z : rz_Z} (hT : rz_TS K V S len) (hk : K j = 3) (hR : rz_Rg S 0 j X Z) : rz_Re S 0 (pz_ln K V S len 6 j X) (rz_el K S (rz_pm (rz_nu K V S 0 ((rz_c3 4 12 (S j) (rz_ad Z)).2.2.2.2 2) (rz_c3 4 12 (S j) (rz_ad Z))).1 (rz_nu K V S 0 ((rz_dup K V S (rz_nu K V S 0 ((rz_c3 4 12 (S j) (rz_ad Z)).2.2.2.2 2) (rz_c3 4 12 (S j) (rz_ad Z))).1 (rz_nu K V S 0 ((rz_c3 4 12 (S j) (rz_ad Z)).2.2.2.2 2) (rz_c3 4 12 (S j) (rz_ad Z))).2).2.2.2.2 2) (rz_dup K V S (rz_nu K V S 0 ((rz_c3 4 12 (S j) (rz_ad Z)).2.2.2.2 2) (rz_c3 4 12 (S j) (rz_ad Z))).1 (rz_nu K V S 0 ((rz_c3 4 12 (S j) (rz_ad Z)).2.2.2.2 2) (rz_c3 4 12 (S j) (rz_ad Z))).2)).1 (rz_nu K V S 1 10 (rz_nu K V S 0 ((rz_dup K V S (rz_nu K V S 0 ((rz_c3 4 12 (S j) (rz_ad Z)).2.2.2.2 2) (rz_c3 4 12 (S j) (rz_ad Z))).1 (rz_nu K V S 0 ((rz_c3 4 12 (S j) (rz_ad Z)).2.2.2.2 2) (rz_c3 4 12 (S j) (rz_ad Z))).2).2.2.2.2 2) (rz_dup K V S (rz_nu K V S 0 ((rz_c3 4 12 (S j) (rz_ad Z)).2.2.2.2 2) (rz_c3 4 12 (S j) (rz_ad Z))).1 (rz_nu K V S 0 ((rz_c3 4 12 (S j) (rz_ad Z)).2.2.2.2 2) (rz_c3 4 12 (S j) (rz_ad Z))).2)).2).1 (rz_fa K V S (rz_nu K V S 1 10 (rz_nu K V S 0 ((rz_dup K V S (rz_nu K V S 0 ((rz_c3 4 12 (S j) (rz_ad Z)).2.2.2.2 2) (rz_c3 4 12 (S j) (rz_ad Z))).1 (rz_nu K V S 0 ((rz_c3 4 12 (S j) (rz_ad Z)).2.2.2.2 2) (rz_c3 4 12 (S j) (rz_ad Z))).2).2.2.2.2 2) (rz_dup K V S (rz_nu K V S 0 ((rz_c3 4 12 (S j) (rz_ad Z)).2.2.2.2 2) (rz_c3 4 12 (S j) (rz_ad Z))).1 (rz_nu K V S 0 ((rz_c3 4 12 (S j) (rz_ad Z)).2.2.2.2 2) (rz_c3 4 12 (S j) (rz_ad Z))).2)).2).2).1 (rz_fa K V S (rz_nu K V S 1 10 (rz_nu K V S 0 ((rz_dup K V S (rz_nu K V S 0 ((rz_c3 4 12 (S j) (rz_ad Z)).2.2.2.2 2) (rz_c3 4 12 (S j) (rz_ad Z))).1 (rz_nu K V S 0 ((rz_c3 4 12 (S j) (rz_ad Z)).2.2.2.2 2) (rz_c3 4 12 (S j) (rz_ad Z))).2).2.2.2.2 2) (rz_dup K V S (rz_nu K V S 0 ((rz_c3 4 12 (S j) (rz_ad Z)).2.2.2.2 2) (rz_c3 4 12 (S j) (rz_ad Z))).1 (rz_nu K V S 0 ((rz_c3 4 12 (S j) (rz_ad Z)).2.2.2.2 2) (rz_c3 4 12 (S j) (rz_ad Z))).2)).2).2).2)) := rz_line_6v hT hk hR rfl rfl rfl rfl rfl
