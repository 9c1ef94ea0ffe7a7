/-! both read alike: lines of a day -/
theorem pz_eqC_10 {C : Nat → Nat} {v0 v1 : Nat} (hn : C 0 < 30) : pz_up (pz_up (pz_up (pz_up (pz_up C (1 + 4 * C 0) 0) (1 + 4 * C 0 + 1) v0) (1 + 4 * C 0 + 2) v1) (1 + 4 * C 0 + 3) 4294967295) 0 (C 0 + 1) = (pz_up (pz_up (fun k => if k = 0 then (C 0) + 1 else if 1 + (C 0) * 4 ≤ k ∧ k < 1 + (C 0) * 4 + 4 then (if 10 < 10 then 0 else if k = 1 + (C 0) * 4 then 10 - 10 else 4294967295) else C k) (1 + ((C 0) * 4 + (0 + 1))) v0) (1 + ((C 0) * 4 + (1 + 1))) v1) := by
  funext k
  generalize C 0 = n at *
  by_cases y9 : k = 0
  · refine (pz_up_if (by omega)).trans ?_
    refine Eq.symm ?_
    refine (pz_up_ne (by omega)).trans ?_
    refine (pz_up_ne (by omega)).trans ?_
    exact if_pos (by omega)
  by_cases y0 : k = 1 + n * 4 + 0
  · refine (pz_up_ne (by omega)).trans ?_
    refine (pz_up_ne (by omega)).trans ?_
    refine (pz_up_ne (by omega)).trans ?_
    refine (pz_up_ne (by omega)).trans ?_
    refine (pz_up_if (by omega)).trans ?_
    refine Eq.symm ?_
    refine (pz_up_ne (by omega)).trans ?_
    refine (pz_up_ne (by omega)).trans ?_
    refine (if_neg (by omega)).trans ?_
    refine (if_pos (by omega)).trans ?_
    refine (if_neg (by decide)).trans ?_
    exact if_pos (by omega)
  by_cases y1 : k = 1 + n * 4 + 1
  · refine (pz_up_ne (by omega)).trans ?_
    refine (pz_up_ne (by omega)).trans ?_
    refine (pz_up_ne (by omega)).trans ?_
    refine (pz_up_if (by omega)).trans ?_
    refine Eq.symm ?_
    refine (pz_up_ne (by omega)).trans ?_
    exact pz_up_if (by omega)
  by_cases y2 : k = 1 + n * 4 + 2
  · refine (pz_up_ne (by omega)).trans ?_
    refine (pz_up_ne (by omega)).trans ?_
    refine (pz_up_if (by omega)).trans ?_
    refine Eq.symm ?_
    exact pz_up_if (by omega)
  by_cases y3 : k = 1 + n * 4 + 3
  · refine (pz_up_ne (by omega)).trans ?_
    refine (pz_up_if (by omega)).trans ?_
    refine Eq.symm ?_
    refine (pz_up_ne (by omega)).trans ?_
    refine (pz_up_ne (by omega)).trans ?_
    refine (if_neg (by omega)).trans ?_
    refine (if_pos (by omega)).trans ?_
    refine (if_neg (by decide)).trans ?_
    exact if_neg (by omega)
  · refine (pz_up_ne (by omega)).trans ?_
    refine (pz_up_ne (by omega)).trans ?_
    refine (pz_up_ne (by omega)).trans ?_
    refine (pz_up_ne (by omega)).trans ?_
    refine (pz_up_ne (by omega)).trans ?_
    refine Eq.symm ?_
    refine (pz_up_ne (by omega)).trans ?_
    refine (pz_up_ne (by omega)).trans ?_
    refine (if_neg (by omega)).trans ?_
    exact if_neg (by omega)
theorem rz_line_10v {K V S : Nat → Nat} {len j : Nat} {X : pz_X} {Z : rz_Z} (hT : rz_TS K V S len) (hk : K j = 3) (hR : rz_Rg S 1 j X Z) {z0 : rz_Z} (ez0 : (rz_c3 0 30 (S j) (rz_ad Z)) = z0) {a0 : Nat × rz_Z} (ea0 : (rz_nu K V S 0 5 z0) = a0) {a1 : Nat × rz_Z} (ea1 : (rz_nu K V S 0 10 a0.2) = a1) : rz_Re S 1 (pz_ln K V S len 10 j X) (rz_el K S (rz_pd 0 a0.1 a1.1 4294967295 a1.2)) := by
  have hk0 : K j ≠ 0 := by omega
  obtain ⟨h0a, hoa, hg0a⟩ := rz_open (w := 10) hT hk0 rfl hR
  have h0 : rz_Rl S (j + 1) (pz_ow 10 (S j) X).1 (pz_ow 10 (S j) X).2.1 (rz_c3 0 30 (S j) (rz_ad Z)) := h0a
  have hg0 : (rz_c3 0 30 (S j) (rz_ad Z)).2.2.2.1 = Z.2.2.2.1 := hg0a
  have ho : (pz_ow 10 (S j) X).1 = 0 → X.1 = 0 ∧ X.2.2.1 0 < 30 ∧ pz_ow 10 (S j) X = (X.1, X.2.1, pz_ad 10 X.2.2.1, X.2.2.2, 0, 4294967295) := hoa
  clear h0a hg0a hoa
  have hC0 : (rz_c3 0 30 (S j) (rz_ad Z)).2.2.2.2 = Z.2.2.2.2 := rz_c3_C
  rw [ez0] at h0 hg0 hC0
  show rz_Re S 1 (pz_le K S 10 j (pz_nl K V S 10 (X.2.2.1 (pz_ci (pz_rt 10))) (j + 1) len 0 (pz_ow 10 (S j) X))) _
  generalize eY0 : pz_ow 10 (S j) X = Y0 at h0 ho ⊢
  generalize er : X.2.2.1 (pz_ci (pz_rt 10)) = r at ⊢
  have hv0 := (hT (j + 1 + 0)).2.1
  by_cases k0 : K (j + 1 + 0) = 1
  rotate_left
  · have en : pz_nl K V S 10 r (j + 1) len 0 Y0 = (0, Y0) := pz_nl_e (fun g => k0 g.1)
    rw [en]
    have hW : rz_W (j + 1 + 0) (S (j + 1 + 0)) a0.2 := by
      have hW0 : rz_W (j + 1 + 0) (S (j + 1 + 0)) (rz_nu K V S 0 5 z0).2 := h0.no k0
      rw [ea0] at hW0; exact hW0
    have hW1 : rz_W (j + 1 + 0) (S (j + 1 + 0)) a1.2 := by rw [← ea1]; exact hW.nu
    exact rz_fail (by decide) (rz_W.el (rz_W.pd hW1))
  obtain ⟨h1, g1, d1⟩ := rz_stepN (w := 10) (r := r) (i := 0) (lo := 0) (hi := 5) (Y := Y0) hT k0 h0 (fun _ => pz_ffE (by rw [((pz_sgv_10 0).1 rfl)]; decide) (by rw [((pz_sgv_10 0).1 rfl)]; exact (show (V (j + 1 + 0) < 5) ↔ _ by omega)))
  rw [ea0] at h1 g1 d1
  have hC1 : a0.2.2.2.2.2 = z0.2.2.2.2 := by rw [← ea0, rz_nu_C]
  have hv1 := (hT (j + 1 + 1)).2.1
  by_cases k1 : K (j + 1 + 1) = 1
  rotate_left
  · have en : pz_nl K V S 10 r (j + 1) len 0 Y0 = (1, (pz_it V S 10 r (j + 1) 1 Y0)) := (pz_nl_it 1 len (by have := ((hT (j + 1 + 0)).1 (by omega)).2; omega) (fun i hi => by
      rcases (show i = 0 by omega) with rfl
      · exact ⟨k0, by decide⟩)).trans (pz_nl_e (fun g => k1 g.1))
    rw [en]
    have hW : rz_W (j + 1 + 1) (S (j + 1 + 1)) a1.2 := by
      have hW0 : rz_W (j + 1 + 1) (S (j + 1 + 1)) (rz_nu K V S 0 10 a0.2).2 := h1.no k1
      rw [ea1] at hW0; exact hW0
    exact rz_fail (by decide) (rz_W.el (rz_W.pd hW))
  obtain ⟨h2, g2, d2⟩ := rz_stepN (w := 10) (r := r) (i := 1) (lo := 0) (hi := 10) (Y := (pz_it V S 10 r (j + 1) 1 Y0)) hT k1 h1 (fun _ => pz_ffE (by rw [((pz_sgv_10 1).2.1 rfl)]; decide) (by rw [((pz_sgv_10 1).2.1 rfl)]; exact (show (V (j + 1 + 1) < 10) ↔ _ by omega)))
  rw [ea1] at h2 g2 d2
  have hC2 : a1.2.2.2.2.2 = a0.2.2.2.2.2 := by rw [← ea1, rz_nu_C]
  have en : pz_nl K V S 10 r (j + 1) len 0 Y0 = (2, (pz_it V S 10 r (j + 1) 2 Y0)) := (pz_nl_it 2 len (by have := ((hT (j + 1 + 1)).1 (by omega)).2; omega) (fun i hi => by
      rcases (show i = 0 ∨ i = 1 by omega) with rfl | rfl
      · exact ⟨k0, by decide⟩
      · exact ⟨k1, by decide⟩)).trans (pz_nl_e (fun g => g.2 (by decide)))
  rw [en]
  have hCl : a1.2.2.2.2.2 = Z.2.2.2.2 := by rw [hC2, hC1, hC0]
  refine rz_close hT (by decide) (rz_Rn.pd h2) (fun z2 => ⟨?_, fun hs => ?_⟩)
  · obtain ⟨z1, ok2, va2⟩ := d2 z2
    obtain ⟨z0, ok1, va1⟩ := d1 z1
    obtain ⟨x1, x2, x3⟩ := ho z0
    rw [(hR.2 x1).1] at hCl
    have e0 : Y0.2.2.1 = (fun k => if k = 0 then (X.2.2.1 0) + 1 else if 1 + (X.2.2.1 0) * 4 ≤ k ∧ k < 1 + (X.2.2.1 0) * 4 + 4 then (if 10 < 10 then 0 else if k = 1 + (X.2.2.1 0) * 4 then 10 - 10 else 4294967295) else X.2.2.1 k) := by rw [x3]; rfl
    have eR : (pz_it V S 10 r (j + 1) 2 Y0).2.2.1 = (pz_up (pz_up (fun k => if k = 0 then (X.2.2.1 0) + 1 else if 1 + (X.2.2.1 0) * 4 ≤ k ∧ k < 1 + (X.2.2.1 0) * 4 + 4 then (if 10 < 10 then 0 else if k = 1 + (X.2.2.1 0) * 4 then 10 - 10 else 4294967295) else X.2.2.1 k) (1 + ((X.2.2.1 0) * 4 + (0 + 1))) (V (j + 1 + 0))) (1 + ((X.2.2.1 0) * 4 + (1 + 1))) (V (j + 1 + 1))) := by rw [← e0, ← er]; rfl
    rw [eR, rz_pd_C hCl x2, va1, va2]
    exact pz_eqC_10 x2
  · exact absurd hs (by decide)
theorem rz_line_10 {K V S : Nat → Nat} {len j : Nat} {X : pz_X} {Z : rz_Z} (hT : rz_TS K V S len) (hk : K j = 3) (hR : rz_Rg S 1 j X Z) : rz_Re S 1 (pz_ln K V S len 10 j X) (rz_el K S (rz_pd 0 (rz_nu K V S 0 5 (rz_c3 0 30 (S j) (rz_ad Z))).1 (rz_nu K V S 0 10 (rz_nu K V S 0 5 (rz_c3 0 30 (S j) (rz_ad Z))).2).1 4294967295 (rz_nu K V S 0 10 (rz_nu K V S 0 5 (rz_c3 0 30 (S j) (rz_ad Z))).2).2)) := rz_line_10v hT hk hR rfl rfl rfl
theorem pz_eqC_11 {C : Nat → Nat} {v0 v1 : Nat} (hn : C 0 < 30) : pz_up (pz_up (pz_up (pz_up (pz_up C (1 + 4 * C 0) 1) (1 + 4 * C 0 + 1) v0) (1 + 4 * C 0 + 2) v1) (1 + 4 * C 0 + 3) 4294967295) 0 (C 0 + 1) = (pz_up (pz_up (fun k => if k = 0 then (C 0) + 1 else if 1 + (C 0) * 4 ≤ k ∧ k < 1 + (C 0) * 4 + 4 then (if 11 < 10 then 0 else if k = 1 + (C 0) * 4 then 11 - 10 else 4294967295) else C k) (1 + ((C 0) * 4 + (0 + 1))) v0) (1 + ((C 0) * 4 + (1 + 1))) v1) := by
  funext k
  generalize C 0 = n at *
  by_cases y9 : k = 0
  · refine (pz_up_if (by omega)).trans ?_
    refine Eq.symm ?_
    refine (pz_up_ne (by omega)).trans ?_
    refine (pz_up_ne (by omega)).trans ?_
    exact if_pos (by omega)
  by_cases y0 : k = 1 + n * 4 + 0
  · refine (pz_up_ne (by omega)).trans ?_
    refine (pz_up_ne (by omega)).trans ?_
    refine (pz_up_ne (by omega)).trans ?_
    refine (pz_up_ne (by omega)).trans ?_
    refine (pz_up_if (by omega)).trans ?_
    refine Eq.symm ?_
    refine (pz_up_ne (by omega)).trans ?_
    refine (pz_up_ne (by omega)).trans ?_
    refine (if_neg (by omega)).trans ?_
    refine (if_pos (by omega)).trans ?_
    refine (if_neg (by decide)).trans ?_
    exact if_pos (by omega)
  by_cases y1 : k = 1 + n * 4 + 1
  · refine (pz_up_ne (by omega)).trans ?_
    refine (pz_up_ne (by omega)).trans ?_
    refine (pz_up_ne (by omega)).trans ?_
    refine (pz_up_if (by omega)).trans ?_
    refine Eq.symm ?_
    refine (pz_up_ne (by omega)).trans ?_
    exact pz_up_if (by omega)
  by_cases y2 : k = 1 + n * 4 + 2
  · refine (pz_up_ne (by omega)).trans ?_
    refine (pz_up_ne (by omega)).trans ?_
    refine (pz_up_if (by omega)).trans ?_
    refine Eq.symm ?_
    exact pz_up_if (by omega)
  by_cases y3 : k = 1 + n * 4 + 3
  · refine (pz_up_ne (by omega)).trans ?_
    refine (pz_up_if (by omega)).trans ?_
    refine Eq.symm ?_
    refine (pz_up_ne (by omega)).trans ?_
    refine (pz_up_ne (by omega)).trans ?_
    refine (if_neg (by omega)).trans ?_
    refine (if_pos (by omega)).trans ?_
    refine (if_neg (by decide)).trans ?_
    exact if_neg (by omega)
  · refine (pz_up_ne (by omega)).trans ?_
    refine (pz_up_ne (by omega)).trans ?_
    refine (pz_up_ne (by omega)).trans ?_
    refine (pz_up_ne (by omega)).trans ?_
    refine (pz_up_ne (by omega)).trans ?_
    refine Eq.symm ?_
    refine (pz_up_ne (by omega)).trans ?_
    refine (pz_up_ne (by omega)).trans ?_
    refine (if_neg (by omega)).trans ?_
    exact if_neg (by omega)
theorem rz_line_11v {K V S : Nat → Nat} {len j : Nat} {X : pz_X} {Z : rz_Z} (hT : rz_TS K V S len) (hk : K j = 3) (hR : rz_Rg S 1 j X Z) {z0 : rz_Z} (ez0 : (rz_c3 0 30 (S j) (rz_ad Z)) = z0) {a0 : Nat × rz_Z} (ea0 : (rz_nu K V S 0 5 z0) = a0) {a1 : Nat × rz_Z} (ea1 : (rz_nu K V S 0 10 a0.2) = a1) : rz_Re S 1 (pz_ln K V S len 11 j X) (rz_el K S (rz_pd 1 a0.1 a1.1 4294967295 a1.2)) := by
  have hk0 : K j ≠ 0 := by omega
  obtain ⟨h0a, hoa, hg0a⟩ := rz_open (w := 11) hT hk0 rfl hR
  have h0 : rz_Rl S (j + 1) (pz_ow 11 (S j) X).1 (pz_ow 11 (S j) X).2.1 (rz_c3 0 30 (S j) (rz_ad Z)) := h0a
  have hg0 : (rz_c3 0 30 (S j) (rz_ad Z)).2.2.2.1 = Z.2.2.2.1 := hg0a
  have ho : (pz_ow 11 (S j) X).1 = 0 → X.1 = 0 ∧ X.2.2.1 0 < 30 ∧ pz_ow 11 (S j) X = (X.1, X.2.1, pz_ad 11 X.2.2.1, X.2.2.2, 0, 4294967295) := hoa
  clear h0a hg0a hoa
  have hC0 : (rz_c3 0 30 (S j) (rz_ad Z)).2.2.2.2 = Z.2.2.2.2 := rz_c3_C
  rw [ez0] at h0 hg0 hC0
  show rz_Re S 1 (pz_le K S 11 j (pz_nl K V S 11 (X.2.2.1 (pz_ci (pz_rt 11))) (j + 1) len 0 (pz_ow 11 (S j) X))) _
  generalize eY0 : pz_ow 11 (S j) X = Y0 at h0 ho ⊢
  generalize er : X.2.2.1 (pz_ci (pz_rt 11)) = r at ⊢
  have hv0 := (hT (j + 1 + 0)).2.1
  by_cases k0 : K (j + 1 + 0) = 1
  rotate_left
  · have en : pz_nl K V S 11 r (j + 1) len 0 Y0 = (0, Y0) := pz_nl_e (fun g => k0 g.1)
    rw [en]
    have hW : rz_W (j + 1 + 0) (S (j + 1 + 0)) a0.2 := by
      have hW0 : rz_W (j + 1 + 0) (S (j + 1 + 0)) (rz_nu K V S 0 5 z0).2 := h0.no k0
      rw [ea0] at hW0; exact hW0
    have hW1 : rz_W (j + 1 + 0) (S (j + 1 + 0)) a1.2 := by rw [← ea1]; exact hW.nu
    exact rz_fail (by decide) (rz_W.el (rz_W.pd hW1))
  obtain ⟨h1, g1, d1⟩ := rz_stepN (w := 11) (r := r) (i := 0) (lo := 0) (hi := 5) (Y := Y0) hT k0 h0 (fun _ => pz_ffE (by rw [((pz_sgv_11 0).1 rfl)]; decide) (by rw [((pz_sgv_11 0).1 rfl)]; exact (show (V (j + 1 + 0) < 5) ↔ _ by omega)))
  rw [ea0] at h1 g1 d1
  have hC1 : a0.2.2.2.2.2 = z0.2.2.2.2 := by rw [← ea0, rz_nu_C]
  have hv1 := (hT (j + 1 + 1)).2.1
  by_cases k1 : K (j + 1 + 1) = 1
  rotate_left
  · have en : pz_nl K V S 11 r (j + 1) len 0 Y0 = (1, (pz_it V S 11 r (j + 1) 1 Y0)) := (pz_nl_it 1 len (by have := ((hT (j + 1 + 0)).1 (by omega)).2; omega) (fun i hi => by
      rcases (show i = 0 by omega) with rfl
      · exact ⟨k0, by decide⟩)).trans (pz_nl_e (fun g => k1 g.1))
    rw [en]
    have hW : rz_W (j + 1 + 1) (S (j + 1 + 1)) a1.2 := by
      have hW0 : rz_W (j + 1 + 1) (S (j + 1 + 1)) (rz_nu K V S 0 10 a0.2).2 := h1.no k1
      rw [ea1] at hW0; exact hW0
    exact rz_fail (by decide) (rz_W.el (rz_W.pd hW))
  obtain ⟨h2, g2, d2⟩ := rz_stepN (w := 11) (r := r) (i := 1) (lo := 0) (hi := 10) (Y := (pz_it V S 11 r (j + 1) 1 Y0)) hT k1 h1 (fun _ => pz_ffE (by rw [((pz_sgv_11 1).2.1 rfl)]; decide) (by rw [((pz_sgv_11 1).2.1 rfl)]; exact (show (V (j + 1 + 1) < 10) ↔ _ by omega)))
  rw [ea1] at h2 g2 d2
  have hC2 : a1.2.2.2.2.2 = a0.2.2.2.2.2 := by rw [← ea1, rz_nu_C]
  have en : pz_nl K V S 11 r (j + 1) len 0 Y0 = (2, (pz_it V S 11 r (j + 1) 2 Y0)) := (pz_nl_it 2 len (by have := ((hT (j + 1 + 1)).1 (by omega)).2; omega) (fun i hi => by
      rcases (show i = 0 ∨ i = 1 by omega) with rfl | rfl
      · exact ⟨k0, by decide⟩
      · exact ⟨k1, by decide⟩)).trans (pz_nl_e (fun g => g.2 (by decide)))
  rw [en]
  have hCl : a1.2.2.2.2.2 = Z.2.2.2.2 := by rw [hC2, hC1, hC0]
  refine rz_close hT (by decide) (rz_Rn.pd h2) (fun z2 => ⟨?_, fun hs => ?_⟩)
  · obtain ⟨z1, ok2, va2⟩ := d2 z2
    obtain ⟨z0, ok1, va1⟩ := d1 z1
    obtain ⟨x1, x2, x3⟩ := ho z0
    rw [(hR.2 x1).1] at hCl
    have e0 : Y0.2.2.1 = (fun k => if k = 0 then (X.2.2.1 0) + 1 else if 1 + (X.2.2.1 0) * 4 ≤ k ∧ k < 1 + (X.2.2.1 0) * 4 + 4 then (if 11 < 10 then 0 else if k = 1 + (X.2.2.1 0) * 4 then 11 - 10 else 4294967295) else X.2.2.1 k) := by rw [x3]; rfl
    have eR : (pz_it V S 11 r (j + 1) 2 Y0).2.2.1 = (pz_up (pz_up (fun k => if k = 0 then (X.2.2.1 0) + 1 else if 1 + (X.2.2.1 0) * 4 ≤ k ∧ k < 1 + (X.2.2.1 0) * 4 + 4 then (if 11 < 10 then 0 else if k = 1 + (X.2.2.1 0) * 4 then 11 - 10 else 4294967295) else X.2.2.1 k) (1 + ((X.2.2.1 0) * 4 + (0 + 1))) (V (j + 1 + 0))) (1 + ((X.2.2.1 0) * 4 + (1 + 1))) (V (j + 1 + 1))) := by rw [← e0, ← er]; rfl
    rw [eR, rz_pd_C hCl x2, va1, va2]
    exact pz_eqC_11 x2
  · exact absurd hs (by decide)
theorem rz_line_11 {K V S : Nat → Nat} {len j : Nat} {X : pz_X} {Z : rz_Z} (hT : rz_TS K V S len) (hk : K j = 3) (hR : rz_Rg S 1 j X Z) : rz_Re S 1 (pz_ln K V S len 11 j X) (rz_el K S (rz_pd 1 (rz_nu K V S 0 5 (rz_c3 0 30 (S j) (rz_ad Z))).1 (rz_nu K V S 0 10 (rz_nu K V S 0 5 (rz_c3 0 30 (S j) (rz_ad Z))).2).1 4294967295 (rz_nu K V S 0 10 (rz_nu K V S 0 5 (rz_c3 0 30 (S j) (rz_ad Z))).2).2)) := rz_line_11v hT hk hR rfl rfl rfl
theorem pz_eqC_12 {C : Nat → Nat} {v0 v1 : Nat} (hn : C 0 < 30) : pz_up (pz_up (pz_up (pz_up (pz_up C (1 + 4 * C 0) 2) (1 + 4 * C 0 + 1) v0) (1 + 4 * C 0 + 2) v1) (1 + 4 * C 0 + 3) 4294967295) 0 (C 0 + 1) = (pz_up (pz_up (fun k => if k = 0 then (C 0) + 1 else if 1 + (C 0) * 4 ≤ k ∧ k < 1 + (C 0) * 4 + 4 then (if 12 < 10 then 0 else if k = 1 + (C 0) * 4 then 12 - 10 else 4294967295) else C k) (1 + ((C 0) * 4 + (0 + 1))) v0) (1 + ((C 0) * 4 + (1 + 1))) v1) := by
  funext k
  generalize C 0 = n at *
  by_cases y9 : k = 0
  · refine (pz_up_if (by omega)).trans ?_
    refine Eq.symm ?_
    refine (pz_up_ne (by omega)).trans ?_
    refine (pz_up_ne (by omega)).trans ?_
    exact if_pos (by omega)
  by_cases y0 : k = 1 + n * 4 + 0
  · refine (pz_up_ne (by omega)).trans ?_
    refine (pz_up_ne (by omega)).trans ?_
    refine (pz_up_ne (by omega)).trans ?_
    refine (pz_up_ne (by omega)).trans ?_
    refine (pz_up_if (by omega)).trans ?_
    refine Eq.symm ?_
    refine (pz_up_ne (by omega)).trans ?_
    refine (pz_up_ne (by omega)).trans ?_
    refine (if_neg (by omega)).trans ?_
    refine (if_pos (by omega)).trans ?_
    refine (if_neg (by decide)).trans ?_
    exact if_pos (by omega)
  by_cases y1 : k = 1 + n * 4 + 1
  · refine (pz_up_ne (by omega)).trans ?_
    refine (pz_up_ne (by omega)).trans ?_
    refine (pz_up_ne (by omega)).trans ?_
    refine (pz_up_if (by omega)).trans ?_
    refine Eq.symm ?_
    refine (pz_up_ne (by omega)).trans ?_
    exact pz_up_if (by omega)
  by_cases y2 : k = 1 + n * 4 + 2
  · refine (pz_up_ne (by omega)).trans ?_
    refine (pz_up_ne (by omega)).trans ?_
    refine (pz_up_if (by omega)).trans ?_
    refine Eq.symm ?_
    exact pz_up_if (by omega)
  by_cases y3 : k = 1 + n * 4 + 3
  · refine (pz_up_ne (by omega)).trans ?_
    refine (pz_up_if (by omega)).trans ?_
    refine Eq.symm ?_
    refine (pz_up_ne (by omega)).trans ?_
    refine (pz_up_ne (by omega)).trans ?_
    refine (if_neg (by omega)).trans ?_
    refine (if_pos (by omega)).trans ?_
    refine (if_neg (by decide)).trans ?_
    exact if_neg (by omega)
  · refine (pz_up_ne (by omega)).trans ?_
    refine (pz_up_ne (by omega)).trans ?_
    refine (pz_up_ne (by omega)).trans ?_
    refine (pz_up_ne (by omega)).trans ?_
    refine (pz_up_ne (by omega)).trans ?_
    refine Eq.symm ?_
    refine (pz_up_ne (by omega)).trans ?_
    refine (pz_up_ne (by omega)).trans ?_
    refine (if_neg (by omega)).trans ?_
    exact if_neg (by omega)
theorem rz_line_12v {K V S : Nat → Nat} {len j : Nat} {X : pz_X} {Z : rz_Z} (hT : rz_TS K V S len) (hk : K j = 3) (hR : rz_Rg S 1 j X Z) {z0 : rz_Z} (ez0 : (rz_c3 0 30 (S j) (rz_ad Z)) = z0) {a0 : Nat × rz_Z} (ea0 : (rz_nu K V S 0 5 z0) = a0) {a1 : Nat × rz_Z} (ea1 : (rz_nu K V S 0 10 a0.2) = a1) : rz_Re S 1 (pz_ln K V S len 12 j X) (rz_el K S (rz_pd 2 a0.1 a1.1 4294967295 a1.2)) := by
  have hk0 : K j ≠ 0 := by omega
  obtain ⟨h0a, hoa, hg0a⟩ := rz_open (w := 12) hT hk0 rfl hR
  have h0 : rz_Rl S (j + 1) (pz_ow 12 (S j) X).1 (pz_ow 12 (S j) X).2.1 (rz_c3 0 30 (S j) (rz_ad Z)) := h0a
  have hg0 : (rz_c3 0 30 (S j) (rz_ad Z)).2.2.2.1 = Z.2.2.2.1 := hg0a
  have ho : (pz_ow 12 (S j) X).1 = 0 → X.1 = 0 ∧ X.2.2.1 0 < 30 ∧ pz_ow 12 (S j) X = (X.1, X.2.1, pz_ad 12 X.2.2.1, X.2.2.2, 0, 4294967295) := hoa
  clear h0a hg0a hoa
  have hC0 : (rz_c3 0 30 (S j) (rz_ad Z)).2.2.2.2 = Z.2.2.2.2 := rz_c3_C
  rw [ez0] at h0 hg0 hC0
  show rz_Re S 1 (pz_le K S 12 j (pz_nl K V S 12 (X.2.2.1 (pz_ci (pz_rt 12))) (j + 1) len 0 (pz_ow 12 (S j) X))) _
  generalize eY0 : pz_ow 12 (S j) X = Y0 at h0 ho ⊢
  generalize er : X.2.2.1 (pz_ci (pz_rt 12)) = r at ⊢
  have hv0 := (hT (j + 1 + 0)).2.1
  by_cases k0 : K (j + 1 + 0) = 1
  rotate_left
  · have en : pz_nl K V S 12 r (j + 1) len 0 Y0 = (0, Y0) := pz_nl_e (fun g => k0 g.1)
    rw [en]
    have hW : rz_W (j + 1 + 0) (S (j + 1 + 0)) a0.2 := by
      have hW0 : rz_W (j + 1 + 0) (S (j + 1 + 0)) (rz_nu K V S 0 5 z0).2 := h0.no k0
      rw [ea0] at hW0; exact hW0
    have hW1 : rz_W (j + 1 + 0) (S (j + 1 + 0)) a1.2 := by rw [← ea1]; exact hW.nu
    exact rz_fail (by decide) (rz_W.el (rz_W.pd hW1))
  obtain ⟨h1, g1, d1⟩ := rz_stepN (w := 12) (r := r) (i := 0) (lo := 0) (hi := 5) (Y := Y0) hT k0 h0 (fun _ => pz_ffE (by rw [((pz_sgv_12 0).1 rfl)]; decide) (by rw [((pz_sgv_12 0).1 rfl)]; exact (show (V (j + 1 + 0) < 5) ↔ _ by omega)))
  rw [ea0] at h1 g1 d1
  have hC1 : a0.2.2.2.2.2 = z0.2.2.2.2 := by rw [← ea0, rz_nu_C]
  have hv1 := (hT (j + 1 + 1)).2.1
  by_cases k1 : K (j + 1 + 1) = 1
  rotate_left
  · have en : pz_nl K V S 12 r (j + 1) len 0 Y0 = (1, (pz_it V S 12 r (j + 1) 1 Y0)) := (pz_nl_it 1 len (by have := ((hT (j + 1 + 0)).1 (by omega)).2; omega) (fun i hi => by
      rcases (show i = 0 by omega) with rfl
      · exact ⟨k0, by decide⟩)).trans (pz_nl_e (fun g => k1 g.1))
    rw [en]
    have hW : rz_W (j + 1 + 1) (S (j + 1 + 1)) a1.2 := by
      have hW0 : rz_W (j + 1 + 1) (S (j + 1 + 1)) (rz_nu K V S 0 10 a0.2).2 := h1.no k1
      rw [ea1] at hW0; exact hW0
    exact rz_fail (by decide) (rz_W.el (rz_W.pd hW))
  obtain ⟨h2, g2, d2⟩ := rz_stepN (w := 12) (r := r) (i := 1) (lo := 0) (hi := 10) (Y := (pz_it V S 12 r (j + 1) 1 Y0)) hT k1 h1 (fun _ => pz_ffE (by rw [((pz_sgv_12 1).2.1 rfl)]; decide) (by rw [((pz_sgv_12 1).2.1 rfl)]; exact (show (V (j + 1 + 1) < 10) ↔ _ by omega)))
  rw [ea1] at h2 g2 d2
  have hC2 : a1.2.2.2.2.2 = a0.2.2.2.2.2 := by rw [← ea1, rz_nu_C]
  have en : pz_nl K V S 12 r (j + 1) len 0 Y0 = (2, (pz_it V S 12 r (j + 1) 2 Y0)) := (pz_nl_it 2 len (by have := ((hT (j + 1 + 1)).1 (by omega)).2; omega) (fun i hi => by
      rcases (show i = 0 ∨ i = 1 by omega) with rfl | rfl
      · exact ⟨k0, by decide⟩
      · exact ⟨k1, by decide⟩)).trans (pz_nl_e (fun g => g.2 (by decide)))
  rw [en]
  have hCl : a1.2.2.2.2.2 = Z.2.2.2.2 := by rw [hC2, hC1, hC0]
  refine rz_close hT (by decide) (rz_Rn.pd h2) (fun z2 => ⟨?_, fun hs => ?_⟩)
  · obtain ⟨z1, ok2, va2⟩ := d2 z2
    obtain ⟨z0, ok1, va1⟩ := d1 z1
    obtain ⟨x1, x2, x3⟩ := ho z0
    rw [(hR.2 x1).1] at hCl
    have e0 : Y0.2.2.1 = (fun k => if k = 0 then (X.2.2.1 0) + 1 else if 1 + (X.2.2.1 0) * 4 ≤ k ∧ k < 1 + (X.2.2.1 0) * 4 + 4 then (if 12 < 10 then 0 else if k = 1 + (X.2.2.1 0) * 4 then 12 - 10 else 4294967295) else X.2.2.1 k) := by rw [x3]; rfl
    have eR : (pz_it V S 12 r (j + 1) 2 Y0).2.2.1 = (pz_up (pz_up (fun k => if k = 0 then (X.2.2.1 0) + 1 else if 1 + (X.2.2.1 0) * 4 ≤ k ∧ k < 1 + (X.2.2.1 0) * 4 + 4 then (if 12 < 10 then 0 else if k = 1 + (X.2.2.1 0) * 4 then 12 - 10 else 4294967295) else X.2.2.1 k) (1 + ((X.2.2.1 0) * 4 + (0 + 1))) (V (j + 1 + 0))) (1 + ((X.2.2.1 0) * 4 + (1 + 1))) (V (j + 1 + 1))) := by rw [← e0, ← er]; rfl
    rw [eR, rz_pd_C hCl x2, va1, va2]
    exact pz_eqC_12 x2
  · exact absurd hs (by decide)
theorem rz_line_12 {K V S : Nat → Nat} {len j : Nat} {X : pz_X} {Z : rz_Z} (hT : rz_TS K V S len) (hk : K j = 3) (hR : rz_Rg S 1 j X Z) : rz_Re S 1 (pz_ln K V S len 12 j X) (rz_el K S (rz_pd 2 (rz_nu K V S 0 5 (rz_c3 0 30 (S j) (rz_ad Z))).1 (rz_nu K V S 0 10 (rz_nu K V S 0 5 (rz_c3 0 30 (S j) (rz_ad Z))).2).1 4294967295 (rz_nu K V S 0 10 (rz_nu K V S 0 5 (rz_c3 0 30 (S j) (rz_ad Z))).2).2)) := rz_line_12v hT hk hR rfl rfl rfl
theorem pz_eqC_13 {C : Nat → Nat} {v0 v1 : Nat} (hn : C 0 < 30) : pz_up (pz_up (pz_up (pz_up (pz_up C (1 + 4 * C 0) 3) (1 + 4 * C 0 + 1) v0) (1 + 4 * C 0 + 2) v1) (1 + 4 * C 0 + 3) 4294967295) 0 (C 0 + 1) = (pz_up (pz_up (fun k => if k = 0 then (C 0) + 1 else if 1 + (C 0) * 4 ≤ k ∧ k < 1 + (C 0) * 4 + 4 then (if 13 < 10 then 0 else if k = 1 + (C 0) * 4 then 13 - 10 else 4294967295) else C k) (1 + ((C 0) * 4 + (0 + 1))) v0) (1 + ((C 0) * 4 + (1 + 1))) v1) := by
  funext k
  generalize C 0 = n at *
  by_cases y9 : k = 0
  · refine (pz_up_if (by omega)).trans ?_
    refine Eq.symm ?_
    refine (pz_up_ne (by omega)).trans ?_
    refine (pz_up_ne (by omega)).trans ?_
    exact if_pos (by omega)
  by_cases y0 : k = 1 + n * 4 + 0
  · refine (pz_up_ne (by omega)).trans ?_
    refine (pz_up_ne (by omega)).trans ?_
    refine (pz_up_ne (by omega)).trans ?_
    refine (pz_up_ne (by omega)).trans ?_
    refine (pz_up_if (by omega)).trans ?_
    refine Eq.symm ?_
    refine (pz_up_ne (by omega)).trans ?_
    refine (pz_up_ne (by omega)).trans ?_
    refine (if_neg (by omega)).trans ?_
    refine (if_pos (by omega)).trans ?_
    refine (if_neg (by decide)).trans ?_
    exact if_pos (by omega)
  by_cases y1 : k = 1 + n * 4 + 1
  · refine (pz_up_ne (by omega)).trans ?_
    refine (pz_up_ne (by omega)).trans ?_
    refine (pz_up_ne (by omega)).trans ?_
    refine (pz_up_if (by omega)).trans ?_
    refine Eq.symm ?_
    refine (pz_up_ne (by omega)).trans ?_
    exact pz_up_if (by omega)
  by_cases y2 : k = 1 + n * 4 + 2
  · refine (pz_up_ne (by omega)).trans ?_
    refine (pz_up_ne (by omega)).trans ?_
    refine (pz_up_if (by omega)).trans ?_
    refine Eq.symm ?_
    exact pz_up_if (by omega)
  by_cases y3 : k = 1 + n * 4 + 3
  · refine (pz_up_ne (by omega)).trans ?_
    refine (pz_up_if (by omega)).trans ?_
    refine Eq.symm ?_
    refine (pz_up_ne (by omega)).trans ?_
    refine (pz_up_ne (by omega)).trans ?_
    refine (if_neg (by omega)).trans ?_
    refine (if_pos (by omega)).trans ?_
    refine (if_neg (by decide)).trans ?_
    exact if_neg (by omega)
  · refine (pz_up_ne (by omega)).trans ?_
    refine (pz_up_ne (by omega)).trans ?_
    refine (pz_up_ne (by omega)).trans ?_
    refine (pz_up_ne (by omega)).trans ?_
    refine (pz_up_ne (by omega)).trans ?_
    refine Eq.symm ?_
    refine (pz_up_ne (by omega)).trans ?_
    refine (pz_up_ne (by omega)).trans ?_
    refine (if_neg (by omega)).trans ?_
    exact if_neg (by omega)
theorem rz_line_13v {K V S : Nat → Nat} {len j : Nat} {X : pz_X} {Z : rz_Z} (hT : rz_TS K V S len) (hk : K j = 3) (hR : rz_Rg S 1 j X Z) {z0 : rz_Z} (ez0 : (rz_c3 0 30 (S j) (rz_ad Z)) = z0) {a0 : Nat × rz_Z} (ea0 : (rz_nu K V S 0 5 z0) = a0) {a1 : Nat × rz_Z} (ea1 : (rz_nu K V S 0 10 a0.2) = a1) : rz_Re S 1 (pz_ln K V S len 13 j X) (rz_el K S (rz_pd 3 a0.1 a1.1 4294967295 a1.2)) := by
  have hk0 : K j ≠ 0 := by omega
  obtain ⟨h0a, hoa, hg0a⟩ := rz_open (w := 13) hT hk0 rfl hR
  have h0 : rz_Rl S (j + 1) (pz_ow 13 (S j) X).1 (pz_ow 13 (S j) X).2.1 (rz_c3 0 30 (S j) (rz_ad Z)) := h0a
  have hg0 : (rz_c3 0 30 (S j) (rz_ad Z)).2.2.2.1 = Z.2.2.2.1 := hg0a
  have ho : (pz_ow 13 (S j) X).1 = 0 → X.1 = 0 ∧ X.2.2.1 0 < 30 ∧ pz_ow 13 (S j) X = (X.1, X.2.1, pz_ad 13 X.2.2.1, X.2.2.2, 0, 4294967295) := hoa
  clear h0a hg0a hoa
  have hC0 : (rz_c3 0 30 (S j) (rz_ad Z)).2.2.2.2 = Z.2.2.2.2 := rz_c3_C
  rw [ez0] at h0 hg0 hC0
  show rz_Re S 1 (pz_le K S 13 j (pz_nl K V S 13 (X.2.2.1 (pz_ci (pz_rt 13))) (j + 1) len 0 (pz_ow 13 (S j) X))) _
  generalize eY0 : pz_ow 13 (S j) X = Y0 at h0 ho ⊢
  generalize er : X.2.2.1 (pz_ci (pz_rt 13)) = r at ⊢
  have hv0 := (hT (j + 1 + 0)).2.1
  by_cases k0 : K (j + 1 + 0) = 1
  rotate_left
  · have en : pz_nl K V S 13 r (j + 1) len 0 Y0 = (0, Y0) := pz_nl_e (fun g => k0 g.1)
    rw [en]
    have hW : rz_W (j + 1 + 0) (S (j + 1 + 0)) a0.2 := by
      have hW0 : rz_W (j + 1 + 0) (S (j + 1 + 0)) (rz_nu K V S 0 5 z0).2 := h0.no k0
      rw [ea0] at hW0; exact hW0
    have hW1 : rz_W (j + 1 + 0) (S (j + 1 + 0)) a1.2 := by rw [← ea1]; exact hW.nu
    exact rz_fail (by decide) (rz_W.el (rz_W.pd hW1))
  obtain ⟨h1, g1, d1⟩ := rz_stepN (w := 13) (r := r) (i := 0) (lo := 0) (hi := 5) (Y := Y0) hT k0 h0 (fun _ => pz_ffE (by rw [((pz_sgv_13 0).1 rfl)]; decide) (by rw [((pz_sgv_13 0).1 rfl)]; exact (show (V (j + 1 + 0) < 5) ↔ _ by omega)))
  rw [ea0] at h1 g1 d1
  have hC1 : a0.2.2.2.2.2 = z0.2.2.2.2 := by rw [← ea0, rz_nu_C]
  have hv1 := (hT (j + 1 + 1)).2.1
  by_cases k1 : K (j + 1 + 1) = 1
  rotate_left
  · have en : pz_nl K V S 13 r (j + 1) len 0 Y0 = (1, (pz_it V S 13 r (j + 1) 1 Y0)) := (pz_nl_it 1 len (by have := ((hT (j + 1 + 0)).1 (by omega)).2; omega) (fun i hi => by
      rcases (show i = 0 by omega) with rfl
      · exact ⟨k0, by decide⟩)).trans (pz_nl_e (fun g => k1 g.1))
    rw [en]
    have hW : rz_W (j + 1 + 1) (S (j + 1 + 1)) a1.2 := by
      have hW0 : rz_W (j + 1 + 1) (S (j + 1 + 1)) (rz_nu K V S 0 10 a0.2).2 := h1.no k1
      rw [ea1] at hW0; exact hW0
    exact rz_fail (by decide) (rz_W.el (rz_W.pd hW))
  obtain ⟨h2, g2, d2⟩ := rz_stepN (w := 13) (r := r) (i := 1) (lo := 0) (hi := 10) (Y := (pz_it V S 13 r (j + 1) 1 Y0)) hT k1 h1 (fun _ => pz_ffE (by rw [((pz_sgv_13 1).2.1 rfl)]; decide) (by rw [((pz_sgv_13 1).2.1 rfl)]; exact (show (V (j + 1 + 1) < 10) ↔ _ by omega)))
  rw [ea1] at h2 g2 d2
  have hC2 : a1.2.2.2.2.2 = a0.2.2.2.2.2 := by rw [← ea1, rz_nu_C]
  have en : pz_nl K V S 13 r (j + 1) len 0 Y0 = (2, (pz_it V S 13 r (j + 1) 2 Y0)) := (pz_nl_it 2 len (by have := ((hT (j + 1 + 1)).1 (by omega)).2; omega) (fun i hi => by
      rcases (show i = 0 ∨ i = 1 by omega) with rfl | rfl
      · exact ⟨k0, by decide⟩
      · exact ⟨k1, by decide⟩)).trans (pz_nl_e (fun g => g.2 (by decide)))
  rw [en]
  have hCl : a1.2.2.2.2.2 = Z.2.2.2.2 := by rw [hC2, hC1, hC0]
  refine rz_close hT (by decide) (rz_Rn.pd h2) (fun z2 => ⟨?_, fun hs => ?_⟩)
  · obtain ⟨z1, ok2, va2⟩ := d2 z2
    obtain ⟨z0, ok1, va1⟩ := d1 z1
    obtain ⟨x1, x2, x3⟩ := ho z0
    rw [(hR.2 x1).1] at hCl
    have e0 : Y0.2.2.1 = (fun k => if k = 0 then (X.2.2.1 0) + 1 else if 1 + (X.2.2.1 0) * 4 ≤ k ∧ k < 1 + (X.2.2.1 0) * 4 + 4 then (if 13 < 10 then 0 else if k = 1 + (X.2.2.1 0) * 4 then 13 - 10 else 4294967295) else X.2.2.1 k) := by rw [x3]; rfl
    have eR : (pz_it V S 13 r (j + 1) 2 Y0).2.2.1 = (pz_up (pz_up (fun k => if k = 0 then (X.2.2.1 0) + 1 else if 1 + (X.2.2.1 0) * 4 ≤ k ∧ k < 1 + (X.2.2.1 0) * 4 + 4 then (if 13 < 10 then 0 else if k = 1 + (X.2.2.1 0) * 4 then 13 - 10 else 4294967295) else X.2.2.1 k) (1 + ((X.2.2.1 0) * 4 + (0 + 1))) (V (j + 1 + 0))) (1 + ((X.2.2.1 0) * 4 + (1 + 1))) (V (j + 1 + 1))) := by rw [← e0, ← er]; rfl
    rw [eR, rz_pd_C hCl x2, va1, va2]
    exact pz_eqC_13 x2
  · exact absurd hs (by decide)
theorem rz_line_13 {K V S : Nat → Nat} {len j : Nat} {X : pz_X} {Z : rz_Z} (hT : rz_TS K V S len) (hk : K j = 3) (hR : rz_Rg S 1 j X Z) : rz_Re S 1 (pz_ln K V S len 13 j X) (rz_el K S (rz_pd 3 (rz_nu K V S 0 5 (rz_c3 0 30 (S j) (rz_ad Z))).1 (rz_nu K V S 0 10 (rz_nu K V S 0 5 (rz_c3 0 30 (S j) (rz_ad Z))).2).1 4294967295 (rz_nu K V S 0 10 (rz_nu K V S 0 5 (rz_c3 0 30 (S j) (rz_ad Z))).2).2)) := rz_line_13v hT hk hR rfl rfl rfl
theorem pz_eqC_14 {C : Nat → Nat} {v0 v1 : Nat} (hn : C 0 < 30) : pz_up (pz_up (pz_up (pz_up (pz_up C (1 + 4 * C 0) 4) (1 + 4 * C 0 + 1) v0) (1 + 4 * C 0 + 2) v1) (1 + 4 * C 0 + 3) 4294967295) 0 (C 0 + 1) = (pz_up (pz_up (fun k => if k = 0 then (C 0) + 1 else if 1 + (C 0) * 4 ≤ k ∧ k < 1 + (C 0) * 4 + 4 then (if 14 < 10 then 0 else if k = 1 + (C 0) * 4 then 14 - 10 else 4294967295) else C k) (1 + ((C 0) * 4 + (0 + 1))) v0) (1 + ((C 0) * 4 + (1 + 1))) v1) := by
  funext k
  generalize C 0 = n at *
  by_cases y9 : k = 0
  · refine (pz_up_if (by omega)).trans ?_
    refine Eq.symm ?_
    refine (pz_up_ne (by omega)).trans ?_
    refine (pz_up_ne (by omega)).trans ?_
    exact if_pos (by omega)
  by_cases y0 : k = 1 + n * 4 + 0
  · refine (pz_up_ne (by omega)).trans ?_
    refine (pz_up_ne (by omega)).trans ?_
    refine (pz_up_ne (by omega)).trans ?_
    refine (pz_up_ne (by omega)).trans ?_
    refine (pz_up_if (by omega)).trans ?_
    refine Eq.symm ?_
    refine (pz_up_ne (by omega)).trans ?_
    refine (pz_up_ne (by omega)).trans ?_
    refine (if_neg (by omega)).trans ?_
    refine (if_pos (by omega)).trans ?_
    refine (if_neg (by decide)).trans ?_
    exact if_pos (by omega)
  by_cases y1 : k = 1 + n * 4 + 1
  · refine (pz_up_ne (by omega)).trans ?_
    refine (pz_up_ne (by omega)).trans ?_
    refine (pz_up_ne (by omega)).trans ?_
    refine (pz_up_if (by omega)).trans ?_
    refine Eq.symm ?_
    refine (pz_up_ne (by omega)).trans ?_
    exact pz_up_if (by omega)
  by_cases y2 : k = 1 + n * 4 + 2
  · refine (pz_up_ne (by omega)).trans ?_
    refine (pz_up_ne (by omega)).trans ?_
    refine (pz_up_if (by omega)).trans ?_
    refine Eq.symm ?_
    exact pz_up_if (by omega)
  by_cases y3 : k = 1 + n * 4 + 3
  · refine (pz_up_ne (by omega)).trans ?_
    refine (pz_up_if (by omega)).trans ?_
    refine Eq.symm ?_
    refine (pz_up_ne (by omega)).trans ?_
    refine (pz_up_ne (by omega)).trans ?_
    refine (if_neg (by omega)).trans ?_
    refine (if_pos (by omega)).trans ?_
    refine (if_neg (by decide)).trans ?_
    exact if_neg (by omega)
  · refine (pz_up_ne (by omega)).trans ?_
    refine (pz_up_ne (by omega)).trans ?_
    refine (pz_up_ne (by omega)).trans ?_
    refine (pz_up_ne (by omega)).trans ?_
    refine (pz_up_ne (by omega)).trans ?_
    refine Eq.symm ?_
    refine (pz_up_ne (by omega)).trans ?_
    refine (pz_up_ne (by omega)).trans ?_
    refine (if_neg (by omega)).trans ?_
    exact if_neg (by omega)
theorem rz_line_14v {K V S : Nat → Nat} {len j : Nat} {X : pz_X} {Z : rz_Z} (hT : rz_TS K V S len) (hk : K j = 3) (hR : rz_Rg S 1 j X Z) {z0 : rz_Z} (ez0 : (rz_c3 0 30 (S j) (rz_ad Z)) = z0) {a0 : Nat × rz_Z} (ea0 : (rz_nu K V S 0 5 z0) = a0) {a1 : Nat × rz_Z} (ea1 : (rz_nu K V S 0 10 a0.2) = a1) : rz_Re S 1 (pz_ln K V S len 14 j X) (rz_el K S (rz_pd 4 a0.1 a1.1 4294967295 a1.2)) := by
  have hk0 : K j ≠ 0 := by omega
  obtain ⟨h0a, hoa, hg0a⟩ := rz_open (w := 14) hT hk0 rfl hR
  have h0 : rz_Rl S (j + 1) (pz_ow 14 (S j) X).1 (pz_ow 14 (S j) X).2.1 (rz_c3 0 30 (S j) (rz_ad Z)) := h0a
  have hg0 : (rz_c3 0 30 (S j) (rz_ad Z)).2.2.2.1 = Z.2.2.2.1 := hg0a
  have ho : (pz_ow 14 (S j) X).1 = 0 → X.1 = 0 ∧ X.2.2.1 0 < 30 ∧ pz_ow 14 (S j) X = (X.1, X.2.1, pz_ad 14 X.2.2.1, X.2.2.2, 0, 4294967295) := hoa
  clear h0a hg0a hoa
  have hC0 : (rz_c3 0 30 (S j) (rz_ad Z)).2.2.2.2 = Z.2.2.2.2 := rz_c3_C
  rw [ez0] at h0 hg0 hC0
  show rz_Re S 1 (pz_le K S 14 j (pz_nl K V S 14 (X.2.2.1 (pz_ci (pz_rt 14))) (j + 1) len 0 (pz_ow 14 (S j) X))) _
  generalize eY0 : pz_ow 14 (S j) X = Y0 at h0 ho ⊢
  generalize er : X.2.2.1 (pz_ci (pz_rt 14)) = r at ⊢
  have hv0 := (hT (j + 1 + 0)).2.1
  by_cases k0 : K (j + 1 + 0) = 1
  rotate_left
  · have en : pz_nl K V S 14 r (j + 1) len 0 Y0 = (0, Y0) := pz_nl_e (fun g => k0 g.1)
    rw [en]
    have hW : rz_W (j + 1 + 0) (S (j + 1 + 0)) a0.2 := by
      have hW0 : rz_W (j + 1 + 0) (S (j + 1 + 0)) (rz_nu K V S 0 5 z0).2 := h0.no k0
      rw [ea0] at hW0; exact hW0
    have hW1 : rz_W (j + 1 + 0) (S (j + 1 + 0)) a1.2 := by rw [← ea1]; exact hW.nu
    exact rz_fail (by decide) (rz_W.el (rz_W.pd hW1))
  obtain ⟨h1, g1, d1⟩ := rz_stepN (w := 14) (r := r) (i := 0) (lo := 0) (hi := 5) (Y := Y0) hT k0 h0 (fun _ => pz_ffE (by rw [((pz_sgv_14 0).1 rfl)]; decide) (by rw [((pz_sgv_14 0).1 rfl)]; exact (show (V (j + 1 + 0) < 5) ↔ _ by omega)))
  rw [ea0] at h1 g1 d1
  have hC1 : a0.2.2.2.2.2 = z0.2.2.2.2 := by rw [← ea0, rz_nu_C]
  have hv1 := (hT (j + 1 + 1)).2.1
  by_cases k1 : K (j + 1 + 1) = 1
  rotate_left
  · have en : pz_nl K V S 14 r (j + 1) len 0 Y0 = (1, (pz_it V S 14 r (j + 1) 1 Y0)) := (pz_nl_it 1 len (by have := ((hT (j + 1 + 0)).1 (by omega)).2; omega) (fun i hi => by
      rcases (show i = 0 by omega) with rfl
      · exact ⟨k0, by decide⟩)).trans (pz_nl_e (fun g => k1 g.1))
    rw [en]
    have hW : rz_W (j + 1 + 1) (S (j + 1 + 1)) a1.2 := by
      have hW0 : rz_W (j + 1 + 1) (S (j + 1 + 1)) (rz_nu K V S 0 10 a0.2).2 := h1.no k1
      rw [ea1] at hW0; exact hW0
    exact rz_fail (by decide) (rz_W.el (rz_W.pd hW))
  obtain ⟨h2, g2, d2⟩ := rz_stepN (w := 14) (r := r) (i := 1) (lo := 0) (hi := 10) (Y := (pz_it V S 14 r (j + 1) 1 Y0)) hT k1 h1 (fun _ => pz_ffE (by rw [((pz_sgv_14 1).2.1 rfl)]; decide) (by rw [((pz_sgv_14 1).2.1 rfl)]; exact (show (V (j + 1 + 1) < 10) ↔ _ by omega)))
  rw [ea1] at h2 g2 d2
  have hC2 : a1.2.2.2.2.2 = a0.2.2.2.2.2 := by rw [← ea1, rz_nu_C]
  have en : pz_nl K V S 14 r (j + 1) len 0 Y0 = (2, (pz_it V S 14 r (j + 1) 2 Y0)) := (pz_nl_it 2 len (by have := ((hT (j + 1 + 1)).1 (by omega)).2; omega) (fun i hi => by
      rcases (show i = 0 ∨ i = 1 by omega) with rfl | rfl
      · exact ⟨k0, by decide⟩
      · exact ⟨k1, by decide⟩)).trans (pz_nl_e (fun g => g.2 (by decide)))
  rw [en]
  have hCl : a1.2.2.2.2.2 = Z.2.2.2.2 := by rw [hC2, hC1, hC0]
  refine rz_close hT (by decide) (rz_Rn.pd h2) (fun z2 => ⟨?_, fun hs => ?_⟩)
  · obtain ⟨z1, ok2, va2⟩ := d2 z2
    obtain ⟨z0, ok1, va1⟩ := d1 z1
    obtain ⟨x1, x2, x3⟩ := ho z0
    rw [(hR.2 x1).1] at hCl
    have e0 : Y0.2.2.1 = (fun k => if k = 0 then (X.2.2.1 0) + 1 else if 1 + (X.2.2.1 0) * 4 ≤ k ∧ k < 1 + (X.2.2.1 0) * 4 + 4 then (if 14 < 10 then 0 else if k = 1 + (X.2.2.1 0) * 4 then 14 - 10 else 4294967295) else X.2.2.1 k) := by rw [x3]; rfl
    have eR : (pz_it V S 14 r (j + 1) 2 Y0).2.2.1 = (pz_up (pz_up (fun k => if k = 0 then (X.2.2.1 0) + 1 else if 1 + (X.2.2.1 0) * 4 ≤ k ∧ k < 1 + (X.2.2.1 0) * 4 + 4 then (if 14 < 10 then 0 else if k = 1 + (X.2.2.1 0) * 4 then 14 - 10 else 4294967295) else X.2.2.1 k) (1 + ((X.2.2.1 0) * 4 + (0 + 1))) (V (j + 1 + 0))) (1 + ((X.2.2.1 0) * 4 + (1 + 1))) (V (j + 1 + 1))) := by rw [← e0, ← er]; rfl
    rw [eR, rz_pd_C hCl x2, va1, va2]
    exact pz_eqC_14 x2
  · exact absurd hs (by decide)
theorem rz_line_14 {K V S : Nat → Nat} {len j : Nat} {X : pz_X} {Z : rz_Z} (hT : rz_TS K V S len) (hk : K j = 3) (hR : rz_Rg S 1 j X Z) : rz_Re S 1 (pz_ln K V S len 14 j X) (rz_el K S (rz_pd 4 (rz_nu K V S 0 5 (rz_c3 0 30 (S j) (rz_ad Z))).1 (rz_nu K V S 0 10 (rz_nu K V S 0 5 (rz_c3 0 30 (S j) (rz_ad Z))).2).1 4294967295 (rz_nu K V S 0 10 (rz_nu K V S 0 5 (rz_c3 0 30 (S j) (rz_ad Z))).2).2)) := rz_line_14v hT hk hR rfl rfl rfl
theorem pz_eqC_15 {C : Nat → Nat} {v0 v1 v2 : Nat} (hn : C 0 < 30) : pz_up (pz_up (pz_up (pz_up (pz_up C (1 + 4 * C 0) 5) (1 + 4 * C 0 + 1) v0) (1 + 4 * C 0 + 2) v1) (1 + 4 * C 0 + 3) v2) 0 (C 0 + 1) = (pz_up (pz_up (pz_up (fun k => if k = 0 then (C 0) + 1 else if 1 + (C 0) * 4 ≤ k ∧ k < 1 + (C 0) * 4 + 4 then (if 15 < 10 then 0 else if k = 1 + (C 0) * 4 then 15 - 10 else 4294967295) else C k) (1 + ((C 0) * 4 + (0 + 1))) v0) (1 + ((C 0) * 4 + (1 + 1))) v1) (1 + ((C 0) * 4 + (2 + 1))) v2) := by
  funext k
  generalize C 0 = n at *
  by_cases y9 : k = 0
  · refine (pz_up_if (by omega)).trans ?_
    refine Eq.symm ?_
    refine (pz_up_ne (by omega)).trans ?_
    refine (pz_up_ne (by omega)).trans ?_
    refine (pz_up_ne (by omega)).trans ?_
    exact if_pos (by omega)
  by_cases y0 : k = 1 + n * 4 + 0
  · refine (pz_up_ne (by omega)).trans ?_
    refine (pz_up_ne (by omega)).trans ?_
    refine (pz_up_ne (by omega)).trans ?_
    refine (pz_up_ne (by omega)).trans ?_
    refine (pz_up_if (by omega)).trans ?_
    refine Eq.symm ?_
    refine (pz_up_ne (by omega)).trans ?_
    refine (pz_up_ne (by omega)).trans ?_
    refine (pz_up_ne (by omega)).trans ?_
    refine (if_neg (by omega)).trans ?_
    refine (if_pos (by omega)).trans ?_
    refine (if_neg (by decide)).trans ?_
    exact if_pos (by omega)
  by_cases y1 : k = 1 + n * 4 + 1
  · refine (pz_up_ne (by omega)).trans ?_
    refine (pz_up_ne (by omega)).trans ?_
    refine (pz_up_ne (by omega)).trans ?_
    refine (pz_up_if (by omega)).trans ?_
    refine Eq.symm ?_
    refine (pz_up_ne (by omega)).trans ?_
    refine (pz_up_ne (by omega)).trans ?_
    exact pz_up_if (by omega)
  by_cases y2 : k = 1 + n * 4 + 2
  · refine (pz_up_ne (by omega)).trans ?_
    refine (pz_up_ne (by omega)).trans ?_
    refine (pz_up_if (by omega)).trans ?_
    refine Eq.symm ?_
    refine (pz_up_ne (by omega)).trans ?_
    exact pz_up_if (by omega)
  by_cases y3 : k = 1 + n * 4 + 3
  · refine (pz_up_ne (by omega)).trans ?_
    refine (pz_up_if (by omega)).trans ?_
    refine Eq.symm ?_
    exact pz_up_if (by omega)
  · refine (pz_up_ne (by omega)).trans ?_
    refine (pz_up_ne (by omega)).trans ?_
    refine (pz_up_ne (by omega)).trans ?_
    refine (pz_up_ne (by omega)).trans ?_
    refine (pz_up_ne (by omega)).trans ?_
    refine Eq.symm ?_
    refine (pz_up_ne (by omega)).trans ?_
    refine (pz_up_ne (by omega)).trans ?_
    refine (pz_up_ne (by omega)).trans ?_
    refine (if_neg (by omega)).trans ?_
    exact if_neg (by omega)
theorem rz_line_15v {K V S : Nat → Nat} {len j : Nat} {X : pz_X} {Z : rz_Z} (hT : rz_TS K V S len) (hk : K j = 3) (hR : rz_Rg S 1 j X Z) {z0 : rz_Z} (ez0 : (rz_c3 0 30 (S j) (rz_ad Z)) = z0) {a0 : Nat × rz_Z} (ea0 : (rz_nu K V S 0 5 z0) = a0) {a1 : Nat × rz_Z} (ea1 : (rz_nu K V S 0 5 (rz_dup K V S a0.1 a0.2)) = a1) {a2 : Nat × rz_Z} (ea2 : (rz_nu K V S 0 10 a1.2) = a2) : rz_Re S 1 (pz_ln K V S len 15 j X) (rz_el K S (rz_pd 5 a0.1 a1.1 a2.1 a2.2)) := by
  have hk0 : K j ≠ 0 := by omega
  obtain ⟨h0a, hoa, hg0a⟩ := rz_open (w := 15) hT hk0 rfl hR
  have h0 : rz_Rl S (j + 1) (pz_ow 15 (S j) X).1 (pz_ow 15 (S j) X).2.1 (rz_c3 0 30 (S j) (rz_ad Z)) := h0a
  have hg0 : (rz_c3 0 30 (S j) (rz_ad Z)).2.2.2.1 = Z.2.2.2.1 := hg0a
  have ho : (pz_ow 15 (S j) X).1 = 0 → X.1 = 0 ∧ X.2.2.1 0 < 30 ∧ pz_ow 15 (S j) X = (X.1, X.2.1, pz_ad 15 X.2.2.1, X.2.2.2, 0, 4294967295) := hoa
  clear h0a hg0a hoa
  have hC0 : (rz_c3 0 30 (S j) (rz_ad Z)).2.2.2.2 = Z.2.2.2.2 := rz_c3_C
  rw [ez0] at h0 hg0 hC0
  show rz_Re S 1 (pz_le K S 15 j (pz_nl K V S 15 (X.2.2.1 (pz_ci (pz_rt 15))) (j + 1) len 0 (pz_ow 15 (S j) X))) _
  generalize eY0 : pz_ow 15 (S j) X = Y0 at h0 ho ⊢
  generalize er : X.2.2.1 (pz_ci (pz_rt 15)) = r at ⊢
  have hv0 := (hT (j + 1 + 0)).2.1
  by_cases k0 : K (j + 1 + 0) = 1
  rotate_left
  · have en : pz_nl K V S 15 r (j + 1) len 0 Y0 = (0, Y0) := pz_nl_e (fun g => k0 g.1)
    rw [en]
    have hW : rz_W (j + 1 + 0) (S (j + 1 + 0)) a0.2 := by
      have hW0 : rz_W (j + 1 + 0) (S (j + 1 + 0)) (rz_nu K V S 0 5 z0).2 := h0.no k0
      rw [ea0] at hW0; exact hW0
    have hW1 : rz_W (j + 1 + 0) (S (j + 1 + 0)) a1.2 := by rw [← ea1]; exact (hW.dup).nu
    have hW2 : rz_W (j + 1 + 0) (S (j + 1 + 0)) a2.2 := by rw [← ea2]; exact hW1.nu
    exact rz_fail (by decide) (rz_W.el (rz_W.pd hW2))
  obtain ⟨h1, g1, d1⟩ := rz_stepN (w := 15) (r := r) (i := 0) (lo := 0) (hi := 5) (Y := Y0) hT k0 h0 (fun _ => pz_ffE (by rw [((pz_sgv_15 0).1 rfl)]; decide) (by rw [((pz_sgv_15 0).1 rfl)]; exact (show (V (j + 1 + 0) < 5) ↔ _ by omega)))
  rw [ea0] at h1 g1 d1
  have hC1 : a0.2.2.2.2.2 = z0.2.2.2.2 := by rw [← ea0, rz_nu_C]
  have hv1 := (hT (j + 1 + 1)).2.1
  by_cases k1 : K (j + 1 + 1) = 1
  rotate_left
  · have en : pz_nl K V S 15 r (j + 1) len 0 Y0 = (1, (pz_it V S 15 r (j + 1) 1 Y0)) := (pz_nl_it 1 len (by have := ((hT (j + 1 + 0)).1 (by omega)).2; omega) (fun i hi => by
      rcases (show i = 0 by omega) with rfl
      · exact ⟨k0, by decide⟩)).trans (pz_nl_e (fun g => k1 g.1))
    rw [en]
    have hdn : (rz_dup K V S a0.1 a0.2) = a0.2 := if_neg (fun g => k1 (by rw [← h1.1]; exact g.1))
    have hW : rz_W (j + 1 + 1) (S (j + 1 + 1)) a1.2 := by
      have hW0 : rz_W (j + 1 + 1) (S (j + 1 + 1)) (rz_nu K V S 0 5 (rz_dup K V S a0.1 a0.2)).2 := by rw [hdn]; exact h1.no k1
      rw [ea1] at hW0; exact hW0
    have hW2 : rz_W (j + 1 + 1) (S (j + 1 + 1)) a2.2 := by rw [← ea2]; exact hW.nu
    exact rz_fail (by decide) (rz_W.el (rz_W.pd hW2))
  obtain ⟨h2, g2, d2⟩ := rz_stepD (w := 15) (r := r) (i := 1) (hi := 5) (a := a0.1) (Y := (pz_it V S 15 r (j + 1) 1 Y0)) hT k1 h1 (fun z => by
    obtain ⟨z0, ok1, va1⟩ := d1 z
    have efi : (pz_it V S 15 r (j + 1) 1 Y0).2.2.2.2.2 = V (j + 1 + 0) := rfl
    refine pz_ffE (by rw [((pz_sgv_15 1).2.1 rfl)]; decide) ?_
    rw [((pz_sgv_15 1).2.1 rfl), efi, va1]
    exact Iff.rfl)
  rw [ea1] at h2 g2 d2
  have hC2 : a1.2.2.2.2.2 = a0.2.2.2.2.2 := by rw [← ea1, rz_nu_C, rz_dup_C]
  have hv2 := (hT (j + 1 + 2)).2.1
  by_cases k2 : K (j + 1 + 2) = 1
  rotate_left
  · have en : pz_nl K V S 15 r (j + 1) len 0 Y0 = (2, (pz_it V S 15 r (j + 1) 2 Y0)) := (pz_nl_it 2 len (by have := ((hT (j + 1 + 1)).1 (by omega)).2; omega) (fun i hi => by
      rcases (show i = 0 ∨ i = 1 by omega) with rfl | rfl
      · exact ⟨k0, by decide⟩
      · exact ⟨k1, by decide⟩)).trans (pz_nl_e (fun g => k2 g.1))
    rw [en]
    have hW : rz_W (j + 1 + 2) (S (j + 1 + 2)) a2.2 := by
      have hW0 : rz_W (j + 1 + 2) (S (j + 1 + 2)) (rz_nu K V S 0 10 a1.2).2 := h2.no k2
      rw [ea2] at hW0; exact hW0
    exact rz_fail (by decide) (rz_W.el (rz_W.pd hW))
  obtain ⟨h3, g3, d3⟩ := rz_stepN (w := 15) (r := r) (i := 2) (lo := 0) (hi := 10) (Y := (pz_it V S 15 r (j + 1) 2 Y0)) hT k2 h2 (fun _ => pz_ffE (by rw [((pz_sgv_15 2).2.2.1 rfl)]; decide) (by rw [((pz_sgv_15 2).2.2.1 rfl)]; exact (show (V (j + 1 + 2) < 10) ↔ _ by omega)))
  rw [ea2] at h3 g3 d3
  have hC3 : a2.2.2.2.2.2 = a1.2.2.2.2.2 := by rw [← ea2, rz_nu_C]
  have en : pz_nl K V S 15 r (j + 1) len 0 Y0 = (3, (pz_it V S 15 r (j + 1) 3 Y0)) := (pz_nl_it 3 len (by have := ((hT (j + 1 + 2)).1 (by omega)).2; omega) (fun i hi => by
      rcases (show i = 0 ∨ i = 1 ∨ i = 2 by omega) with rfl | rfl | rfl
      · exact ⟨k0, by decide⟩
      · exact ⟨k1, by decide⟩
      · exact ⟨k2, by decide⟩)).trans (pz_nl_e (fun g => g.2 (by decide)))
  rw [en]
  have hCl : a2.2.2.2.2.2 = Z.2.2.2.2 := by rw [hC3, hC2, hC1, hC0]
  refine rz_close hT (by decide) (rz_Rn.pd h3) (fun z3 => ⟨?_, fun hs => ?_⟩)
  · obtain ⟨z2, ok3, va3⟩ := d3 z3
    obtain ⟨z1, ok2, va2⟩ := d2 z2
    obtain ⟨z0, ok1, va1⟩ := d1 z1
    obtain ⟨x1, x2, x3⟩ := ho z0
    rw [(hR.2 x1).1] at hCl
    have e0 : Y0.2.2.1 = (fun k => if k = 0 then (X.2.2.1 0) + 1 else if 1 + (X.2.2.1 0) * 4 ≤ k ∧ k < 1 + (X.2.2.1 0) * 4 + 4 then (if 15 < 10 then 0 else if k = 1 + (X.2.2.1 0) * 4 then 15 - 10 else 4294967295) else X.2.2.1 k) := by rw [x3]; rfl
    have eR : (pz_it V S 15 r (j + 1) 3 Y0).2.2.1 = (pz_up (pz_up (pz_up (fun k => if k = 0 then (X.2.2.1 0) + 1 else if 1 + (X.2.2.1 0) * 4 ≤ k ∧ k < 1 + (X.2.2.1 0) * 4 + 4 then (if 15 < 10 then 0 else if k = 1 + (X.2.2.1 0) * 4 then 15 - 10 else 4294967295) else X.2.2.1 k) (1 + ((X.2.2.1 0) * 4 + (0 + 1))) (V (j + 1 + 0))) (1 + ((X.2.2.1 0) * 4 + (1 + 1))) (V (j + 1 + 1))) (1 + ((X.2.2.1 0) * 4 + (2 + 1))) (V (j + 1 + 2))) := by rw [← e0, ← er]; rfl
    rw [eR, rz_pd_C hCl x2, va1, va2, va3]
    exact pz_eqC_15 x2
  · exact absurd hs (by decide)
theorem rz_line_15 {K V S : Nat → Nat} {len j : Nat} {X : pz_X} {Z : rz_Z} (hT : rz_TS K V S len) (hk : K j = 3) (hR : rz_Rg S 1 j X Z) : rz_Re S 1 (pz_ln K V S len 15 j X) (rz_el K S (rz_pd 5 (rz_nu K V S 0 5 (rz_c3 0 30 (S j) (rz_ad Z))).1 (rz_nu K V S 0 5 (rz_dup K V S (rz_nu K V S 0 5 (rz_c3 0 30 (S j) (rz_ad Z))).1 (rz_nu K V S 0 5 (rz_c3 0 30 (S j) (rz_ad Z))).2)).1 (rz_nu K V S 0 10 (rz_nu K V S 0 5 (rz_dup K V S (rz_nu K V S 0 5 (rz_c3 0 30 (S j) (rz_ad Z))).1 (rz_nu K V S 0 5 (rz_c3 0 30 (S j) (rz_ad Z))).2)).2).1 (rz_nu K V S 0 10 (rz_nu K V S 0 5 (rz_dup K V S (rz_nu K V S 0 5 (rz_c3 0 30 (S j) (rz_ad Z))).1 (rz_nu K V S 0 5 (rz_c3 0 30 (S j) (rz_ad Z))).2)).2).2)) := rz_line_15v hT hk hR rfl rfl rfl rfl
theorem pz_eqC_16 {C : Nat → Nat} (hn : C 0 < 30) : pz_up (pz_up (pz_up (pz_up (pz_up C (1 + 4 * C 0) 6) (1 + 4 * C 0 + 1) 4294967295) (1 + 4 * C 0 + 2) 4294967295) (1 + 4 * C 0 + 3) 4294967295) 0 (C 0 + 1) = (fun k => if k = 0 then (C 0) + 1 else if 1 + (C 0) * 4 ≤ k ∧ k < 1 + (C 0) * 4 + 4 then (if 16 < 10 then 0 else if k = 1 + (C 0) * 4 then 16 - 10 else 4294967295) else C k) := by
  funext k
  generalize C 0 = n at *
  by_cases y9 : k = 0
  · refine (pz_up_if (by omega)).trans ?_
    refine Eq.symm ?_
    exact if_pos (by omega)
  by_cases y0 : k = 1 + n * 4 + 0
  · refine (pz_up_ne (by omega)).trans ?_
    refine (pz_up_ne (by omega)).trans ?_
    refine (pz_up_ne (by omega)).trans ?_
    refine (pz_up_ne (by omega)).trans ?_
    refine (pz_up_if (by omega)).trans ?_
    refine Eq.symm ?_
    refine (if_neg (by omega)).trans ?_
    refine (if_pos (by omega)).trans ?_
    refine (if_neg (by decide)).trans ?_
    exact if_pos (by omega)
  by_cases y1 : k = 1 + n * 4 + 1
  · refine (pz_up_ne (by omega)).trans ?_
    refine (pz_up_ne (by omega)).trans ?_
    refine (pz_up_ne (by omega)).trans ?_
    refine (pz_up_if (by omega)).trans ?_
    refine Eq.symm ?_
    refine (if_neg (by omega)).trans ?_
    refine (if_pos (by omega)).trans ?_
    refine (if_neg (by decide)).trans ?_
    exact if_neg (by omega)
  by_cases y2 : k = 1 + n * 4 + 2
  · refine (pz_up_ne (by omega)).trans ?_
    refine (pz_up_ne (by omega)).trans ?_
    refine (pz_up_if (by omega)).trans ?_
    refine Eq.symm ?_
    refine (if_neg (by omega)).trans ?_
    refine (if_pos (by omega)).trans ?_
    refine (if_neg (by decide)).trans ?_
    exact if_neg (by omega)
  by_cases y3 : k = 1 + n * 4 + 3
  · refine (pz_up_ne (by omega)).trans ?_
    refine (pz_up_if (by omega)).trans ?_
    refine Eq.symm ?_
    refine (if_neg (by omega)).trans ?_
    refine (if_pos (by omega)).trans ?_
    refine (if_neg (by decide)).trans ?_
    exact if_neg (by omega)
  · refine (pz_up_ne (by omega)).trans ?_
    refine (pz_up_ne (by omega)).trans ?_
    refine (pz_up_ne (by omega)).trans ?_
    refine (pz_up_ne (by omega)).trans ?_
    refine (pz_up_ne (by omega)).trans ?_
    refine Eq.symm ?_
    refine (if_neg (by omega)).trans ?_
    exact if_neg (by omega)
theorem rz_line_16v {K V S : Nat → Nat} {len j : Nat} {X : pz_X} {Z : rz_Z} (hT : rz_TS K V S len) (hk : K j = 3) (hR : rz_Rg S 1 j X Z) {z0 : rz_Z} (ez0 : (rz_c3 0 30 (S j) (rz_ad Z)) = z0) : rz_Re S 1 (pz_ln K V S len 16 j X) (rz_el K S (rz_pd 6 4294967295 4294967295 4294967295 z0)) := by
  have hk0 : K j ≠ 0 := by omega
  obtain ⟨h0a, hoa, hg0a⟩ := rz_open (w := 16) hT hk0 rfl hR
  have h0 : rz_Rl S (j + 1) (pz_ow 16 (S j) X).1 (pz_ow 16 (S j) X).2.1 (rz_c3 0 30 (S j) (rz_ad Z)) := h0a
  have hg0 : (rz_c3 0 30 (S j) (rz_ad Z)).2.2.2.1 = Z.2.2.2.1 := hg0a
  have ho : (pz_ow 16 (S j) X).1 = 0 → X.1 = 0 ∧ X.2.2.1 0 < 30 ∧ pz_ow 16 (S j) X = (X.1, X.2.1, pz_ad 16 X.2.2.1, X.2.2.2, 0, 4294967295) := hoa
  clear h0a hg0a hoa
  have hC0 : (rz_c3 0 30 (S j) (rz_ad Z)).2.2.2.2 = Z.2.2.2.2 := rz_c3_C
  rw [ez0] at h0 hg0 hC0
  show rz_Re S 1 (pz_le K S 16 j (pz_nl K V S 16 (X.2.2.1 (pz_ci (pz_rt 16))) (j + 1) len 0 (pz_ow 16 (S j) X))) _
  generalize eY0 : pz_ow 16 (S j) X = Y0 at h0 ho ⊢
  generalize er : X.2.2.1 (pz_ci (pz_rt 16)) = r at ⊢
  have en : pz_nl K V S 16 r (j + 1) len 0 Y0 = (0, Y0) := pz_nl_e (fun g => g.2 (by decide))
  rw [en]
  have hCl : z0.2.2.2.2 = Z.2.2.2.2 := by rw [hC0]
  refine rz_close hT (by decide) (rz_Rn.pd h0) (fun z0 => ⟨?_, fun hs => ?_⟩)
  · obtain ⟨x1, x2, x3⟩ := ho z0
    rw [(hR.2 x1).1] at hCl
    have e0 : Y0.2.2.1 = (fun k => if k = 0 then (X.2.2.1 0) + 1 else if 1 + (X.2.2.1 0) * 4 ≤ k ∧ k < 1 + (X.2.2.1 0) * 4 + 4 then (if 16 < 10 then 0 else if k = 1 + (X.2.2.1 0) * 4 then 16 - 10 else 4294967295) else X.2.2.1 k) := by rw [x3]; rfl
    have eR : Y0.2.2.1 = (fun k => if k = 0 then (X.2.2.1 0) + 1 else if 1 + (X.2.2.1 0) * 4 ≤ k ∧ k < 1 + (X.2.2.1 0) * 4 + 4 then (if 16 < 10 then 0 else if k = 1 + (X.2.2.1 0) * 4 then 16 - 10 else 4294967295) else X.2.2.1 k) := by exact e0
    rw [eR, rz_pd_C hCl x2]
    exact pz_eqC_16 x2
  · exact absurd hs (by decide)
theorem rz_line_16 {K V S : Nat → Nat} {len j : Nat} {X : pz_X} {Z : rz_Z} (hT : rz_TS K V S len) (hk : K j = 3) (hR : rz_Rg S 1 j X Z) : rz_Re S 1 (pz_ln K V S len 16 j X) (rz_el K S (rz_pd 6 4294967295 4294967295 4294967295 (rz_c3 0 30 (S j) (rz_ad Z)))) := rz_line_16v hT hk hR rfl 
