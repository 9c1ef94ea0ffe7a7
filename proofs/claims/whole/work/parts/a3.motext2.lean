/-! a text is told: the reference, its lines -/
theorem fg_ML.hd9 {m m' : Nat → Int32} {A : fg_Tl} (h : fg_ML m (A.hd 0 0 (-1))) {k : Nat} {p : Int32} (hd3 : A.dc ≤ 3) (ht2 : A.tc ≤ 2) (hm : ∀ j, j ≠ 3 → j ≠ 4 → m' j = m j) (h3 : m' 3 = nI k) (h4 : m' 4 = p) : fg_ML m' (A.hd 0 k p) := by
  obtain ⟨⟨g0, g1, g2, -, -⟩, -, h5, h6⟩ := h
  exact ⟨⟨(hm 0 (by decide) (by decide)).trans g0, (hm 1 (by decide) (by decide)).trans g1, (hm 2 (by decide) (by decide)).trans g2, h3, h4⟩, fun j hj => absurd (show j < 0 from hj) (Nat.not_lt_zero _), fun k hk => ⟨(h5 k hk).1, fun i hi => (hm _ (by omega) (by omega)).trans ((h5 k hk).2 i hi)⟩, fun k hk => ⟨(hm _ (by omega) (by omega)).trans (h6 k hk).1, fun i hi => (hm _ (by omega) (by omega)).trans ((h6 k hk).2 i hi)⟩⟩
theorem rz_Re_f {S : Nat → Nat} {sort : Nat} {s : Nat × pz_X} {Z : rz_Z} (h : rz_Re S sort s Z) : Z.2.1 = s.2.1 ∧ (s.2.1 ≠ 0 → Z.2.2.1 = s.2.2.1) ∧ (s.2.1 = 0 → Z.2.2.2.2 = s.2.2.2.1 ∧ (sort = 0 → rz_gt Z.2.2.2.1 s.2.2.2.2)) := by
  by_cases c : s.2.1 = 1
  · obtain ⟨a, b, d⟩ := h.1 c
    exact ⟨b.trans c.symm, fun _ => d, fun g => absurd (c.symm.trans g) (by decide)⟩
  · obtain ⟨⟨h1, h2, h3, h4, h5⟩, h6⟩ := h.2 c
    by_cases z : s.2.1 = 0
    · exact ⟨(h5 z).1.trans z.symm, fun g => absurd z g, h6⟩
    · exact ⟨(h4 z).2.1, fun _ => (h4 z).2.2, fun g => absurd g z⟩
def fg_agY (μ μ' : Nat → Nat → Int32) : Prop := (∀ a, a ≠ 287 → a ≠ 288 → a ≠ 290 → ∀ j, μ' a j = μ a j) ∧ (∀ j, 9 < j → μ' 287 j = μ 287 j) ∧ ∀ j, 1280 ≤ j → μ' 288 j = μ 288 j
theorem fg_agY_rf (μ : Nat → Nat → Int32) : fg_agY μ μ := ⟨fun _ _ _ _ _ => rfl, fun _ _ => rfl, fun _ _ => rfl⟩
theorem fg_agY_tr {μ μ' μ'' : Nat → Nat → Int32} (h1 : fg_agY μ μ') (h2 : fg_agY μ' μ'') : fg_agY μ μ'' := ⟨fun a a1 a2 a3 j => (h2.1 a a1 a2 a3 j).trans (h1.1 a a1 a2 a3 j), fun j hj => (h2.2.1 j hj).trans (h1.2.1 j hj), fun j hj => (h2.2.2 j hj).trans (h1.2.2 j hj)⟩
theorem rz_ag.y {μ μ' : Nat → Nat → Int32} (h : rz_ag μ μ') : fg_agY μ μ' := ⟨fun a a1 a2 a3 j => h a j (Or.inl a1) (Or.inl a2) a3, fun j hj => h 287 j (Or.inr (Or.inr hj)) (Or.inl (by decide)) (by decide), fun j hj => h 288 j (Or.inl (by decide)) (Or.inr ⟨by omega, by omega⟩) (by decide)⟩
theorem fg_agY_put {μ μ' : Nat → Nat → Int32} (h1 : ∀ a, a ≠ 288 → ∀ x, μ' a x = μ a x) (h2 : ∀ x, 1280 ≤ x → μ' 288 x = μ 288 x) : fg_agY μ μ' := ⟨fun a _ a2 _ j => h1 a a2 j, fun j _ => h1 287 (by decide) j, h2⟩
theorem pz_re_0 {len sort : Nat} {X : pz_X} (h : ¬ (X.1 = 0 ∧ sort = 0 ∧ ¬ X.2.2.2 < 2 ^ X.2.2.1 0)) : pz_re len sort X = (X.1, X.2.1, X.2.2.1) := if_neg h
theorem pz_re_4 {len sort : Nat} {X : pz_X} (h : X.1 = 0 ∧ sort = 0 ∧ ¬ X.2.2.2 < 2 ^ X.2.2.1 0) : pz_re len sort X = (4, len, X.2.2.1) := if_pos h
theorem rz_tx_end0 {E : fg_E} {d : Nat} {μ : Nat → Nat → Int32} {R : fg_T4} {Q : Option Value → fg_M → Prop} {b : Nat → Nat} {len : Nat} {Z : rz_Z} (hle : len ≤ 600) (hb256 : ∀ j, b j < 256) (h : rz_RZ μ b len Z) {A : fg_Tl} {m0 : Nat → Int32} {sX : Nat × pz_X} {a p : Nat} {v3 v4 v5 : Value} (ha : a < 2 ^ 32) (hw : fg_wA A) (hML : fg_ML m0 (A.hd 0 0 (-1))) (hm0 : ∀ j, j ≠ 3 → j ≠ 4 → μ 288 j = m0 j) (hRe : rz_Re (pz_S b len) 0 sX Z) (hfin : Z.2.1 ≠ 1 → pz_K b len Z.1 = 0) (hI : sX.2.1 = 0 → pz_I9 0 sX.2) (hrd : pz_rd b len 0 = pz_re len 0 sX.2) (hp : p < 2) (hpe : (a = 4294967295 → p = A.tc) ∧ (¬ a = 4294967295 → p = a ∧ a < A.tc)) (hQ : ∀ μ' : Nat → Nat → Int32, fg_agY μ μ' → fg_ML (μ' 288) (an_tx1 A 0 p (pz_rd b len 0)).2 → Q (some (.int (an_tx1 A 0 p (pz_rd b len 0)).1)) (μ', fg_rho R, 304)) : fg_wp E yy_Mo_text (d + 10) 304 304 Q 165 [.ref 287, .int (nI 0), .int (nI a), v3, v4, v5] [] (μ, fg_rho R, 304) := by
  obtain ⟨hf0, hf1, hf2⟩ := rz_Re_f hRe
  have hz5 := h.2.2.2.2.2.2.2.1
  have hg100 := h.2.2.2.2.2.2.2.2.2
  have hF0 : ¬ Z.2.1 = 0 → ¬ sX.2.1 = 0 := fun g g2 => g (hf0.trans g2)
  have hreF : ¬ Z.2.1 = 0 → pz_rd b len 0 = (sX.2.1, sX.2.2.1, sX.2.2.2.1) := fun g => hrd.trans (pz_re_0 (fun g2 => hF0 g g2.1))
  refine fg_aloadn (fg_ft (pc := 165) tb_Mo_text 94 rfl) rfl ?_
  refine fg_getR (fg_ft (pc := 166) tb_Mo_text 95 rfl) ff_Mo_7 ly_287 rfl (fg_lt ly_287 (by decide)) (rh_287_0 R) ?_
  refine fg_iconst (fg_ft (pc := 169) tb_Mo_text 96 rfl) ic_3 ?_
  refine fg_ialdV (v := (nI (Z.2.1))) (fg_ft (pc := 170) tb_Mo_text 97 rfl) ly_288 (fg_lt ly_288 (by decide)) (by omega) h.2.2.2.1 ?_
  refine fg_if_neN (tgt := 200) (fg_ft (pc := 171) tb_Mo_text 98 rfl) (by decide) (by omega) (fun c171 => ?_) (fun c171 => ?_)
  · refine fg_aloadn (fg_ft (pc := 200) tb_Mo_text 113 rfl) rfl ?_
    refine fg_getR (fg_ft (pc := 201) tb_Mo_text 114 rfl) ff_Mo_7 ly_287 rfl (fg_lt ly_287 (by decide)) (rh_287_0 R) ?_
    refine fg_iconst (fg_ft (pc := 204) tb_Mo_text 115 rfl) ic_3 ?_
    refine fg_ialdV (v := (nI (Z.2.1))) (fg_ft (pc := 205) tb_Mo_text 116 rfl) ly_288 (fg_lt ly_288 (by decide)) (by omega) h.2.2.2.1 ?_
    refine fg_if_eqN (tgt := 211) (fg_ft (pc := 206) tb_Mo_text 117 rfl) (by decide) (by omega) (fun c206 => (absurd c206 c171)) (fun c206 => ?_)
    refine fg_iconst (fg_ft (pc := 209) tb_Mo_text 118 rfl) ic_m1 ?_
    exact fg_iret (fg_ft (pc := 210) tb_Mo_text 119 rfl) rfl rfl (fg_q (hQ μ (fg_agY_rf μ) (by rw [hreF c206]; exact an_tx1_n (A := A) (s := 0) (p := p) (r := (sX.2.1, sX.2.2.1, sX.2.2.2.1)) (hF0 c206) ▸ hML.hd9 hw.2.2.1 hw.2.1 hm0 (h.2.2.2.1.trans (by rw [hf0])) (h.2.2.2.2.1.trans (by rw [hf0, hf1 (hF0 c206)])))) (by rw [hreF c206, an_tx1_n (hF0 c206)]))
  · refine fg_iloadn (fg_ft (pc := 174) tb_Mo_text 99 rfl) rfl ?_
    refine fg_if_ne (tgt := 200) (fg_ft (pc := 175) tb_Mo_text 100 rfl) (by decide) (fun h => absurd h (by decide)) (fun _ => ?_)
    have f0 : sX.2.1 = 0 := by omega
    have eC := (hf2 f0).1
    have hgt := (hf2 f0).2 rfl
    have hC1 := ((hI f0).1 rfl).1.1
    have eC0 : Z.2.2.2.2 0 = sX.2.2.2.1 0 := by rw [eC]
    refine fg_aloadn (fg_ft (pc := 178) tb_Mo_text 101 rfl) rfl ?_
    refine fg_getV (v := (nI (Z.2.2.2.1))) (fg_ft (pc := 179) tb_Mo_text 102 rfl) ff_Mo_125 ly_287 rfl (fg_lt ly_287 (by decide)) h.2.2.2.2.2.1 ?_
    refine fg_aloadn (fg_ft (pc := 182) tb_Mo_text 103 rfl) rfl ?_
    refine fg_getR (fg_ft (pc := 183) tb_Mo_text 104 rfl) ff_Mo_17 ly_287 rfl (fg_lt ly_287 (by decide)) (rh_287_10 R) ?_
    refine fg_iconst (fg_ft (pc := 186) tb_Mo_text 105 rfl) ic_0 ?_
    refine fg_ialdV (v := (nI (Z.2.2.2.2 0))) (fg_ft (pc := 187) tb_Mo_text 106 rfl) ly_290 (fg_lt ly_290 (by decide)) (by omega) (h.2.2.2.2.2.2.1 0 (by omega)) ?_
    refine fg_icmp_ltN (tgt := 200) (fg_ft (pc := 188) tb_Mo_text 107 rfl) (by decide) (by omega) (by omega) (fun c188 => ?_) (fun c188 => ?_)
    · refine fg_aloadn (fg_ft (pc := 200) tb_Mo_text 113 rfl) rfl ?_
      refine fg_getR (fg_ft (pc := 201) tb_Mo_text 114 rfl) ff_Mo_7 ly_287 rfl (fg_lt ly_287 (by decide)) (rh_287_0 R) ?_
      refine fg_iconst (fg_ft (pc := 204) tb_Mo_text 115 rfl) ic_3 ?_
      refine fg_ialdV (v := (nI (Z.2.1))) (fg_ft (pc := 205) tb_Mo_text 116 rfl) ly_288 (fg_lt ly_288 (by decide)) (by omega) h.2.2.2.1 ?_
      refine fg_if_eqN (tgt := 211) (fg_ft (pc := 206) tb_Mo_text 117 rfl) (by decide) (by omega) (fun c206 => ?_) (fun c206 => (absurd c171 c206))
      have z0 : Z.2.1 = 0 := c171
      have ere : pz_rd b len 0 = (sX.2.1, sX.2.2.1, sX.2.2.2.1) := hrd.trans (pz_re_0 (fun g => g.2.2 ((hgt _ hC1.1).mpr (by rw [← eC0]; exact c188))))
      exact rz_tx_put0 ha hw (hML.hd9 hw.2.2.1 hw.2.1 hm0 (h.2.2.2.1.trans (by rw [z0])) (h.2.2.2.2.1.trans (by rw [z0]; rfl))) hp hpe (fun k hk => (h.2.2.2.2.2.2.1 k hk).trans (by rw [eC])) (fun ν g1 g2 g3 => fg_q (hQ ν (fg_agY_put g1 g2) (by rw [ere, an_tx1_t f0 rfl]; exact g3)) (by rw [ere, an_tx1_t f0 rfl]))
    · refine fg_aloadn (fg_ft (pc := 191) tb_Mo_text 108 rfl) rfl ?_
      refine fg_iconst (fg_ft (pc := 192) tb_Mo_text 109 rfl) ic_4 ?_
      refine fg_aloadn (fg_ft (pc := 193) tb_Mo_text 110 rfl) rfl ?_
      refine fg_getV (v := (nI (pz_S b len Z.1))) (fg_ft (pc := 194) tb_Mo_text 111 rfl) ff_Mo_81 ly_287 rfl (fg_lt ly_287 (by decide)) h.2.1.2.1 ?_
      refine fg_callV (fg_ft (pc := 197) tb_Mo_text 112 rfl) cf_Mo_114 (fg_isOf ly_287 rfl (fg_lt ly_287 (by decide))) (as := [.int (nI 4), .int (nI (pz_S b len Z.1))]) (st := []) rfl rfl (Nat.le_of_ble_eq_true rfl) (Nat.le_refl _) (Nat.le_refl _) (ev_Mo_also (kd := 4) (at9 := (pz_S b len Z.1)) hle hb256 h (by decide) (by decide) (by decide) (rz_S_le hle) ?_)
      intro ν1 hg1 h1
      have ag1 := hg1
      show fg_wp _ _ _ _ _ _ _ _ _ (ν1, fg_rho R, 304)
      have eSl : pz_S b len Z.1 = len := (pz_sp_i b len Z.1).2.2.2.2.1 (hfin (by omega))
      have e4 : (rz_al 4 (pz_S b len Z.1) Z) = (Z.1, 4, len, Z.2.2.2) := by
        rw [eSl]; exact rz_al_n (by omega)
      have e41 : (rz_al 4 (pz_S b len Z.1) Z).2.1 = 4 := by rw [e4]
      have ere : pz_rd b len 0 = (4, len, sX.2.2.2.1) := hrd.trans (pz_re_4 ⟨f0, rfl, fun g => absurd ((hgt _ hC1.1).mp g) (by omega)⟩)
      refine fg_aloadn (fg_ft (pc := 200) tb_Mo_text 113 rfl) rfl ?_
      refine fg_getR (fg_ft (pc := 201) tb_Mo_text 114 rfl) ff_Mo_7 ly_287 rfl (fg_lt ly_287 (by decide)) (rh_287_0 R) ?_
      refine fg_iconst (fg_ft (pc := 204) tb_Mo_text 115 rfl) ic_3 ?_
      refine fg_ialdV (v := (nI ((rz_al 4 (pz_S b len Z.1) Z).2.1))) (fg_ft (pc := 205) tb_Mo_text 116 rfl) ly_288 (fg_lt ly_288 (by decide)) (by omega) h1.2.2.2.1 ?_
      refine fg_if_eqN (tgt := 211) (fg_ft (pc := 206) tb_Mo_text 117 rfl) (by decide) (by omega) (fun c206 => (absurd c206 (by rw [e4]; show ¬ 4 = 0; decide))) (fun c206 => ?_)
      refine fg_iconst (fg_ft (pc := 209) tb_Mo_text 118 rfl) ic_m1 ?_
      exact fg_iret (fg_ft (pc := 210) tb_Mo_text 119 rfl) rfl rfl (fg_q (hQ ν1 ag1.y (by rw [ere]; exact hML.hd9 hw.2.2.1 hw.2.1 (fun j j1 j2 => (ag1 288 j (by omega) (by omega) (by decide)).trans (hm0 j j1 j2)) (h1.2.2.2.1.trans (by rw [e4])) (h1.2.2.2.2.1.trans (by rw [e4])))) (by rw [ere]; rfl))
theorem rz_tx_end1 {E : fg_E} {d : Nat} {μ : Nat → Nat → Int32} {R : fg_T4} {Q : Option Value → fg_M → Prop} {b : Nat → Nat} {len : Nat} {Z : rz_Z} (hle : len ≤ 600) (hb256 : ∀ j, b j < 256) (h : rz_RZ μ b len Z) {A : fg_Tl} {m0 : Nat → Int32} {sX : Nat × pz_X} {a p : Nat} {v3 v4 v5 : Value} (ha : a < 2 ^ 32) (hw : fg_wA A) (hML : fg_ML m0 (A.hd 0 0 (-1))) (hm0 : ∀ j, j ≠ 3 → j ≠ 4 → μ 288 j = m0 j) (hRe : rz_Re (pz_S b len) 1 sX Z) (hfin : Z.2.1 ≠ 1 → pz_K b len Z.1 = 0) (hI : sX.2.1 = 0 → pz_I9 1 sX.2) (hrd : pz_rd b len 1 = pz_re len 1 sX.2) (hp : p < 3) (hpe : (a = 4294967295 → p = A.dc) ∧ (¬ a = 4294967295 → p = a ∧ a < A.dc)) (hQ : ∀ μ' : Nat → Nat → Int32, fg_agY μ μ' → fg_ML (μ' 288) (an_tx1 A 1 p (pz_rd b len 1)).2 → Q (some (.int (an_tx1 A 1 p (pz_rd b len 1)).1)) (μ', fg_rho R, 304)) : fg_wp E yy_Mo_text (d + 10) 304 304 Q 165 [.ref 287, .int (nI 1), .int (nI a), v3, v4, v5] [] (μ, fg_rho R, 304) := by
  obtain ⟨hf0, hf1, hf2⟩ := rz_Re_f hRe
  have hz5 := h.2.2.2.2.2.2.2.1
  have hg100 := h.2.2.2.2.2.2.2.2.2
  have hF0 : ¬ Z.2.1 = 0 → ¬ sX.2.1 = 0 := fun g g2 => g (hf0.trans g2)
  have hreF : ¬ Z.2.1 = 0 → pz_rd b len 1 = (sX.2.1, sX.2.2.1, sX.2.2.2.1) := fun g => hrd.trans (pz_re_0 (fun g2 => hF0 g g2.1))
  refine fg_aloadn (fg_ft (pc := 165) tb_Mo_text 94 rfl) rfl ?_
  refine fg_getR (fg_ft (pc := 166) tb_Mo_text 95 rfl) ff_Mo_7 ly_287 rfl (fg_lt ly_287 (by decide)) (rh_287_0 R) ?_
  refine fg_iconst (fg_ft (pc := 169) tb_Mo_text 96 rfl) ic_3 ?_
  refine fg_ialdV (v := (nI (Z.2.1))) (fg_ft (pc := 170) tb_Mo_text 97 rfl) ly_288 (fg_lt ly_288 (by decide)) (by omega) h.2.2.2.1 ?_
  refine fg_if_neN (tgt := 200) (fg_ft (pc := 171) tb_Mo_text 98 rfl) (by decide) (by omega) (fun c171 => ?_) (fun c171 => ?_)
  · refine fg_aloadn (fg_ft (pc := 200) tb_Mo_text 113 rfl) rfl ?_
    refine fg_getR (fg_ft (pc := 201) tb_Mo_text 114 rfl) ff_Mo_7 ly_287 rfl (fg_lt ly_287 (by decide)) (rh_287_0 R) ?_
    refine fg_iconst (fg_ft (pc := 204) tb_Mo_text 115 rfl) ic_3 ?_
    refine fg_ialdV (v := (nI (Z.2.1))) (fg_ft (pc := 205) tb_Mo_text 116 rfl) ly_288 (fg_lt ly_288 (by decide)) (by omega) h.2.2.2.1 ?_
    refine fg_if_eqN (tgt := 211) (fg_ft (pc := 206) tb_Mo_text 117 rfl) (by decide) (by omega) (fun c206 => (absurd c206 c171)) (fun c206 => ?_)
    refine fg_iconst (fg_ft (pc := 209) tb_Mo_text 118 rfl) ic_m1 ?_
    exact fg_iret (fg_ft (pc := 210) tb_Mo_text 119 rfl) rfl rfl (fg_q (hQ μ (fg_agY_rf μ) (by rw [hreF c206]; exact an_tx1_n (A := A) (s := 1) (p := p) (r := (sX.2.1, sX.2.2.1, sX.2.2.2.1)) (hF0 c206) ▸ hML.hd9 hw.2.2.1 hw.2.1 hm0 (h.2.2.2.1.trans (by rw [hf0])) (h.2.2.2.2.1.trans (by rw [hf0, hf1 (hF0 c206)])))) (by rw [hreF c206, an_tx1_n (hF0 c206)]))
  · refine fg_iloadn (fg_ft (pc := 174) tb_Mo_text 99 rfl) rfl ?_
    refine fg_if_ne (tgt := 200) (fg_ft (pc := 175) tb_Mo_text 100 rfl) (by decide) (fun _ => ?_) (fun h => absurd h (by decide))
    refine fg_aloadn (fg_ft (pc := 200) tb_Mo_text 113 rfl) rfl ?_
    refine fg_getR (fg_ft (pc := 201) tb_Mo_text 114 rfl) ff_Mo_7 ly_287 rfl (fg_lt ly_287 (by decide)) (rh_287_0 R) ?_
    refine fg_iconst (fg_ft (pc := 204) tb_Mo_text 115 rfl) ic_3 ?_
    refine fg_ialdV (v := (nI (Z.2.1))) (fg_ft (pc := 205) tb_Mo_text 116 rfl) ly_288 (fg_lt ly_288 (by decide)) (by omega) h.2.2.2.1 ?_
    refine fg_if_eqN (tgt := 211) (fg_ft (pc := 206) tb_Mo_text 117 rfl) (by decide) (by omega) (fun c206 => ?_) (fun c206 => (absurd c171 c206))
    have z0 : Z.2.1 = 0 := by omega
    have f0 : sX.2.1 = 0 := by omega
    have eC := (hf2 f0).1
    have ere : pz_rd b len 1 = (sX.2.1, sX.2.2.1, sX.2.2.2.1) := hrd.trans (pz_re_0 (fun g => absurd g.2.1 (by decide)))
    exact rz_tx_put1 ha hw (hML.hd9 hw.2.2.1 hw.2.1 hm0 (h.2.2.2.1.trans (by rw [z0])) (h.2.2.2.2.1.trans (by rw [z0]; rfl))) hp hpe ((hI f0).2 rfl).1 (fun k hk => (h.2.2.2.2.2.2.1 k hk).trans (by rw [eC])) (fun ν g1 g2 g3 => fg_q (hQ ν (fg_agY_put g1 g2) (by rw [ere, an_tx1_d f0 (by decide)]; exact g3)) (by rw [ere, an_tx1_d f0 (by decide)]))
