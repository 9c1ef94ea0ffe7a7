/-! the reference's lines: states, read purely -/
abbrev rz_Z : Type := Nat × Nat × Nat × Nat × (Nat → Nat)
def rz_en (S : Nat → Nat) (Z : rz_Z) : rz_Z := (Z.1, if Z.2.1 = 1 then Z.2 else (1, S Z.1, Z.2.2.2))
def rz_al (kd at9 : Nat) (Z : rz_Z) : rz_Z := (Z.1, if Z.2.1 = 1 ∨ (Z.2.1 ≠ 0 ∧ (Z.2.2.1 < at9 ∨ (Z.2.2.1 = at9 ∧ Z.2.1 ≤ kd))) then Z.2 else (kd, at9, Z.2.2.2))
def rz_ad (Z : rz_Z) : rz_Z := (Z.1 + 1, Z.2)
def rz_no (lo hi v : Nat) : Nat := if lo ≤ v ∧ v < hi then v else 4294967295
def rz_nu (K V S : Nat → Nat) (lo hi : Nat) (Z : rz_Z) : Nat × rz_Z := if Z.2.1 = 1 ∨ K Z.1 ≠ 1 then (4294967295, rz_en S Z) else (rz_no lo hi (V Z.1), rz_ad (if lo ≤ V Z.1 ∧ V Z.1 < hi then Z else rz_al 2 (S Z.1) Z))
def rz_gr (r : Nat × rz_Z) : Nat × rz_Z := (r.1, (r.2.1, r.2.2.1, r.2.2.2.1, (if r.1 ≠ 4294967295 ∧ r.2.2.2.2.1 < r.1 then r.1 else r.2.2.2.2.1), r.2.2.2.2.2))
def rz_fa (K V S : Nat → Nat) (Z : rz_Z) : Nat × rz_Z := rz_gr (rz_nu K V S 0 10 Z)
def rz_el (K S : Nat → Nat) (Z : rz_Z) : rz_Z := if Z.2.1 ≠ 1 ∧ K Z.1 = 2 then rz_ad Z else rz_en S Z
def rz_ta (K V S : Nat → Nat) (a b : Nat) (Z : rz_Z) : Nat × rz_Z := if Z.2.1 = 1 ∨ K Z.1 ≠ 3 ∨ ¬ (a ≤ V Z.1 + 1 ∧ V Z.1 + 1 ≤ b) then (0, rz_en S Z) else (V Z.1 + 1, rz_ad Z)
def rz_LX (μ : Nat → Nat → Int32) (b : Nat → Nat) (len j : Nat) : Prop := μ 287 3 = nI (pz_E b len j) ∧ μ 287 4 = nI (pz_S b len j) ∧ μ 287 5 = nI (pz_K b len j) ∧ (pz_K b len j = 1 → μ 287 6 = nI (pz_V b len j)) ∧ (pz_K b len j = 3 → μ 287 7 = nI (pz_V b len j + 1))
def rz_RF (μ : Nat → Nat → Int32) (Z : rz_Z) : Prop := μ 287 8 = fg_bI (Z.2.1 = 1) ∧ μ 288 3 = nI Z.2.1 ∧ μ 288 4 = pz_pl Z.2.1 Z.2.2.1 ∧ μ 287 9 = nI Z.2.2.2.1 ∧ (∀ k, k < 152 → μ 290 k = nI (Z.2.2.2.2 k)) ∧ Z.2.1 < 5 ∧ Z.2.2.1 ≤ 600 ∧ Z.2.2.2.1 < 100
def rz_RZ (μ : Nat → Nat → Int32) (b : Nat → Nat) (len : Nat) (Z : rz_Z) : Prop := (μ 287 2 = nI len ∧ ∀ i, i < len → μ 288 (10 + i) = nI (b i)) ∧ rz_LX μ b len Z.1 ∧ rz_RF μ Z
def rz_ag (μ μ' : Nat → Nat → Int32) : Prop := ∀ a j, (a ≠ 287 ∨ j ≤ 2 ∨ 9 < j) → (a ≠ 288 ∨ (j ≠ 3 ∧ j ≠ 4)) → a ≠ 290 → μ' a j = μ a j
theorem rz_ag_rf (μ : Nat → Nat → Int32) : rz_ag μ μ := fun _ _ _ _ _ => rfl
theorem rz_ag_tr {μ μ' μ'' : Nat → Nat → Int32} (h1 : rz_ag μ μ') (h2 : rz_ag μ' μ'') : rz_ag μ μ'' := fun a j p q r => (h2 a j p q r).trans (h1 a j p q r)
theorem rz_S_le {b : Nat → Nat} {len j : Nat} (hle : len ≤ 600) : pz_S b len j ≤ 600 := by have := pz_sp_i b len j; omega
theorem rz_RZ.en {μ : Nat → Nat → Int32} {b : Nat → Nat} {len : Nat} {Z : rz_Z} (hle : len ≤ 600) (h : rz_RZ μ b len Z) (hn : ¬ Z.2.1 = 1) : rz_RZ (fg_u2 (fg_u2 (fg_u2 μ 287 8 (nI 1)) 288 3 (nI 1)) 288 4 (nI (pz_S b len Z.1))) b len (rz_en (pz_S b len) Z) := by
  have e : rz_en (pz_S b len) Z = (Z.1, 1, pz_S b len Z.1, Z.2.2.2) := congrArg (Prod.mk Z.1) (if_neg hn)
  rw [e]
  obtain ⟨⟨c1, c2⟩, ⟨l1, l2, l3, l4, l5⟩, r1, r2, r3, r4, r5, r6, r7, r8⟩ := h
  have u : ∀ a j, (a ≠ 287 ∨ j ≠ 8) → (a ≠ 288 ∨ (j ≠ 3 ∧ j ≠ 4)) → fg_u2 (fg_u2 (fg_u2 μ 287 8 (nI 1)) 288 3 (nI 1)) 288 4 (nI (pz_S b len Z.1)) a j = μ a j := fun a j p q => (fg_u2nx (by omega)).trans ((fg_u2nx (by omega)).trans (fg_u2nx (by omega)))
  refine ⟨⟨(u 287 2 (by omega) (by omega)).trans c1, fun i hi => (u 288 (10 + i) (by omega) (by omega)).trans (c2 i hi)⟩, ⟨(u 287 3 (by omega) (by omega)).trans l1, (u 287 4 (by omega) (by omega)).trans l2, (u 287 5 (by omega) (by omega)).trans l3, fun q => (u 287 6 (by omega) (by omega)).trans (l4 q), fun q => (u 287 7 (by omega) (by omega)).trans (l5 q)⟩, ?_, ?_, ?_, (u 287 9 (by omega) (by omega)).trans r4, fun k hk => (u 290 k (by omega) (by omega)).trans (r5 k hk), by show 1 < 5; decide, rz_S_le hle, r8⟩
  · show _ = fg_bI (1 = 1)
    rw [fg_bT rfl]
    exact (fg_u2ne (by decide)).trans ((fg_u2ne (by decide)).trans fg_u2eq)
  · exact (fg_u2ns (by decide)).trans fg_u2eq
  · exact fg_u2eq
theorem rz_RZ.al {μ : Nat → Nat → Int32} {b : Nat → Nat} {len : Nat} {Z : rz_Z} {kd at9 : Nat} (h : rz_RZ μ b len Z) (hk : kd < 5) (hk0 : kd ≠ 0) (hk1 : kd ≠ 1) (ha : at9 ≤ 600) (hn : ¬ (Z.2.1 = 1 ∨ (Z.2.1 ≠ 0 ∧ (Z.2.2.1 < at9 ∨ (Z.2.2.1 = at9 ∧ Z.2.1 ≤ kd))))) : rz_RZ (fg_u2 (fg_u2 μ 288 3 (nI kd)) 288 4 (nI at9)) b len (rz_al kd at9 Z) := by
  have e : rz_al kd at9 Z = (Z.1, kd, at9, Z.2.2.2) := congrArg (Prod.mk Z.1) (if_neg hn)
  rw [e]
  have hn1 : ¬ Z.2.1 = 1 := fun h => hn (Or.inl h)
  obtain ⟨⟨c1, c2⟩, ⟨l1, l2, l3, l4, l5⟩, r1, r2, r3, r4, r5, r6, r7, r8⟩ := h
  have u : ∀ a j, (a ≠ 288 ∨ (j ≠ 3 ∧ j ≠ 4)) → fg_u2 (fg_u2 μ 288 3 (nI kd)) 288 4 (nI at9) a j = μ a j := fun a j q => (fg_u2nx (by omega)).trans (fg_u2nx (by omega))
  refine ⟨⟨(u 287 2 (by omega)).trans c1, fun i hi => (u 288 (10 + i) (by omega)).trans (c2 i hi)⟩, ⟨(u 287 3 (by omega)).trans l1, (u 287 4 (by omega)).trans l2, (u 287 5 (by omega)).trans l3, fun q => (u 287 6 (by omega)).trans (l4 q), fun q => (u 287 7 (by omega)).trans (l5 q)⟩, ?_, (fg_u2ns (by decide)).trans fg_u2eq, ?_, (u 287 9 (by omega)).trans r4, fun k hk => (u 290 k (by omega)).trans (r5 k hk), hk, ha, r8⟩
  · rw [u 287 8 (by omega), r1, fg_bF hn1]
    exact (fg_bF (fun hh : kd = 1 => hk1 hh)).symm
  · rw [fg_u2eq]
    unfold pz_pl
    exact (if_neg (fun hh : kd = 0 => hk0 hh)).symm
theorem rz_RZ.ad {μ μ' : Nat → Nat → Int32} {b : Nat → Nat} {len : Nat} {Z : rz_Z} (h : rz_RZ μ b len Z) (ha : pz_agM μ μ') (hL : rz_LX μ' b len (Z.1 + 1)) : rz_RZ μ' b len (rz_ad Z) := by
  obtain ⟨⟨c1, c2⟩, -, r1, r2, r3, r4, r5, r6, r7, r8⟩ := h
  exact ⟨⟨(ha 287 2 (by omega)).trans c1, fun i hi => (ha 288 (10 + i) (by omega)).trans (c2 i hi)⟩, hL, (ha 287 8 (by omega)).trans r1, (ha 288 3 (by omega)).trans r2, (ha 288 4 (by omega)).trans r3, (ha 287 9 (by omega)).trans r4, fun k hk => (ha 290 k (by omega)).trans (r5 k hk), r6, r7, r8⟩
theorem rz_agM {μ μ' : Nat → Nat → Int32} (h : pz_agM μ μ') : rz_ag μ μ' := fun a j p q r => h a j (by omega)
theorem ev_Mo_adv {E : fg_E} {d : Nat} {μ : Nat → Nat → Int32} {R : fg_T4} {Q : Option Value → fg_M → Prop} {b : Nat → Nat} {len : Nat} {Z : rz_Z} (hle : len ≤ 600) (hb256 : ∀ j, b j < 256) (h : rz_RZ μ b len Z) (hQ : ∀ μ' : Nat → Nat → Int32, rz_ag μ μ' → rz_RZ μ' b len (rz_ad Z) → Q none (μ', fg_rho R, 304)) : fg_Ev E yy_Mo_advance (d + 4) [.ref 287] (μ, fg_rho R, 304) 304 Q := ev_Mo_advance h.1.1 hle h.1.2 hb256 h.2.1.1 (pz_N_le b len (Z.1 + 1)) (fun μ' hag a3 a4 a5 a6 a7 => hQ μ' (rz_agM hag) (h.ad hag ⟨a3, a4, a5, a6, a7⟩))
theorem ev_Mo_ends {E : fg_E} {d : Nat} {μ : Nat → Nat → Int32} {R : fg_T4} {Q : Option Value → fg_M → Prop} {b : Nat → Nat} {len : Nat} {Z : rz_Z} (hle : len ≤ 600) (hb256 : ∀ j, b j < 256) (h : rz_RZ μ b len Z) (hQ : ∀ μ' : Nat → Nat → Int32, rz_ag μ μ' → rz_RZ μ' b len (rz_en (pz_S b len) Z) → Q none (μ', fg_rho R, 304)) : fg_Ev E yy_Mo_ends (d + 1) [.ref 287] (μ, fg_rho R, 304) 304 Q := by
  refine fg_intro (by decide +kernel) (Nat.le_of_ble_eq_true rfl) (fg_okAs rfl) (Nat.le_refl _) ?_
  refine fg_aloadn (fg_ft (pc := 0) tb_Mo_ends 0 rfl) rfl ?_
  refine fg_getV (v := (fg_bI (Z.2.1 = 1))) (fg_ft (pc := 1) tb_Mo_ends 1 rfl) ff_Mo_103 ly_287 rfl (fg_lt ly_287 (by decide)) h.2.2.1 ?_
  refine fg_ifB_eq (tgt := 8) (fg_ft (pc := 4) tb_Mo_ends 2 rfl) (by decide) (fun c4 => ?_) (fun c4 => ?_)
  · refine fg_aloadn (fg_ft (pc := 8) tb_Mo_ends 4 rfl) rfl ?_
    refine fg_iconst (fg_ft (pc := 9) tb_Mo_ends 5 rfl) ic_1 ?_
    refine fg_putI (fg_ft (pc := 10) tb_Mo_ends 6 rfl) ff_Mo_103 ly_287 rfl (fg_lt ly_287 (by decide)) ⟨by decide, by decide⟩ (fun _ _ h => by cases h; rfl) ?_
    show fg_wp _ _ _ _ _ _ _ _ _ (fg_u2 μ 287 8 (nI 1), fg_rho R, 304)
    refine fg_aloadn (fg_ft (pc := 13) tb_Mo_ends 7 rfl) rfl ?_
    refine fg_getR (fg_ft (pc := 14) tb_Mo_ends 8 rfl) ff_Mo_7 ly_287 rfl (fg_lt ly_287 (by decide)) (rh_287_0 R) ?_
    refine fg_iconst (fg_ft (pc := 17) tb_Mo_ends 9 rfl) ic_3 ?_
    refine fg_iconst (fg_ft (pc := 18) tb_Mo_ends 10 rfl) ic_1 ?_
    refine fg_iastN (fg_ft (pc := 19) tb_Mo_ends 11 rfl) ly_288 (fg_lt ly_288 (by decide)) (by omega) ?_
    show fg_wp _ _ _ _ _ _ _ _ _ (fg_u2 (fg_u2 μ 287 8 (nI 1)) 288 3 (nI 1), fg_rho R, 304)
    refine fg_aloadn (fg_ft (pc := 20) tb_Mo_ends 12 rfl) rfl ?_
    refine fg_getR (fg_ft (pc := 21) tb_Mo_ends 13 rfl) ff_Mo_7 ly_287 rfl (fg_lt ly_287 (by decide)) (rh_287_0 R) ?_
    refine fg_iconst (fg_ft (pc := 24) tb_Mo_ends 14 rfl) ic_4 ?_
    refine fg_aloadn (fg_ft (pc := 25) tb_Mo_ends 15 rfl) rfl ?_
    refine fg_getV (v := (nI (pz_S b len Z.1))) (fg_ft (pc := 26) tb_Mo_ends 16 rfl) ff_Mo_81 ly_287 rfl (fg_lt ly_287 (by decide)) ((fg_u2ne (f := (fg_u2 μ 287 8 (nI 1))) (a := 288) (k := 3) (b := 287) (j := 4) (x := (nI 1)) (by decide)).trans ((fg_u2ns (f := μ) (a := 287) (k := 8) (b := 287) (j := 4) (x := (nI 1)) (by decide)).trans h.2.1.2.1)) ?_
    refine fg_iastN (fg_ft (pc := 29) tb_Mo_ends 17 rfl) ly_288 (fg_lt ly_288 (by decide)) (by omega) ?_
    show fg_wp _ _ _ _ _ _ _ _ _ (fg_u2 (fg_u2 (fg_u2 μ 287 8 (nI 1)) 288 3 (nI 1)) 288 4 (nI (pz_S b len Z.1)), fg_rho R, 304)
    exact fg_vret (fg_ft (pc := 30) tb_Mo_ends 18 rfl) rfl rfl (hQ _ (fun a j p q r => (fg_u2nx (by omega)).trans ((fg_u2nx (by omega)).trans (fg_u2nx (by omega)))) (h.en hle c4))
  · exact fg_vret (fg_ft (pc := 7) tb_Mo_ends 3 rfl) rfl rfl (hQ μ (rz_ag_rf μ) (by rw [show rz_en (pz_S b len) Z = Z from congrArg (Prod.mk Z.1) (if_pos c4)]; exact h))
theorem ev_Mo_also {E : fg_E} {d : Nat} {μ : Nat → Nat → Int32} {R : fg_T4} {Q : Option Value → fg_M → Prop} {b : Nat → Nat} {len : Nat} {Z : rz_Z} (hle : len ≤ 600) (hb256 : ∀ j, b j < 256) (h : rz_RZ μ b len Z) {kd at9 : Nat} (hk5 : kd < 5) (hk0 : kd ≠ 0) (hk1 : kd ≠ 1) (hat : at9 ≤ 600) (hQ : ∀ μ' : Nat → Nat → Int32, rz_ag μ μ' → rz_RZ μ' b len (rz_al kd at9 Z) → Q none (μ', fg_rho R, 304)) : fg_Ev E yy_Mo_also (d + 1) [.ref 287, .int (nI kd), .int (nI at9)] (μ, fg_rho R, 304) 304 Q := by
  refine fg_intro (by decide +kernel) (Nat.le_of_ble_eq_true rfl) (fg_okAs rfl) (Nat.le_refl _) ?_
  refine fg_aloadn (fg_ft (pc := 0) tb_Mo_also 0 rfl) rfl ?_
  refine fg_getV (v := (fg_bI (Z.2.1 = 1))) (fg_ft (pc := 1) tb_Mo_also 1 rfl) ff_Mo_103 ly_287 rfl (fg_lt ly_287 (by decide)) h.2.2.1 ?_
  refine fg_ifB_ne (tgt := 46) (fg_ft (pc := 4) tb_Mo_also 2 rfl) (by decide) (fun c4 => ?_) (fun c4 => ?_)
  · exact fg_vret (fg_ft (pc := 46) tb_Mo_also 26 rfl) rfl rfl (hQ μ (rz_ag_rf μ) (by rw [show rz_al kd at9 Z = Z from congrArg (Prod.mk Z.1) (if_pos (by omega))]; exact h))
  · refine fg_aloadn (fg_ft (pc := 7) tb_Mo_also 3 rfl) rfl ?_
    refine fg_getR (fg_ft (pc := 8) tb_Mo_also 4 rfl) ff_Mo_7 ly_287 rfl (fg_lt ly_287 (by decide)) (rh_287_0 R) ?_
    refine fg_iconst (fg_ft (pc := 11) tb_Mo_also 5 rfl) ic_3 ?_
    refine fg_ialdV (v := (nI (Z.2.1))) (fg_ft (pc := 12) tb_Mo_also 6 rfl) ly_288 (fg_lt ly_288 (by decide)) (by omega) h.2.2.2.1 ?_
    refine fg_if_eqN (tgt := 47) (fg_ft (pc := 13) tb_Mo_also 7 rfl) (by decide) (by have := h.2.2.2.2.2.2.2.1; omega) (fun c13 => ?_) (fun c13 => ?_)
    · refine fg_aloadn (fg_ft (pc := 47) tb_Mo_also 27 rfl) rfl ?_
      refine fg_getR (fg_ft (pc := 48) tb_Mo_also 28 rfl) ff_Mo_7 ly_287 rfl (fg_lt ly_287 (by decide)) (rh_287_0 R) ?_
      refine fg_iconst (fg_ft (pc := 51) tb_Mo_also 29 rfl) ic_3 ?_
      refine fg_iloadn (fg_ft (pc := 52) tb_Mo_also 30 rfl) rfl ?_
      refine fg_iastN (fg_ft (pc := 53) tb_Mo_also 31 rfl) ly_288 (fg_lt ly_288 (by decide)) (by omega) ?_
      show fg_wp _ _ _ _ _ _ _ _ _ (fg_u2 μ 288 3 (nI kd), fg_rho R, 304)
      refine fg_aloadn (fg_ft (pc := 54) tb_Mo_also 32 rfl) rfl ?_
      refine fg_getR (fg_ft (pc := 55) tb_Mo_also 33 rfl) ff_Mo_7 ly_287 rfl (fg_lt ly_287 (by decide)) (rh_287_0 R) ?_
      refine fg_iconst (fg_ft (pc := 58) tb_Mo_also 34 rfl) ic_4 ?_
      refine fg_iloadn (fg_ft (pc := 59) tb_Mo_also 35 rfl) rfl ?_
      refine fg_iastN (fg_ft (pc := 60) tb_Mo_also 36 rfl) ly_288 (fg_lt ly_288 (by decide)) (by omega) ?_
      show fg_wp _ _ _ _ _ _ _ _ _ (fg_u2 (fg_u2 μ 288 3 (nI kd)) 288 4 (nI at9), fg_rho R, 304)
      exact fg_vret (fg_ft (pc := 61) tb_Mo_also 37 rfl) rfl rfl (hQ _ (fun a j p q r => (fg_u2nx (by omega)).trans (fg_u2nx (by omega))) (h.al (by omega) (by omega) (by omega) (by omega) (by omega)))
    · refine fg_aloadn (fg_ft (pc := 16) tb_Mo_also 8 rfl) rfl ?_
      refine fg_getR (fg_ft (pc := 17) tb_Mo_also 9 rfl) ff_Mo_7 ly_287 rfl (fg_lt ly_287 (by decide)) (rh_287_0 R) ?_
      refine fg_iconst (fg_ft (pc := 20) tb_Mo_also 10 rfl) ic_4 ?_
      refine fg_ialdV (v := (nI (Z.2.2.1))) (fg_ft (pc := 21) tb_Mo_also 11 rfl) ly_288 (fg_lt ly_288 (by decide)) (by omega) (h.2.2.2.2.1.trans (if_neg (by omega))) ?_
      refine fg_iloadn (fg_ft (pc := 22) tb_Mo_also 12 rfl) rfl ?_
      refine fg_icmp_ltN (tgt := 46) (fg_ft (pc := 23) tb_Mo_also 13 rfl) (by decide) (by have := h.2.2.2.2.2.2.2.2.1; omega) (by omega) (fun c23 => ?_) (fun c23 => ?_)
      · exact fg_vret (fg_ft (pc := 46) tb_Mo_also 26 rfl) rfl rfl (hQ μ (rz_ag_rf μ) (by rw [show rz_al kd at9 Z = Z from congrArg (Prod.mk Z.1) (if_pos (by omega))]; exact h))
      · refine fg_aloadn (fg_ft (pc := 26) tb_Mo_also 14 rfl) rfl ?_
        refine fg_getR (fg_ft (pc := 27) tb_Mo_also 15 rfl) ff_Mo_7 ly_287 rfl (fg_lt ly_287 (by decide)) (rh_287_0 R) ?_
        refine fg_iconst (fg_ft (pc := 30) tb_Mo_also 16 rfl) ic_4 ?_
        refine fg_ialdV (v := (nI (Z.2.2.1))) (fg_ft (pc := 31) tb_Mo_also 17 rfl) ly_288 (fg_lt ly_288 (by decide)) (by omega) (h.2.2.2.2.1.trans (if_neg (by omega))) ?_
        refine fg_iloadn (fg_ft (pc := 32) tb_Mo_also 18 rfl) rfl ?_
        refine fg_icmp_neN (tgt := 47) (fg_ft (pc := 33) tb_Mo_also 19 rfl) (by decide) (by have := h.2.2.2.2.2.2.2.2.1; omega) (by omega) (fun c33 => ?_) (fun c33 => ?_)
        · refine fg_aloadn (fg_ft (pc := 47) tb_Mo_also 27 rfl) rfl ?_
          refine fg_getR (fg_ft (pc := 48) tb_Mo_also 28 rfl) ff_Mo_7 ly_287 rfl (fg_lt ly_287 (by decide)) (rh_287_0 R) ?_
          refine fg_iconst (fg_ft (pc := 51) tb_Mo_also 29 rfl) ic_3 ?_
          refine fg_iloadn (fg_ft (pc := 52) tb_Mo_also 30 rfl) rfl ?_
          refine fg_iastN (fg_ft (pc := 53) tb_Mo_also 31 rfl) ly_288 (fg_lt ly_288 (by decide)) (by omega) ?_
          show fg_wp _ _ _ _ _ _ _ _ _ (fg_u2 μ 288 3 (nI kd), fg_rho R, 304)
          refine fg_aloadn (fg_ft (pc := 54) tb_Mo_also 32 rfl) rfl ?_
          refine fg_getR (fg_ft (pc := 55) tb_Mo_also 33 rfl) ff_Mo_7 ly_287 rfl (fg_lt ly_287 (by decide)) (rh_287_0 R) ?_
          refine fg_iconst (fg_ft (pc := 58) tb_Mo_also 34 rfl) ic_4 ?_
          refine fg_iloadn (fg_ft (pc := 59) tb_Mo_also 35 rfl) rfl ?_
          refine fg_iastN (fg_ft (pc := 60) tb_Mo_also 36 rfl) ly_288 (fg_lt ly_288 (by decide)) (by omega) ?_
          show fg_wp _ _ _ _ _ _ _ _ _ (fg_u2 (fg_u2 μ 288 3 (nI kd)) 288 4 (nI at9), fg_rho R, 304)
          exact fg_vret (fg_ft (pc := 61) tb_Mo_also 37 rfl) rfl rfl (hQ _ (fun a j p q r => (fg_u2nx (by omega)).trans (fg_u2nx (by omega))) (h.al (by omega) (by omega) (by omega) (by omega) (by omega)))
        · refine fg_aloadn (fg_ft (pc := 36) tb_Mo_also 20 rfl) rfl ?_
          refine fg_getR (fg_ft (pc := 37) tb_Mo_also 21 rfl) ff_Mo_7 ly_287 rfl (fg_lt ly_287 (by decide)) (rh_287_0 R) ?_
          refine fg_iconst (fg_ft (pc := 40) tb_Mo_also 22 rfl) ic_3 ?_
          refine fg_ialdV (v := (nI (Z.2.1))) (fg_ft (pc := 41) tb_Mo_also 23 rfl) ly_288 (fg_lt ly_288 (by decide)) (by omega) h.2.2.2.1 ?_
          refine fg_iloadn (fg_ft (pc := 42) tb_Mo_also 24 rfl) rfl ?_
          refine fg_icmp_gtN (tgt := 47) (fg_ft (pc := 43) tb_Mo_also 25 rfl) (by decide) (by have := h.2.2.2.2.2.2.2.1; omega) (by omega) (fun c43 => ?_) (fun c43 => ?_)
          · refine fg_aloadn (fg_ft (pc := 47) tb_Mo_also 27 rfl) rfl ?_
            refine fg_getR (fg_ft (pc := 48) tb_Mo_also 28 rfl) ff_Mo_7 ly_287 rfl (fg_lt ly_287 (by decide)) (rh_287_0 R) ?_
            refine fg_iconst (fg_ft (pc := 51) tb_Mo_also 29 rfl) ic_3 ?_
            refine fg_iloadn (fg_ft (pc := 52) tb_Mo_also 30 rfl) rfl ?_
            refine fg_iastN (fg_ft (pc := 53) tb_Mo_also 31 rfl) ly_288 (fg_lt ly_288 (by decide)) (by omega) ?_
            show fg_wp _ _ _ _ _ _ _ _ _ (fg_u2 μ 288 3 (nI kd), fg_rho R, 304)
            refine fg_aloadn (fg_ft (pc := 54) tb_Mo_also 32 rfl) rfl ?_
            refine fg_getR (fg_ft (pc := 55) tb_Mo_also 33 rfl) ff_Mo_7 ly_287 rfl (fg_lt ly_287 (by decide)) (rh_287_0 R) ?_
            refine fg_iconst (fg_ft (pc := 58) tb_Mo_also 34 rfl) ic_4 ?_
            refine fg_iloadn (fg_ft (pc := 59) tb_Mo_also 35 rfl) rfl ?_
            refine fg_iastN (fg_ft (pc := 60) tb_Mo_also 36 rfl) ly_288 (fg_lt ly_288 (by decide)) (by omega) ?_
            show fg_wp _ _ _ _ _ _ _ _ _ (fg_u2 (fg_u2 μ 288 3 (nI kd)) 288 4 (nI at9), fg_rho R, 304)
            exact fg_vret (fg_ft (pc := 61) tb_Mo_also 37 rfl) rfl rfl (hQ _ (fun a j p q r => (fg_u2nx (by omega)).trans (fg_u2nx (by omega))) (h.al (by omega) (by omega) (by omega) (by omega) (by omega)))
          · exact fg_vret (fg_ft (pc := 46) tb_Mo_also 26 rfl) rfl rfl (hQ μ (rz_ag_rf μ) (by rw [show rz_al kd at9 Z = Z from congrArg (Prod.mk Z.1) (if_pos (by omega))]; exact h))
theorem ev_Mo_numberedX {E : fg_E} {d : Nat} {μ : Nat → Nat → Int32} {R : fg_T4} {Q : Option Value → fg_M → Prop} {b : Nat → Nat} {len : Nat} {Z : rz_Z} (hle : len ≤ 600) (hb256 : ∀ j, b j < 256) (h : rz_RZ μ b len Z) {lo hi : Nat} {x : Int32} (hm : ∀ n, n ≤ 99 → ((nI lo ≤ nI n ∧ nI n ≤ x) ↔ (lo ≤ n ∧ n < hi))) (hW : (Z.2.1 = 1 ∨ pz_K b len Z.1 ≠ 1) → ∀ μ' : Nat → Nat → Int32, rz_ag μ μ' → rz_RZ μ' b len (rz_en (pz_S b len) Z) → Q (some (.int (-1))) (μ', fg_rho R, 304)) (hN : ¬ (Z.2.1 = 1 ∨ pz_K b len Z.1 ≠ 1) → ∀ μ' : Nat → Nat → Int32, rz_ag μ μ' → rz_RZ μ' b len (rz_ad (if lo ≤ pz_V b len Z.1 ∧ pz_V b len Z.1 < hi then Z else rz_al 2 (pz_S b len Z.1) Z)) → Q (some (.int (nI (rz_no lo hi (pz_V b len Z.1))))) (μ', fg_rho R, 304)) : fg_Ev E yy_Mo_numbered (d + 5) [.ref 287, .int (nI lo), .int x] (μ, fg_rho R, 304) 304 Q := by
  refine fg_intro (by decide +kernel) (Nat.le_of_ble_eq_true rfl) (fg_okAs rfl) (Nat.le_refl _) ?_
  refine fg_aloadn (fg_ft (pc := 0) tb_Mo_numbered 0 rfl) rfl ?_
  refine fg_getV (v := (fg_bI (Z.2.1 = 1))) (fg_ft (pc := 1) tb_Mo_numbered 1 rfl) ff_Mo_103 ly_287 rfl (fg_lt ly_287 (by decide)) h.2.2.1 ?_
  refine fg_ifB_ne (tgt := 15) (fg_ft (pc := 4) tb_Mo_numbered 2 rfl) (by decide) (fun c4 => ?_) (fun c4 => ?_)
  · refine fg_aloadn (fg_ft (pc := 15) tb_Mo_numbered 7 rfl) rfl ?_
    refine fg_callV (fg_ft (pc := 16) tb_Mo_numbered 8 rfl) cf_Mo_107 (fg_isOf ly_287 rfl (fg_lt ly_287 (by decide))) (as := []) (st := []) rfl rfl (Nat.le_of_ble_eq_true rfl) (Nat.le_refl _) (Nat.le_refl _) (ev_Mo_ends hle hb256 h ?_)
    intro ν1 hag1 h1
    show fg_wp _ _ _ _ _ _ _ _ _ (ν1, fg_rho R, 304)
    refine fg_iconst (fg_ft (pc := 19) tb_Mo_numbered 9 rfl) ic_m1 ?_
    exact fg_iret (fg_ft (pc := 20) tb_Mo_numbered 10 rfl) rfl rfl (hW (by first | exact Or.inl c4 | exact Or.inr c12) ν1 hag1 h1)
  · refine fg_aloadn (fg_ft (pc := 7) tb_Mo_numbered 3 rfl) rfl ?_
    refine fg_getV (v := (nI (pz_K b len Z.1))) (fg_ft (pc := 8) tb_Mo_numbered 4 rfl) ff_Mo_84 ly_287 rfl (fg_lt ly_287 (by decide)) h.2.1.2.2.1 ?_
    refine fg_iconst (fg_ft (pc := 11) tb_Mo_numbered 5 rfl) ic_1 ?_
    refine fg_icmp_eqN (tgt := 21) (fg_ft (pc := 12) tb_Mo_numbered 6 rfl) (by decide) (by have := (pz_sp_i b len Z.1).2.2.2.1; omega) (by decide) (fun c12 => ?_) (fun c12 => ?_)
    · refine fg_aloadn (fg_ft (pc := 21) tb_Mo_numbered 11 rfl) rfl ?_
      refine fg_getV (v := (nI (pz_V b len Z.1))) (fg_ft (pc := 22) tb_Mo_numbered 12 rfl) ff_Mo_100 ly_287 rfl (fg_lt ly_287 (by decide)) (h.2.1.2.2.2.1 c12) ?_
      refine fg_istoren (fg_ft (pc := 25) tb_Mo_numbered 13 rfl) (Nat.le_of_ble_eq_true rfl) ?_
      refine fg_iloadn (fg_ft (pc := 26) tb_Mo_numbered 14 rfl) rfl ?_
      refine fg_iloadn (fg_ft (pc := 27) tb_Mo_numbered 15 rfl) rfl ?_
      refine fg_iloadn (fg_ft (pc := 28) tb_Mo_numbered 16 rfl) rfl ?_
      refine fg_callS (fg_ft (pc := 29) tb_Mo_numbered 17 rfl) cf_Mo_110 (as := [.int (nI (pz_V b len Z.1)), .int (nI lo), .int x]) (st := []) rfl rfl (Nat.le_of_ble_eq_true rfl) (Nat.le_refl _) (Nat.le_refl _) (ev_Mo_isIn ?_)
      refine fg_ifB_ne (tgt := 44) (fg_ft (pc := 32) tb_Mo_numbered 18 rfl) (by decide) (fun c32 => ?_) (fun c32 => ?_)
      · have hyes := (hm _ (pz_sp_i b len Z.1).2.2.2.2.2.2.1).mp c32
        refine fg_aloadn (fg_ft (pc := 44) tb_Mo_numbered 24 rfl) rfl ?_
        refine fg_callV (fg_ft (pc := 45) tb_Mo_numbered 25 rfl) cf_Mo_118 (fg_isOf ly_287 rfl (fg_lt ly_287 (by decide))) (as := []) (st := []) rfl rfl (Nat.le_of_ble_eq_true rfl) (Nat.le_refl _) (Nat.le_refl _) (ev_Mo_adv hle hb256 h ?_)
        intro ν2 hag2 h2
        show fg_wp _ _ _ _ _ _ _ _ _ (ν2, fg_rho R, 304)
        refine fg_iloadn (fg_ft (pc := 48) tb_Mo_numbered 26 rfl) rfl ?_
        refine fg_iloadn (fg_ft (pc := 49) tb_Mo_numbered 27 rfl) rfl ?_
        refine fg_iloadn (fg_ft (pc := 50) tb_Mo_numbered 28 rfl) rfl ?_
        refine fg_callS (fg_ft (pc := 51) tb_Mo_numbered 29 rfl) cf_Mo_110 (as := [.int (nI (pz_V b len Z.1)), .int (nI lo), .int x]) (st := []) rfl rfl (Nat.le_of_ble_eq_true rfl) (Nat.le_refl _) (Nat.le_refl _) (ev_Mo_isIn ?_)
        refine fg_ifB_eq (tgt := 61) (fg_ft (pc := 54) tb_Mo_numbered 30 rfl) (by decide) (fun c54 => (absurd c32 c54)) (fun c54 => ?_)
        refine fg_iloadn (fg_ft (pc := 57) tb_Mo_numbered 31 rfl) rfl ?_
        refine fg_goto (tgt := 62) (fg_ft (pc := 58) tb_Mo_numbered 32 rfl) (by decide) ?_
        exact fg_iret (fg_ft (pc := 62) tb_Mo_numbered 34 rfl) rfl rfl (fg_q (hN (fun q => q.elim c4 (fun g => g c12)) ν2 hag2 (by rw [if_pos hyes]; exact h2)) (by unfold rz_no; rw [if_pos hyes]))
      · have hno := fun q => c32 ((hm _ (pz_sp_i b len Z.1).2.2.2.2.2.2.1).mpr q)
        refine fg_aloadn (fg_ft (pc := 35) tb_Mo_numbered 19 rfl) rfl ?_
        refine fg_iconst (fg_ft (pc := 36) tb_Mo_numbered 20 rfl) ic_2 ?_
        refine fg_aloadn (fg_ft (pc := 37) tb_Mo_numbered 21 rfl) rfl ?_
        refine fg_getV (v := (nI (pz_S b len Z.1))) (fg_ft (pc := 38) tb_Mo_numbered 22 rfl) ff_Mo_81 ly_287 rfl (fg_lt ly_287 (by decide)) h.2.1.2.1 ?_
        refine fg_callV (fg_ft (pc := 41) tb_Mo_numbered 23 rfl) cf_Mo_114 (fg_isOf ly_287 rfl (fg_lt ly_287 (by decide))) (as := [.int (nI 2), .int (nI (pz_S b len Z.1))]) (st := []) rfl rfl (Nat.le_of_ble_eq_true rfl) (Nat.le_refl _) (Nat.le_refl _) (ev_Mo_also hle hb256 h (by decide) (by decide) (by decide) (rz_S_le hle) ?_)
        intro ν1 hag1 h1
        show fg_wp _ _ _ _ _ _ _ _ _ (ν1, fg_rho R, 304)
        refine fg_aloadn (fg_ft (pc := 44) tb_Mo_numbered 24 rfl) rfl ?_
        refine fg_callV (fg_ft (pc := 45) tb_Mo_numbered 25 rfl) cf_Mo_118 (fg_isOf ly_287 rfl (fg_lt ly_287 (by decide))) (as := []) (st := []) rfl rfl (Nat.le_of_ble_eq_true rfl) (Nat.le_refl _) (Nat.le_refl _) (ev_Mo_adv hle hb256 h1 ?_)
        intro ν2 hag2 h2
        show fg_wp _ _ _ _ _ _ _ _ _ (ν2, fg_rho R, 304)
        refine fg_iloadn (fg_ft (pc := 48) tb_Mo_numbered 26 rfl) rfl ?_
        refine fg_iloadn (fg_ft (pc := 49) tb_Mo_numbered 27 rfl) rfl ?_
        refine fg_iloadn (fg_ft (pc := 50) tb_Mo_numbered 28 rfl) rfl ?_
        refine fg_callS (fg_ft (pc := 51) tb_Mo_numbered 29 rfl) cf_Mo_110 (as := [.int (nI (pz_V b len Z.1)), .int (nI lo), .int x]) (st := []) rfl rfl (Nat.le_of_ble_eq_true rfl) (Nat.le_refl _) (Nat.le_refl _) (ev_Mo_isIn ?_)
        refine fg_ifB_eq (tgt := 61) (fg_ft (pc := 54) tb_Mo_numbered 30 rfl) (by decide) (fun c54 => ?_) (fun c54 => (absurd c54 c32))
        refine fg_iconst (fg_ft (pc := 61) tb_Mo_numbered 33 rfl) ic_m1 ?_
        exact fg_iret (fg_ft (pc := 62) tb_Mo_numbered 34 rfl) rfl rfl (fg_q (hN (fun q => q.elim c4 (fun g => g c12)) ν2 (rz_ag_tr hag1 hag2) (by rw [if_neg hno]; exact h2)) (by unfold rz_no; rw [if_neg hno]; rfl))
    · refine fg_aloadn (fg_ft (pc := 15) tb_Mo_numbered 7 rfl) rfl ?_
      refine fg_callV (fg_ft (pc := 16) tb_Mo_numbered 8 rfl) cf_Mo_107 (fg_isOf ly_287 rfl (fg_lt ly_287 (by decide))) (as := []) (st := []) rfl rfl (Nat.le_of_ble_eq_true rfl) (Nat.le_refl _) (Nat.le_refl _) (ev_Mo_ends hle hb256 h ?_)
      intro ν1 hag1 h1
      show fg_wp _ _ _ _ _ _ _ _ _ (ν1, fg_rho R, 304)
      refine fg_iconst (fg_ft (pc := 19) tb_Mo_numbered 9 rfl) ic_m1 ?_
      exact fg_iret (fg_ft (pc := 20) tb_Mo_numbered 10 rfl) rfl rfl (hW (by first | exact Or.inl c4 | exact Or.inr c12) ν1 hag1 h1)
theorem ev_Mo_numbered {E : fg_E} {d : Nat} {μ : Nat → Nat → Int32} {R : fg_T4} {Q : Option Value → fg_M → Prop} {b : Nat → Nat} {len : Nat} {Z : rz_Z} (hle : len ≤ 600) (hb256 : ∀ j, b j < 256) (h : rz_RZ μ b len Z) {lo hi : Nat} {x : Int32} (hm : ∀ n, n ≤ 99 → ((nI lo ≤ nI n ∧ nI n ≤ x) ↔ (lo ≤ n ∧ n < hi))) (hQ : ∀ μ' : Nat → Nat → Int32, rz_ag μ μ' → rz_RZ μ' b len (rz_nu (pz_K b len) (pz_V b len) (pz_S b len) lo hi Z).2 → Q (some (.int (nI (rz_nu (pz_K b len) (pz_V b len) (pz_S b len) lo hi Z).1))) (μ', fg_rho R, 304)) : fg_Ev E yy_Mo_numbered (d + 5) [.ref 287, .int (nI lo), .int x] (μ, fg_rho R, 304) 304 Q := ev_Mo_numberedX hle hb256 h hm (fun c μ' ha h1 => by
    have e : rz_nu (pz_K b len) (pz_V b len) (pz_S b len) lo hi Z = (4294967295, rz_en (pz_S b len) Z) := if_pos c
    rw [e] at hQ
    exact hQ μ' ha h1) (fun c μ' ha h1 => by
    have e : rz_nu (pz_K b len) (pz_V b len) (pz_S b len) lo hi Z = (rz_no lo hi (pz_V b len Z.1), rz_ad (if lo ≤ pz_V b len Z.1 ∧ pz_V b len Z.1 < hi then Z else rz_al 2 (pz_S b len Z.1) Z)) := if_neg c
    rw [e] at hQ
    exact hQ μ' ha h1)
theorem rz_m {lo hi : Nat} (hl : lo ≤ 100) (hh : hi ≤ 100) : ∀ n, n ≤ 99 → ((nI lo ≤ nI n ∧ nI n ≤ nI hi) ↔ (lo ≤ n ∧ n < hi + 1)) := fun n hn => by
  rw [nI_leI (by omega) (by omega), nI_leI (by omega) (by omega)]
  omega
theorem rz_mp {p : Nat} (hp : p < 2 ^ 30) : ∀ n, n ≤ 99 → ((nI 0 ≤ nI n ∧ nI n ≤ nI p - nI 1) ↔ (0 ≤ n ∧ n < p)) := fun n hn => by
  rcases Nat.eq_zero_or_pos p with q | q
  · subst q
    constructor
    · intro g
      have g2 := g.2
      rw [Int32.le_iff_toInt_le, nI_toInt (by omega)] at g2
      have : (nI 0 - nI 1).toInt = -1 := by decide
      omega
    · intro g; omega
  · rw [nI_sub q, nI_leI (by omega) (by omega), nI_leI (by omega) (by omega)]
    omega
theorem rz_no_lt {lo hi v : Nat} (hv : v ≤ 99) : rz_no lo hi v ≤ 99 ∨ rz_no lo hi v = 4294967295 := by
  unfold rz_no; split
  · exact Or.inl hv
  · exact Or.inr rfl
theorem rz_nu_lt {b : Nat → Nat} {len lo hi : Nat} {Z : rz_Z} : (rz_nu (pz_K b len) (pz_V b len) (pz_S b len) lo hi Z).1 ≤ 99 ∨ (rz_nu (pz_K b len) (pz_V b len) (pz_S b len) lo hi Z).1 = 4294967295 := by
  unfold rz_nu
  split
  · exact Or.inr rfl
  · exact rz_no_lt (pz_sp_i b len Z.1).2.2.2.2.2.2.1
theorem rz_gc {f g : Nat} (hf : f ≤ 99 ∨ f = 4294967295) (hg : g < 100) : (nI f ≤ nI g) ↔ ¬ (f ≠ 4294967295 ∧ g < f) := by
  rcases hf with q | q
  · rw [nI_leI (by omega) (by omega)]; omega
  · rw [q]
    constructor
    · intro _ hh; exact hh.1 rfl
    · intro _
      rw [Int32.le_iff_toInt_le, nI_toInt (n := g) (by omega)]
      have : (nI 4294967295).toInt = -1 := by decide
      omega
theorem rz_RZ.gr {μ : Nat → Nat → Int32} {b : Nat → Nat} {len : Nat} {r : Nat × rz_Z} (h : rz_RZ μ b len r.2) (hf : r.1 ≤ 99 ∨ r.1 = 4294967295) : rz_RZ (fg_u2 μ 287 9 (nI (if r.1 ≠ 4294967295 ∧ r.2.2.2.2.1 < r.1 then r.1 else r.2.2.2.2.1))) b len (rz_gr r).2 := by
  obtain ⟨⟨c1, c2⟩, ⟨l1, l2, l3, l4, l5⟩, r1, r2, r3, r4, r5, r6, r7, r8⟩ := h
  have u : ∀ a j, (a ≠ 287 ∨ j ≠ 9) → fg_u2 μ 287 9 (nI (if r.1 ≠ 4294967295 ∧ r.2.2.2.2.1 < r.1 then r.1 else r.2.2.2.2.1)) a j = μ a j := fun a j q => fg_u2nx (by omega)
  refine ⟨⟨(u 287 2 (by omega)).trans c1, fun i hi => (u 288 (10 + i) (by omega)).trans (c2 i hi)⟩, ⟨(u 287 3 (by omega)).trans l1, (u 287 4 (by omega)).trans l2, (u 287 5 (by omega)).trans l3, fun q => (u 287 6 (by omega)).trans (l4 q), fun q => (u 287 7 (by omega)).trans (l5 q)⟩, (u 287 8 (by omega)).trans r1, (u 288 3 (by omega)).trans r2, (u 288 4 (by omega)).trans r3, fg_u2eq, fun k hk => (u 290 k (by omega)).trans (r5 k hk), r6, r7, ?_⟩
  show (if r.1 ≠ 4294967295 ∧ r.2.2.2.2.1 < r.1 then r.1 else r.2.2.2.2.1) < 100
  split <;> omega
theorem ev_Mo_factOf {E : fg_E} {d : Nat} {μ : Nat → Nat → Int32} {R : fg_T4} {Q : Option Value → fg_M → Prop} {b : Nat → Nat} {len : Nat} {Z : rz_Z} (hle : len ≤ 600) (hb256 : ∀ j, b j < 256) (h : rz_RZ μ b len Z) (hQ : ∀ μ' : Nat → Nat → Int32, rz_ag μ μ' → rz_RZ μ' b len (rz_fa (pz_K b len) (pz_V b len) (pz_S b len) Z).2 → Q (some (.int (nI (rz_fa (pz_K b len) (pz_V b len) (pz_S b len) Z).1))) (μ', fg_rho R, 304)) : fg_Ev E yy_Mo_factOf (d + 6) [.ref 287] (μ, fg_rho R, 304) 304 Q := by
  refine fg_intro (by decide +kernel) (Nat.le_of_ble_eq_true rfl) (fg_okAs rfl) (Nat.le_refl _) ?_
  refine fg_aloadn (fg_ft (pc := 0) tb_Mo_factOf 0 rfl) rfl ?_
  refine fg_iconst (fg_ft (pc := 1) tb_Mo_factOf 1 rfl) ic_0 ?_
  refine fg_bipush (fg_ft (pc := 2) tb_Mo_factOf 2 rfl) ib_9 ?_
  refine fg_callV (fg_ft (pc := 4) tb_Mo_factOf 3 rfl) cf_Mo_121 (fg_isOf ly_287 rfl (fg_lt ly_287 (by decide))) (as := [.int (nI 0), .int (nI 9)]) (st := []) rfl rfl (Nat.le_of_ble_eq_true rfl) (Nat.le_refl _) (Nat.le_refl _) (ev_Mo_numbered (lo := 0) (hi := 10) hle hb256 h (rz_m (lo := 0) (hi := 9) (by decide) (by decide)) ?_)
  intro ν1 hag1 h1
  show fg_wp _ _ _ _ _ _ _ _ _ (ν1, fg_rho R, 304)
  refine fg_istoren (fg_ft (pc := 7) tb_Mo_factOf 4 rfl) (Nat.le_of_ble_eq_true rfl) ?_
  have hlt := rz_nu_lt (b := b) (len := len) (lo := 0) (hi := 10) (Z := Z)
  have hgc : (nI (rz_nu (pz_K b len) (pz_V b len) (pz_S b len) 0 10 Z).1 ≤ nI (rz_nu (pz_K b len) (pz_V b len) (pz_S b len) 0 10 Z).2.2.2.2.1) ↔ ¬ ((rz_nu (pz_K b len) (pz_V b len) (pz_S b len) 0 10 Z).1 ≠ 4294967295 ∧ (rz_nu (pz_K b len) (pz_V b len) (pz_S b len) 0 10 Z).2.2.2.2.1 < (rz_nu (pz_K b len) (pz_V b len) (pz_S b len) 0 10 Z).1) := rz_gc hlt h1.2.2.2.2.2.2.2.2.2
  refine fg_aloadn (fg_ft (pc := 8) tb_Mo_factOf 5 rfl) rfl ?_
  refine fg_iloadn (fg_ft (pc := 9) tb_Mo_factOf 6 rfl) rfl ?_
  refine fg_aloadn (fg_ft (pc := 10) tb_Mo_factOf 7 rfl) rfl ?_
  refine fg_getV (v := (nI ((rz_nu (pz_K b len) (pz_V b len) (pz_S b len) 0 10 Z).2.2.2.2.1))) (fg_ft (pc := 11) tb_Mo_factOf 8 rfl) ff_Mo_125 ly_287 rfl (fg_lt ly_287 (by decide)) h1.2.2.2.2.2.1 ?_
  refine fg_icmp_le (tgt := 21) (fg_ft (pc := 14) tb_Mo_factOf 9 rfl) (by decide) (fun c14 => ?_) (fun c14 => ?_)
  · refine fg_aloadn (fg_ft (pc := 21) tb_Mo_factOf 12 rfl) rfl ?_
    refine fg_getV (v := (nI ((rz_nu (pz_K b len) (pz_V b len) (pz_S b len) 0 10 Z).2.2.2.2.1))) (fg_ft (pc := 22) tb_Mo_factOf 13 rfl) ff_Mo_125 ly_287 rfl (fg_lt ly_287 (by decide)) h1.2.2.2.2.2.1 ?_
    refine fg_putI (fg_ft (pc := 25) tb_Mo_factOf 14 rfl) ff_Mo_125 ly_287 rfl (fg_lt ly_287 (by decide)) (fg_nokI _) (fun _ _ h => by cases h; rfl) ?_
    show fg_wp _ _ _ _ _ _ _ _ _ (fg_u2 ν1 287 9 (nI ((rz_nu (pz_K b len) (pz_V b len) (pz_S b len) 0 10 Z).2.2.2.2.1)), fg_rho R, 304)
    refine fg_iloadn (fg_ft (pc := 28) tb_Mo_factOf 15 rfl) rfl ?_
    exact fg_iret (fg_ft (pc := 29) tb_Mo_factOf 16 rfl) rfl rfl (by
    have hg := h1.gr hlt
    have hz : (if (rz_nu (pz_K b len) (pz_V b len) (pz_S b len) 0 10 Z).1 ≠ 4294967295 ∧ (rz_nu (pz_K b len) (pz_V b len) (pz_S b len) 0 10 Z).2.2.2.2.1 < (rz_nu (pz_K b len) (pz_V b len) (pz_S b len) 0 10 Z).1 then (rz_nu (pz_K b len) (pz_V b len) (pz_S b len) 0 10 Z).1 else (rz_nu (pz_K b len) (pz_V b len) (pz_S b len) 0 10 Z).2.2.2.2.1) = (rz_nu (pz_K b len) (pz_V b len) (pz_S b len) 0 10 Z).2.2.2.2.1 := by first | exact if_pos (by rcases Classical.em ((rz_nu (pz_K b len) (pz_V b len) (pz_S b len) 0 10 Z).1 ≠ 4294967295 ∧ (rz_nu (pz_K b len) (pz_V b len) (pz_S b len) 0 10 Z).2.2.2.2.1 < (rz_nu (pz_K b len) (pz_V b len) (pz_S b len) 0 10 Z).1) with q | q; exact q; exact absurd (hgc.mpr q) c14) | exact if_neg (hgc.mp c14)
    rw [hz] at hg
    exact hQ _ (fun a j p q r => (fg_u2nx (by omega)).trans (hag1 a j p q r)) hg)
  · refine fg_iloadn (fg_ft (pc := 17) tb_Mo_factOf 10 rfl) rfl ?_
    refine fg_goto (tgt := 25) (fg_ft (pc := 18) tb_Mo_factOf 11 rfl) (by decide) ?_
    refine fg_putI (fg_ft (pc := 25) tb_Mo_factOf 14 rfl) ff_Mo_125 ly_287 rfl (fg_lt ly_287 (by decide)) (fg_nokI _) (fun _ _ h => by cases h; rfl) ?_
    show fg_wp _ _ _ _ _ _ _ _ _ (fg_u2 ν1 287 9 (nI ((rz_nu (pz_K b len) (pz_V b len) (pz_S b len) 0 10 Z).1)), fg_rho R, 304)
    refine fg_iloadn (fg_ft (pc := 28) tb_Mo_factOf 15 rfl) rfl ?_
    exact fg_iret (fg_ft (pc := 29) tb_Mo_factOf 16 rfl) rfl rfl (by
    have hg := h1.gr hlt
    have hz : (if (rz_nu (pz_K b len) (pz_V b len) (pz_S b len) 0 10 Z).1 ≠ 4294967295 ∧ (rz_nu (pz_K b len) (pz_V b len) (pz_S b len) 0 10 Z).2.2.2.2.1 < (rz_nu (pz_K b len) (pz_V b len) (pz_S b len) 0 10 Z).1 then (rz_nu (pz_K b len) (pz_V b len) (pz_S b len) 0 10 Z).1 else (rz_nu (pz_K b len) (pz_V b len) (pz_S b len) 0 10 Z).2.2.2.2.1) = (rz_nu (pz_K b len) (pz_V b len) (pz_S b len) 0 10 Z).1 := by first | exact if_pos (by rcases Classical.em ((rz_nu (pz_K b len) (pz_V b len) (pz_S b len) 0 10 Z).1 ≠ 4294967295 ∧ (rz_nu (pz_K b len) (pz_V b len) (pz_S b len) 0 10 Z).2.2.2.2.1 < (rz_nu (pz_K b len) (pz_V b len) (pz_S b len) 0 10 Z).1) with q | q; exact q; exact absurd (hgc.mpr q) c14) | exact if_neg (hgc.mp c14)
    rw [hz] at hg
    exact hQ _ (fun a j p q r => (fg_u2nx (by omega)).trans (hag1 a j p q r)) hg)
theorem ev_Mo_takes {E : fg_E} {d : Nat} {μ : Nat → Nat → Int32} {R : fg_T4} {Q : Option Value → fg_M → Prop} {b : Nat → Nat} {len : Nat} {Z : rz_Z} (hle : len ≤ 600) (hb256 : ∀ j, b j < 256) (h : rz_RZ μ b len Z) {lo hi : Nat} (hlo : lo ≤ 20) (hhi : hi ≤ 20) (hQ : ∀ μ' : Nat → Nat → Int32, rz_ag μ μ' → rz_RZ μ' b len (rz_ta (pz_K b len) (pz_V b len) (pz_S b len) lo hi Z).2 → Q (some (.int (nI (rz_ta (pz_K b len) (pz_V b len) (pz_S b len) lo hi Z).1))) (μ', fg_rho R, 304)) : fg_Ev E yy_Mo_takes (d + 5) [.ref 287, .int (nI lo), .int (nI hi)] (μ, fg_rho R, 304) 304 Q := by
  refine fg_intro (by decide +kernel) (Nat.le_of_ble_eq_true rfl) (fg_okAs rfl) (Nat.le_refl _) ?_
  refine fg_aloadn (fg_ft (pc := 0) tb_Mo_takes 0 rfl) rfl ?_
  refine fg_getV (v := (fg_bI (Z.2.1 = 1))) (fg_ft (pc := 1) tb_Mo_takes 1 rfl) ff_Mo_103 ly_287 rfl (fg_lt ly_287 (by decide)) h.2.2.1 ?_
  refine fg_ifB_ne (tgt := 27) (fg_ft (pc := 4) tb_Mo_takes 2 rfl) (by decide) (fun c4 => ?_) (fun c4 => ?_)
  · refine fg_aloadn (fg_ft (pc := 27) tb_Mo_takes 13 rfl) rfl ?_
    refine fg_callV (fg_ft (pc := 28) tb_Mo_takes 14 rfl) cf_Mo_107 (fg_isOf ly_287 rfl (fg_lt ly_287 (by decide))) (as := []) (st := []) rfl rfl (Nat.le_of_ble_eq_true rfl) (Nat.le_refl _) (Nat.le_refl _) (ev_Mo_ends hle hb256 h ?_)
    intro ν1 hag1 h1
    show fg_wp _ _ _ _ _ _ _ _ _ (ν1, fg_rho R, 304)
    refine fg_iconst (fg_ft (pc := 31) tb_Mo_takes 15 rfl) ic_0 ?_
    exact fg_iret (fg_ft (pc := 32) tb_Mo_takes 16 rfl) rfl rfl (by
    have e : rz_ta (pz_K b len) (pz_V b len) (pz_S b len) lo hi Z = (0, rz_en (pz_S b len) Z) := if_pos (by first | exact Or.inl c4 | exact Or.inr (Or.inl c12) | exact Or.inr (Or.inr c24))
    rw [e] at hQ; exact hQ ν1 hag1 h1)
  · refine fg_aloadn (fg_ft (pc := 7) tb_Mo_takes 3 rfl) rfl ?_
    refine fg_getV (v := (nI (pz_K b len Z.1))) (fg_ft (pc := 8) tb_Mo_takes 4 rfl) ff_Mo_84 ly_287 rfl (fg_lt ly_287 (by decide)) h.2.1.2.2.1 ?_
    refine fg_iconst (fg_ft (pc := 11) tb_Mo_takes 5 rfl) ic_3 ?_
    refine fg_icmp_neN (tgt := 27) (fg_ft (pc := 12) tb_Mo_takes 6 rfl) (by decide) (by have := (pz_sp_i b len Z.1).2.2.2.1; omega) (by decide) (fun c12 => ?_) (fun c12 => ?_)
    · refine fg_aloadn (fg_ft (pc := 27) tb_Mo_takes 13 rfl) rfl ?_
      refine fg_callV (fg_ft (pc := 28) tb_Mo_takes 14 rfl) cf_Mo_107 (fg_isOf ly_287 rfl (fg_lt ly_287 (by decide))) (as := []) (st := []) rfl rfl (Nat.le_of_ble_eq_true rfl) (Nat.le_refl _) (Nat.le_refl _) (ev_Mo_ends hle hb256 h ?_)
      intro ν1 hag1 h1
      show fg_wp _ _ _ _ _ _ _ _ _ (ν1, fg_rho R, 304)
      refine fg_iconst (fg_ft (pc := 31) tb_Mo_takes 15 rfl) ic_0 ?_
      exact fg_iret (fg_ft (pc := 32) tb_Mo_takes 16 rfl) rfl rfl (by
    have e : rz_ta (pz_K b len) (pz_V b len) (pz_S b len) lo hi Z = (0, rz_en (pz_S b len) Z) := if_pos (by first | exact Or.inl c4 | exact Or.inr (Or.inl c12) | exact Or.inr (Or.inr c24))
    rw [e] at hQ; exact hQ ν1 hag1 h1)
    · refine fg_aloadn (fg_ft (pc := 15) tb_Mo_takes 7 rfl) rfl ?_
      refine fg_getV (v := (nI (pz_V b len Z.1 + 1))) (fg_ft (pc := 16) tb_Mo_takes 8 rfl) ff_Mo_94 ly_287 rfl (fg_lt ly_287 (by decide)) (h.2.1.2.2.2.2 c12) ?_
      refine fg_iloadn (fg_ft (pc := 19) tb_Mo_takes 9 rfl) rfl ?_
      refine fg_iloadn (fg_ft (pc := 20) tb_Mo_takes 10 rfl) rfl ?_
      refine fg_callS (fg_ft (pc := 21) tb_Mo_takes 11 rfl) cf_Mo_110 (as := [.int (nI (pz_V b len Z.1 + 1)), .int (nI lo), .int (nI hi)]) (st := []) rfl rfl (Nat.le_of_ble_eq_true rfl) (Nat.le_refl _) (Nat.le_refl _) (ev_Mo_isInC (k := pz_V b len Z.1 + 1) (a := lo) (b := hi) (by have := (pz_sp_i b len Z.1).2.2.2.2.2.2.1; omega) (by omega) (by omega) ?_)
      refine fg_ifB_ne (tgt := 33) (fg_ft (pc := 24) tb_Mo_takes 12 rfl) (by decide) (fun c24 => ?_) (fun c24 => ?_)
      · refine fg_aloadn (fg_ft (pc := 33) tb_Mo_takes 17 rfl) rfl ?_
        refine fg_getV (v := (nI (pz_V b len Z.1 + 1))) (fg_ft (pc := 34) tb_Mo_takes 18 rfl) ff_Mo_94 ly_287 rfl (fg_lt ly_287 (by decide)) (h.2.1.2.2.2.2 c12) ?_
        refine fg_istoren (fg_ft (pc := 37) tb_Mo_takes 19 rfl) (Nat.le_of_ble_eq_true rfl) ?_
        refine fg_aloadn (fg_ft (pc := 38) tb_Mo_takes 20 rfl) rfl ?_
        refine fg_callV (fg_ft (pc := 39) tb_Mo_takes 21 rfl) cf_Mo_118 (fg_isOf ly_287 rfl (fg_lt ly_287 (by decide))) (as := []) (st := []) rfl rfl (Nat.le_of_ble_eq_true rfl) (Nat.le_refl _) (Nat.le_refl _) (ev_Mo_adv hle hb256 h ?_)
        intro ν1 hag1 h1
        show fg_wp _ _ _ _ _ _ _ _ _ (ν1, fg_rho R, 304)
        refine fg_iloadn (fg_ft (pc := 42) tb_Mo_takes 22 rfl) rfl ?_
        exact fg_iret (fg_ft (pc := 43) tb_Mo_takes 23 rfl) rfl rfl (by
    have e : rz_ta (pz_K b len) (pz_V b len) (pz_S b len) lo hi Z = (pz_V b len Z.1 + 1, rz_ad Z) := if_neg (fun q => q.elim c4 (fun q => q.elim (fun g => g c12) (fun g => g c24)))
    rw [e] at hQ; exact hQ ν1 hag1 h1)
      · refine fg_aloadn (fg_ft (pc := 27) tb_Mo_takes 13 rfl) rfl ?_
        refine fg_callV (fg_ft (pc := 28) tb_Mo_takes 14 rfl) cf_Mo_107 (fg_isOf ly_287 rfl (fg_lt ly_287 (by decide))) (as := []) (st := []) rfl rfl (Nat.le_of_ble_eq_true rfl) (Nat.le_refl _) (Nat.le_refl _) (ev_Mo_ends hle hb256 h ?_)
        intro ν1 hag1 h1
        show fg_wp _ _ _ _ _ _ _ _ _ (ν1, fg_rho R, 304)
        refine fg_iconst (fg_ft (pc := 31) tb_Mo_takes 15 rfl) ic_0 ?_
        exact fg_iret (fg_ft (pc := 32) tb_Mo_takes 16 rfl) rfl rfl (by
    have e : rz_ta (pz_K b len) (pz_V b len) (pz_S b len) lo hi Z = (0, rz_en (pz_S b len) Z) := if_pos (by first | exact Or.inl c4 | exact Or.inr (Or.inl c12) | exact Or.inr (Or.inr c24))
    rw [e] at hQ; exact hQ ν1 hag1 h1)
theorem ev_Mo_endsLine {E : fg_E} {d : Nat} {μ : Nat → Nat → Int32} {R : fg_T4} {Q : Option Value → fg_M → Prop} {b : Nat → Nat} {len : Nat} {Z : rz_Z} (hle : len ≤ 600) (hb256 : ∀ j, b j < 256) (h : rz_RZ μ b len Z) (hQ : ∀ μ' : Nat → Nat → Int32, rz_ag μ μ' → rz_RZ μ' b len (rz_el (pz_K b len) (pz_S b len) Z) → Q none (μ', fg_rho R, 304)) : fg_Ev E yy_Mo_endsLine (d + 5) [.ref 287] (μ, fg_rho R, 304) 304 Q := by
  refine fg_intro (by decide +kernel) (Nat.le_of_ble_eq_true rfl) (fg_okAs rfl) (Nat.le_refl _) ?_
  refine fg_aloadn (fg_ft (pc := 0) tb_Mo_endsLine 0 rfl) rfl ?_
  refine fg_getV (v := (fg_bI (Z.2.1 = 1))) (fg_ft (pc := 1) tb_Mo_endsLine 1 rfl) ff_Mo_103 ly_287 rfl (fg_lt ly_287 (by decide)) h.2.2.1 ?_
  refine fg_ifB_ne (tgt := 22) (fg_ft (pc := 4) tb_Mo_endsLine 2 rfl) (by decide) (fun c4 => ?_) (fun c4 => ?_)
  · refine fg_aloadn (fg_ft (pc := 22) tb_Mo_endsLine 10 rfl) rfl ?_
    refine fg_callV (fg_ft (pc := 23) tb_Mo_endsLine 11 rfl) cf_Mo_107 (fg_isOf ly_287 rfl (fg_lt ly_287 (by decide))) (as := []) (st := []) rfl rfl (Nat.le_of_ble_eq_true rfl) (Nat.le_refl _) (Nat.le_refl _) (ev_Mo_ends hle hb256 h ?_)
    intro ν1 hag1 h1
    show fg_wp _ _ _ _ _ _ _ _ _ (ν1, fg_rho R, 304)
    exact fg_vret (fg_ft (pc := 26) tb_Mo_endsLine 12 rfl) rfl rfl (by
    have e : rz_el (pz_K b len) (pz_S b len) Z = rz_en (pz_S b len) Z := if_neg (fun q => by first | exact q.1 c4 | exact c12 q.2)
    rw [e] at hQ; exact hQ ν1 hag1 h1)
  · refine fg_aloadn (fg_ft (pc := 7) tb_Mo_endsLine 3 rfl) rfl ?_
    refine fg_getV (v := (nI (pz_K b len Z.1))) (fg_ft (pc := 8) tb_Mo_endsLine 4 rfl) ff_Mo_84 ly_287 rfl (fg_lt ly_287 (by decide)) h.2.1.2.2.1 ?_
    refine fg_iconst (fg_ft (pc := 11) tb_Mo_endsLine 5 rfl) ic_2 ?_
    refine fg_icmp_neN (tgt := 22) (fg_ft (pc := 12) tb_Mo_endsLine 6 rfl) (by decide) (by have := (pz_sp_i b len Z.1).2.2.2.1; omega) (by decide) (fun c12 => ?_) (fun c12 => ?_)
    · refine fg_aloadn (fg_ft (pc := 22) tb_Mo_endsLine 10 rfl) rfl ?_
      refine fg_callV (fg_ft (pc := 23) tb_Mo_endsLine 11 rfl) cf_Mo_107 (fg_isOf ly_287 rfl (fg_lt ly_287 (by decide))) (as := []) (st := []) rfl rfl (Nat.le_of_ble_eq_true rfl) (Nat.le_refl _) (Nat.le_refl _) (ev_Mo_ends hle hb256 h ?_)
      intro ν1 hag1 h1
      show fg_wp _ _ _ _ _ _ _ _ _ (ν1, fg_rho R, 304)
      exact fg_vret (fg_ft (pc := 26) tb_Mo_endsLine 12 rfl) rfl rfl (by
    have e : rz_el (pz_K b len) (pz_S b len) Z = rz_en (pz_S b len) Z := if_neg (fun q => by first | exact q.1 c4 | exact c12 q.2)
    rw [e] at hQ; exact hQ ν1 hag1 h1)
    · refine fg_aloadn (fg_ft (pc := 15) tb_Mo_endsLine 7 rfl) rfl ?_
      refine fg_callV (fg_ft (pc := 16) tb_Mo_endsLine 8 rfl) cf_Mo_118 (fg_isOf ly_287 rfl (fg_lt ly_287 (by decide))) (as := []) (st := []) rfl rfl (Nat.le_of_ble_eq_true rfl) (Nat.le_refl _) (Nat.le_refl _) (ev_Mo_adv hle hb256 h ?_)
      intro ν2 hag1 h1
      show fg_wp _ _ _ _ _ _ _ _ _ (ν2, fg_rho R, 304)
      refine fg_goto (tgt := 26) (fg_ft (pc := 19) tb_Mo_endsLine 9 rfl) (by decide) ?_
      exact fg_vret (fg_ft (pc := 26) tb_Mo_endsLine 12 rfl) rfl rfl (by
    have e : rz_el (pz_K b len) (pz_S b len) Z = rz_ad Z := if_pos ⟨c4, c12⟩
    rw [e] at hQ; exact hQ ν2 hag1 h1)
