/-! a text is told: the reference, whole -/
theorem rz_tx_w1_0 {E : fg_E} {d : Nat} {μ : Nat → Nat → Int32} {R : fg_T4} {Q : Option Value → fg_M → Prop} {b : Nat → Nat} {len : Nat} {Z : rz_Z} (hle : len ≤ 600) (hb256 : ∀ j, b j < 256) (h : rz_RZ μ b len Z) {a : Nat} {v3 v4 v5 : Value} (hw1 : Z.2.1 = 1) (hK : fg_wp E yy_Mo_text (d + 10) 304 304 Q 165 [.ref 287, .int (nI 0), .int (nI a), v3, v4, v5] [] (μ, fg_rho R, 304)) : fg_wp E yy_Mo_text (d + 10) 304 304 Q 133 [.ref 287, .int (nI 0), .int (nI a), v3, v4, v5] [] (μ, fg_rho R, 304) := by
  refine fg_aloadn (fg_ft (pc := 133) tb_Mo_text 80 rfl) rfl ?_
  refine fg_getV (v := (fg_bI (Z.2.1 = 1))) (fg_ft (pc := 134) tb_Mo_text 81 rfl) ff_Mo_103 ly_287 rfl (fg_lt ly_287 (by decide)) h.2.2.1 ?_
  refine fg_ifB_ne (tgt := 165) (fg_ft (pc := 137) tb_Mo_text 82 rfl) (by decide) (fun c137 => ?_) (fun c137 => (absurd hw1 c137))
  exact hK
theorem rz_tx_w2_0 {E : fg_E} {d : Nat} {μ : Nat → Nat → Int32} {R : fg_T4} {Q : Option Value → fg_M → Prop} {b : Nat → Nat} {len : Nat} {Z : rz_Z} (hle : len ≤ 600) (hb256 : ∀ j, b j < 256) (h : rz_RZ μ b len Z) {a : Nat} {v3 v4 v5 : Value} (hw1 : ¬ Z.2.1 = 1) (hk0 : pz_K b len Z.1 = 0) (hK : fg_wp E yy_Mo_text (d + 10) 304 304 Q 165 [.ref 287, .int (nI 0), .int (nI a), v3, v4, v5] [] (μ, fg_rho R, 304)) : fg_wp E yy_Mo_text (d + 10) 304 304 Q 133 [.ref 287, .int (nI 0), .int (nI a), v3, v4, v5] [] (μ, fg_rho R, 304) := by
  refine fg_aloadn (fg_ft (pc := 133) tb_Mo_text 80 rfl) rfl ?_
  refine fg_getV (v := (fg_bI (Z.2.1 = 1))) (fg_ft (pc := 134) tb_Mo_text 81 rfl) ff_Mo_103 ly_287 rfl (fg_lt ly_287 (by decide)) h.2.2.1 ?_
  refine fg_ifB_ne (tgt := 165) (fg_ft (pc := 137) tb_Mo_text 82 rfl) (by decide) (fun c137 => (absurd c137 hw1)) (fun c137 => ?_)
  refine fg_aloadn (fg_ft (pc := 140) tb_Mo_text 83 rfl) rfl ?_
  refine fg_getV (v := (nI (pz_K b len Z.1))) (fg_ft (pc := 141) tb_Mo_text 84 rfl) ff_Mo_84 ly_287 rfl (fg_lt ly_287 (by decide)) h.2.1.2.2.1 ?_
  refine fg_if_eqN (tgt := 165) (fg_ft (pc := 144) tb_Mo_text 85 rfl) (by decide) (by have := (pz_sp_i b len Z.1).2.2.2.1; omega) (fun c144 => ?_) (fun c144 => (absurd hk0 c144))
  exact hK
theorem rz_tx_w3_0 {E : fg_E} {d : Nat} {μ : Nat → Nat → Int32} {R : fg_T4} {Q : Option Value → fg_M → Prop} {b : Nat → Nat} {len : Nat} {Z : rz_Z} (hle : len ≤ 600) (hb256 : ∀ j, b j < 256) (h : rz_RZ μ b len Z) {a : Nat} {v3 v4 v5 : Value} (hw1 : ¬ Z.2.1 = 1) (hk0 : ¬ pz_K b len Z.1 = 0) (hcnt : ∀ k, 1 ≤ k → k ≤ 6 → Z.2.2.2.2 k ≤ 700) (hK : ∀ ν : Nat → Nat → Int32, rz_ag μ ν → rz_RZ ν b len (rz_tl (pz_K b len) (pz_V b len) (pz_S b len) len Z) → fg_wp E yy_Mo_text (d + 10) 304 304 Q 133 [.ref 287, .int (nI 0), .int (nI a), v3, v4, v5] [] (ν, fg_rho R, 304)) : fg_wp E yy_Mo_text (d + 10) 304 304 Q 133 [.ref 287, .int (nI 0), .int (nI a), v3, v4, v5] [] (μ, fg_rho R, 304) := by
  refine fg_aloadn (fg_ft (pc := 133) tb_Mo_text 80 rfl) rfl ?_
  refine fg_getV (v := (fg_bI (Z.2.1 = 1))) (fg_ft (pc := 134) tb_Mo_text 81 rfl) ff_Mo_103 ly_287 rfl (fg_lt ly_287 (by decide)) h.2.2.1 ?_
  refine fg_ifB_ne (tgt := 165) (fg_ft (pc := 137) tb_Mo_text 82 rfl) (by decide) (fun c137 => (absurd c137 hw1)) (fun c137 => ?_)
  refine fg_aloadn (fg_ft (pc := 140) tb_Mo_text 83 rfl) rfl ?_
  refine fg_getV (v := (nI (pz_K b len Z.1))) (fg_ft (pc := 141) tb_Mo_text 84 rfl) ff_Mo_84 ly_287 rfl (fg_lt ly_287 (by decide)) h.2.1.2.2.1 ?_
  refine fg_if_eqN (tgt := 165) (fg_ft (pc := 144) tb_Mo_text 85 rfl) (by decide) (by have := (pz_sp_i b len Z.1).2.2.2.1; omega) (fun c144 => (absurd c144 hk0)) (fun c144 => ?_)
  refine fg_iloadn (fg_ft (pc := 147) tb_Mo_text 86 rfl) rfl ?_
  refine fg_if_ne (tgt := 158) (fg_ft (pc := 148) tb_Mo_text 87 rfl) (by decide) (fun h => absurd h (by decide)) (fun _ => ?_)
  refine fg_aloadn (fg_ft (pc := 151) tb_Mo_text 88 rfl) rfl ?_
  refine fg_callV (fg_ft (pc := 152) tb_Mo_text 89 rfl) cf_Mo_160 (fg_isOf ly_287 rfl (fg_lt ly_287 (by decide))) (as := []) (st := []) rfl rfl (Nat.le_of_ble_eq_true rfl) (Nat.le_refl _) (Nat.le_refl _) (ev_Mo_townLine hle hb256 h hcnt ?_)
  intro ν1 hg1 h1
  have ag1 := hg1
  show fg_wp _ _ _ _ _ _ _ _ _ (ν1, fg_rho R, 304)
  refine fg_goto (tgt := 133) (fg_ft (pc := 155) tb_Mo_text 90 rfl) (by decide) ?_
  exact hK ν1 ag1 h1
theorem rz_tx_loop_0 {E : fg_E} {d : Nat} {μ : Nat → Nat → Int32} {R : fg_T4} {Q : Option Value → fg_M → Prop} {b : Nat → Nat} {len : Nat} (hle : len ≤ 600) (hb256 : ∀ j, b j < 256) {a : Nat} {v3 v4 v5 : Value} : ∀ (f j : Nat) (X : pz_X) (Z : rz_Z) (ν : Nat → Nat → Int32), len ≤ f + j → rz_RZ ν b len Z → rz_Rg (pz_S b len) 0 j X Z → (X.1 = 0 → pz_I9 0 X) → (∀ k, k ≤ 6 → (0 = 0 → 1 ≤ k) → (0 = 1 → k = 0) → Z.2.2.2.2 k ≤ j) → (∀ (ν' : Nat → Nat → Int32) (Z' : rz_Z), rz_ag ν ν' → rz_RZ ν' b len Z' → rz_Re (pz_S b len) 0 (pz_pa (pz_K b len) (pz_V b len) (pz_S b len) len 0 f (j, X)) Z' → (Z'.2.1 ≠ 1 → pz_K b len Z'.1 = 0) → fg_wp E yy_Mo_text (d + 10) 304 304 Q 165 [.ref 287, .int (nI 0), .int (nI a), v3, v4, v5] [] (ν', fg_rho R, 304)) → fg_wp E yy_Mo_text (d + 10) 304 304 Q 133 [.ref 287, .int (nI 0), .int (nI a), v3, v4, v5] [] (ν, fg_rho R, 304) := by
  have hT := rz_TS_of b len
  intro f
  induction f with
  | zero =>
    intro j X Z ν hf h hR hX hc hK
    obtain ⟨z1, z2⟩ := hR.n1
    have hk0 : pz_K b len Z.1 = 0 := by
      rcases Nat.eq_zero_or_pos (pz_K b len Z.1) with g | g
      · exact g
      · have := ((hT Z.1).1 (by omega)).2; omega
    exact rz_tx_w2_0 hle hb256 h z2 hk0 (hK ν Z (rz_ag_rf ν) h ⟨fun g => absurd g hR.1.2.1, fun _ => hR⟩ (fun _ => hk0))
  | succ f ih =>
    intro j X Z ν hf h hR hX hc hK
    obtain ⟨z1, z2⟩ := hR.n1
    by_cases hk0 : pz_K b len Z.1 = 0
    · have e9 : pz_pa (pz_K b len) (pz_V b len) (pz_S b len) len 0 (f + 1) (j, X) = (j, X) := if_pos (Or.inr (by rw [← z1]; exact hk0))
      rw [e9] at hK
      exact rz_tx_w2_0 hle hb256 h z2 hk0 (hK ν Z (rz_ag_rf ν) h ⟨fun g => absurd g hR.1.2.1, fun _ => hR⟩ (fun _ => hk0))
    · have hj := ((hT Z.1).1 hk0).2
      have e9 : pz_pa (pz_K b len) (pz_V b len) (pz_S b len) len 0 (f + 1) (j, X) = pz_pa (pz_K b len) (pz_V b len) (pz_S b len) len 0 f (pz_l1 (pz_K b len) (pz_V b len) (pz_S b len) len 0 (j, X)) := if_neg (fun g => g.elim hR.1.2.1 (fun g => hk0 (by rw [z1]; exact g)))
      rw [e9] at hK
      refine rz_tx_w3_0 hle hb256 h z2 hk0 (fun k g1 g2 => Nat.le_trans (hc k g2 (fun _ => g1) (fun g => absurd g (by decide))) (by omega)) (fun ν1 ag1 h1 => ?_)
      obtain ⟨r1, r2, r3⟩ := rz_stepL (sort := 0) hT (by decide) hX hR
      have r1' : rz_Re (pz_S b len) 0 (pz_l1 (pz_K b len) (pz_V b len) (pz_S b len) len 0 (j, X)) (rz_tl (pz_K b len) (pz_V b len) (pz_S b len) len Z) := r1
      have hck : ∀ k, k ≤ 6 → (0 = 0 → 1 ≤ k) → (0 = 1 → k = 0) → (rz_tl (pz_K b len) (pz_V b len) (pz_S b len) len Z).2.2.2.2 k ≤ j + 1 := fun k g1 g2 g3 => Nat.le_trans (rz_ln_k (len := len) (sort := 0) (by decide) g1 g2 g3) (Nat.succ_le_succ (hc k g1 g2 g3))
      generalize pz_l1 (pz_K b len) (pz_V b len) (pz_S b len) len 0 (j, X) = s1 at r1' r2 r3 hK
      obtain ⟨j2, X2⟩ := s1
      by_cases g : X2.1 = 1
      · have e8 : pz_pa (pz_K b len) (pz_V b len) (pz_S b len) len 0 f (j2, X2) = (j2, X2) := pz_pa_1 g
        rw [e8] at hK
        have w := r1'.1 g
        exact rz_tx_w1_0 hle hb256 h1 w.2.1 (hK ν1 _ ag1 h1 r1' (fun g2 => absurd w.2.1 g2))
      · have r3' : j + 1 ≤ j2 := r3 g
        exact ih j2 X2 _ ν1 (by omega) h1 (r1'.2 g) r2 (fun k g1 g2 g3 => Nat.le_trans (hck k g1 g2 g3) r3') (fun ν2 Z2 a1 a2 a3 a4 => hK ν2 Z2 (rz_ag_tr ag1 a1) a2 a3 a4)
theorem rz_tx_clr0 {E : fg_E} {d : Nat} {μ : Nat → Nat → Int32} {R : fg_T4} {Q : Option Value → fg_M → Prop} {a : Nat} {v4 v5 : Value} (hK : ∀ ν : Nat → Nat → Int32, (∀ a, a ≠ 290 → ∀ x, ν a x = μ a x) → (∀ x, x < 152 → ν 290 x = nI 0) → fg_wp E yy_Mo_text (d + 10) 304 304 Q 109 [.ref 287, .int (nI 0), .int (nI a), .int (nI 152), v4, v5] [] (ν, fg_rho R, 304)) : fg_wp E yy_Mo_text (d + 10) 304 304 Q 89 [.ref 287, .int (nI 0), .int (nI a), .int (nI 0), v4, v5] [] (μ, fg_rho R, 304) := by
  have loop : ∀ (q i : Nat) (ν : Nat → Nat → Int32), 152 - i < q → i ≤ 152 → (∀ a, a ≠ 290 → ∀ x, ν a x = μ a x) → (∀ x, x < i → ν 290 x = nI 0) → fg_wp E yy_Mo_text (d + 10) 304 304 Q 89 [.ref 287, .int (nI 0), .int (nI a), .int (nI i), v4, v5] [] (ν, fg_rho R, 304) := by
    intro q
    induction q with
    | zero => intro i ν h; exact absurd h (Nat.not_lt_zero _)
    | succ q ih =>
      intro i ν hq hj hag hm
      refine fg_iloadn (fg_ft (pc := 89) tb_Mo_text 56 rfl) rfl ?_
      refine fg_sipush (fg_ft (pc := 90) tb_Mo_text 57 rfl) is_152 ?_
      refine fg_icmp_geN (tgt := 109) (fg_ft (pc := 93) tb_Mo_text 58 rfl) (by decide) (by omega) (by decide) (fun c93 => ?_) (fun c93 => ?_)
      · rw [show i = 152 by omega] at hm ⊢
        exact hK ν hag hm
      · refine fg_aloadn (fg_ft (pc := 96) tb_Mo_text 59 rfl) rfl ?_
        refine fg_getR (fg_ft (pc := 97) tb_Mo_text 60 rfl) ff_Mo_17 ly_287 rfl (fg_lt ly_287 (by decide)) (rh_287_10 R) ?_
        refine fg_iloadn (fg_ft (pc := 100) tb_Mo_text 61 rfl) rfl ?_
        refine fg_iconst (fg_ft (pc := 101) tb_Mo_text 62 rfl) ic_0 ?_
        refine fg_iastN (fg_ft (pc := 102) tb_Mo_text 63 rfl) ly_290 (fg_lt ly_290 (by decide)) (by omega) ?_
        show fg_wp _ _ _ _ _ _ _ _ _ (fg_u2 ν 290 i (nI 0), fg_rho R, 304)
        refine fg_iincN (fg_ft (pc := 103) tb_Mo_text 64 rfl) rfl ic_1 rfl ?_
        refine fg_goto (tgt := 89) (fg_ft (pc := 106) tb_Mo_text 65 rfl) (by decide) ?_
        exact ih (i + 1) _ (by omega) (by omega) (fun a9 a1 x => (fg_u2ne a1).trans (hag a9 a1 x)) (fun x hx => by
                  rcases Nat.decEq x i with e | e
                  · exact (fg_u2ns e).trans (hm x (by omega))
                  · rw [e]; exact fg_u2eq)
  exact loop 153 0 μ (by omega) (by omega) (fun _ _ _ => rfl) (fun x hx => absurd hx (Nat.not_lt_zero _))
theorem rz_tx_w1_1 {E : fg_E} {d : Nat} {μ : Nat → Nat → Int32} {R : fg_T4} {Q : Option Value → fg_M → Prop} {b : Nat → Nat} {len : Nat} {Z : rz_Z} (hle : len ≤ 600) (hb256 : ∀ j, b j < 256) (h : rz_RZ μ b len Z) {a : Nat} {v3 v4 v5 : Value} (hw1 : Z.2.1 = 1) (hK : fg_wp E yy_Mo_text (d + 10) 304 304 Q 165 [.ref 287, .int (nI 1), .int (nI a), v3, v4, v5] [] (μ, fg_rho R, 304)) : fg_wp E yy_Mo_text (d + 10) 304 304 Q 133 [.ref 287, .int (nI 1), .int (nI a), v3, v4, v5] [] (μ, fg_rho R, 304) := by
  refine fg_aloadn (fg_ft (pc := 133) tb_Mo_text 80 rfl) rfl ?_
  refine fg_getV (v := (fg_bI (Z.2.1 = 1))) (fg_ft (pc := 134) tb_Mo_text 81 rfl) ff_Mo_103 ly_287 rfl (fg_lt ly_287 (by decide)) h.2.2.1 ?_
  refine fg_ifB_ne (tgt := 165) (fg_ft (pc := 137) tb_Mo_text 82 rfl) (by decide) (fun c137 => ?_) (fun c137 => (absurd hw1 c137))
  exact hK
theorem rz_tx_w2_1 {E : fg_E} {d : Nat} {μ : Nat → Nat → Int32} {R : fg_T4} {Q : Option Value → fg_M → Prop} {b : Nat → Nat} {len : Nat} {Z : rz_Z} (hle : len ≤ 600) (hb256 : ∀ j, b j < 256) (h : rz_RZ μ b len Z) {a : Nat} {v3 v4 v5 : Value} (hw1 : ¬ Z.2.1 = 1) (hk0 : pz_K b len Z.1 = 0) (hK : fg_wp E yy_Mo_text (d + 10) 304 304 Q 165 [.ref 287, .int (nI 1), .int (nI a), v3, v4, v5] [] (μ, fg_rho R, 304)) : fg_wp E yy_Mo_text (d + 10) 304 304 Q 133 [.ref 287, .int (nI 1), .int (nI a), v3, v4, v5] [] (μ, fg_rho R, 304) := by
  refine fg_aloadn (fg_ft (pc := 133) tb_Mo_text 80 rfl) rfl ?_
  refine fg_getV (v := (fg_bI (Z.2.1 = 1))) (fg_ft (pc := 134) tb_Mo_text 81 rfl) ff_Mo_103 ly_287 rfl (fg_lt ly_287 (by decide)) h.2.2.1 ?_
  refine fg_ifB_ne (tgt := 165) (fg_ft (pc := 137) tb_Mo_text 82 rfl) (by decide) (fun c137 => (absurd c137 hw1)) (fun c137 => ?_)
  refine fg_aloadn (fg_ft (pc := 140) tb_Mo_text 83 rfl) rfl ?_
  refine fg_getV (v := (nI (pz_K b len Z.1))) (fg_ft (pc := 141) tb_Mo_text 84 rfl) ff_Mo_84 ly_287 rfl (fg_lt ly_287 (by decide)) h.2.1.2.2.1 ?_
  refine fg_if_eqN (tgt := 165) (fg_ft (pc := 144) tb_Mo_text 85 rfl) (by decide) (by have := (pz_sp_i b len Z.1).2.2.2.1; omega) (fun c144 => ?_) (fun c144 => (absurd hk0 c144))
  exact hK
theorem rz_tx_w3_1 {E : fg_E} {d : Nat} {μ : Nat → Nat → Int32} {R : fg_T4} {Q : Option Value → fg_M → Prop} {b : Nat → Nat} {len : Nat} {Z : rz_Z} (hle : len ≤ 600) (hb256 : ∀ j, b j < 256) (h : rz_RZ μ b len Z) {a : Nat} {v3 v4 v5 : Value} (hw1 : ¬ Z.2.1 = 1) (hk0 : ¬ pz_K b len Z.1 = 0) (hcnt : Z.2.2.2.2 0 ≤ 700) (hK : ∀ ν : Nat → Nat → Int32, rz_ag μ ν → rz_RZ ν b len (rz_dl (pz_K b len) (pz_V b len) (pz_S b len) Z) → fg_wp E yy_Mo_text (d + 10) 304 304 Q 133 [.ref 287, .int (nI 1), .int (nI a), v3, v4, v5] [] (ν, fg_rho R, 304)) : fg_wp E yy_Mo_text (d + 10) 304 304 Q 133 [.ref 287, .int (nI 1), .int (nI a), v3, v4, v5] [] (μ, fg_rho R, 304) := by
  refine fg_aloadn (fg_ft (pc := 133) tb_Mo_text 80 rfl) rfl ?_
  refine fg_getV (v := (fg_bI (Z.2.1 = 1))) (fg_ft (pc := 134) tb_Mo_text 81 rfl) ff_Mo_103 ly_287 rfl (fg_lt ly_287 (by decide)) h.2.2.1 ?_
  refine fg_ifB_ne (tgt := 165) (fg_ft (pc := 137) tb_Mo_text 82 rfl) (by decide) (fun c137 => (absurd c137 hw1)) (fun c137 => ?_)
  refine fg_aloadn (fg_ft (pc := 140) tb_Mo_text 83 rfl) rfl ?_
  refine fg_getV (v := (nI (pz_K b len Z.1))) (fg_ft (pc := 141) tb_Mo_text 84 rfl) ff_Mo_84 ly_287 rfl (fg_lt ly_287 (by decide)) h.2.1.2.2.1 ?_
  refine fg_if_eqN (tgt := 165) (fg_ft (pc := 144) tb_Mo_text 85 rfl) (by decide) (by have := (pz_sp_i b len Z.1).2.2.2.1; omega) (fun c144 => (absurd c144 hk0)) (fun c144 => ?_)
  refine fg_iloadn (fg_ft (pc := 147) tb_Mo_text 86 rfl) rfl ?_
  refine fg_if_ne (tgt := 158) (fg_ft (pc := 148) tb_Mo_text 87 rfl) (by decide) (fun _ => ?_) (fun h => absurd h (by decide))
  refine fg_aloadn (fg_ft (pc := 158) tb_Mo_text 91 rfl) rfl ?_
  refine fg_callV (fg_ft (pc := 159) tb_Mo_text 92 rfl) cf_Mo_163 (fg_isOf ly_287 rfl (fg_lt ly_287 (by decide))) (as := []) (st := []) rfl rfl (Nat.le_of_ble_eq_true rfl) (Nat.le_refl _) (Nat.le_refl _) (ev_Mo_dayLine hle hb256 h hcnt ?_)
  intro ν1 hg1 h1
  have ag1 := hg1
  show fg_wp _ _ _ _ _ _ _ _ _ (ν1, fg_rho R, 304)
  refine fg_goto (tgt := 133) (fg_ft (pc := 162) tb_Mo_text 93 rfl) (by decide) ?_
  exact hK ν1 ag1 h1
theorem rz_tx_loop_1 {E : fg_E} {d : Nat} {μ : Nat → Nat → Int32} {R : fg_T4} {Q : Option Value → fg_M → Prop} {b : Nat → Nat} {len : Nat} (hle : len ≤ 600) (hb256 : ∀ j, b j < 256) {a : Nat} {v3 v4 v5 : Value} : ∀ (f j : Nat) (X : pz_X) (Z : rz_Z) (ν : Nat → Nat → Int32), len ≤ f + j → rz_RZ ν b len Z → rz_Rg (pz_S b len) 1 j X Z → (X.1 = 0 → pz_I9 1 X) → (∀ k, k ≤ 6 → (1 = 0 → 1 ≤ k) → (1 = 1 → k = 0) → Z.2.2.2.2 k ≤ j) → (∀ (ν' : Nat → Nat → Int32) (Z' : rz_Z), rz_ag ν ν' → rz_RZ ν' b len Z' → rz_Re (pz_S b len) 1 (pz_pa (pz_K b len) (pz_V b len) (pz_S b len) len 1 f (j, X)) Z' → (Z'.2.1 ≠ 1 → pz_K b len Z'.1 = 0) → fg_wp E yy_Mo_text (d + 10) 304 304 Q 165 [.ref 287, .int (nI 1), .int (nI a), v3, v4, v5] [] (ν', fg_rho R, 304)) → fg_wp E yy_Mo_text (d + 10) 304 304 Q 133 [.ref 287, .int (nI 1), .int (nI a), v3, v4, v5] [] (ν, fg_rho R, 304) := by
  have hT := rz_TS_of b len
  intro f
  induction f with
  | zero =>
    intro j X Z ν hf h hR hX hc hK
    obtain ⟨z1, z2⟩ := hR.n1
    have hk0 : pz_K b len Z.1 = 0 := by
      rcases Nat.eq_zero_or_pos (pz_K b len Z.1) with g | g
      · exact g
      · have := ((hT Z.1).1 (by omega)).2; omega
    exact rz_tx_w2_1 hle hb256 h z2 hk0 (hK ν Z (rz_ag_rf ν) h ⟨fun g => absurd g hR.1.2.1, fun _ => hR⟩ (fun _ => hk0))
  | succ f ih =>
    intro j X Z ν hf h hR hX hc hK
    obtain ⟨z1, z2⟩ := hR.n1
    by_cases hk0 : pz_K b len Z.1 = 0
    · have e9 : pz_pa (pz_K b len) (pz_V b len) (pz_S b len) len 1 (f + 1) (j, X) = (j, X) := if_pos (Or.inr (by rw [← z1]; exact hk0))
      rw [e9] at hK
      exact rz_tx_w2_1 hle hb256 h z2 hk0 (hK ν Z (rz_ag_rf ν) h ⟨fun g => absurd g hR.1.2.1, fun _ => hR⟩ (fun _ => hk0))
    · have hj := ((hT Z.1).1 hk0).2
      have e9 : pz_pa (pz_K b len) (pz_V b len) (pz_S b len) len 1 (f + 1) (j, X) = pz_pa (pz_K b len) (pz_V b len) (pz_S b len) len 1 f (pz_l1 (pz_K b len) (pz_V b len) (pz_S b len) len 1 (j, X)) := if_neg (fun g => g.elim hR.1.2.1 (fun g => hk0 (by rw [z1]; exact g)))
      rw [e9] at hK
      refine rz_tx_w3_1 hle hb256 h z2 hk0 (Nat.le_trans (hc 0 (by decide) (fun g => absurd g (by decide)) (fun _ => rfl)) (by omega)) (fun ν1 ag1 h1 => ?_)
      obtain ⟨r1, r2, r3⟩ := rz_stepL (sort := 1) hT (by decide) hX hR
      have r1' : rz_Re (pz_S b len) 1 (pz_l1 (pz_K b len) (pz_V b len) (pz_S b len) len 1 (j, X)) (rz_dl (pz_K b len) (pz_V b len) (pz_S b len) Z) := r1
      have hck : ∀ k, k ≤ 6 → (1 = 0 → 1 ≤ k) → (1 = 1 → k = 0) → (rz_dl (pz_K b len) (pz_V b len) (pz_S b len) Z).2.2.2.2 k ≤ j + 1 := fun k g1 g2 g3 => Nat.le_trans (rz_ln_k (len := len) (sort := 1) (by decide) g1 g2 g3) (Nat.succ_le_succ (hc k g1 g2 g3))
      generalize pz_l1 (pz_K b len) (pz_V b len) (pz_S b len) len 1 (j, X) = s1 at r1' r2 r3 hK
      obtain ⟨j2, X2⟩ := s1
      by_cases g : X2.1 = 1
      · have e8 : pz_pa (pz_K b len) (pz_V b len) (pz_S b len) len 1 f (j2, X2) = (j2, X2) := pz_pa_1 g
        rw [e8] at hK
        have w := r1'.1 g
        exact rz_tx_w1_1 hle hb256 h1 w.2.1 (hK ν1 _ ag1 h1 r1' (fun g2 => absurd w.2.1 g2))
      · have r3' : j + 1 ≤ j2 := r3 g
        exact ih j2 X2 _ ν1 (by omega) h1 (r1'.2 g) r2 (fun k g1 g2 g3 => Nat.le_trans (hck k g1 g2 g3) r3') (fun ν2 Z2 a1 a2 a3 a4 => hK ν2 Z2 (rz_ag_tr ag1 a1) a2 a3 a4)
theorem rz_tx_clr1 {E : fg_E} {d : Nat} {μ : Nat → Nat → Int32} {R : fg_T4} {Q : Option Value → fg_M → Prop} {a : Nat} {v4 v5 : Value} (hK : ∀ ν : Nat → Nat → Int32, (∀ a, a ≠ 290 → ∀ x, ν a x = μ a x) → (∀ x, x < 152 → ν 290 x = nI 0) → fg_wp E yy_Mo_text (d + 10) 304 304 Q 109 [.ref 287, .int (nI 1), .int (nI a), .int (nI 152), v4, v5] [] (ν, fg_rho R, 304)) : fg_wp E yy_Mo_text (d + 10) 304 304 Q 89 [.ref 287, .int (nI 1), .int (nI a), .int (nI 0), v4, v5] [] (μ, fg_rho R, 304) := by
  have loop : ∀ (q i : Nat) (ν : Nat → Nat → Int32), 152 - i < q → i ≤ 152 → (∀ a, a ≠ 290 → ∀ x, ν a x = μ a x) → (∀ x, x < i → ν 290 x = nI 0) → fg_wp E yy_Mo_text (d + 10) 304 304 Q 89 [.ref 287, .int (nI 1), .int (nI a), .int (nI i), v4, v5] [] (ν, fg_rho R, 304) := by
    intro q
    induction q with
    | zero => intro i ν h; exact absurd h (Nat.not_lt_zero _)
    | succ q ih =>
      intro i ν hq hj hag hm
      refine fg_iloadn (fg_ft (pc := 89) tb_Mo_text 56 rfl) rfl ?_
      refine fg_sipush (fg_ft (pc := 90) tb_Mo_text 57 rfl) is_152 ?_
      refine fg_icmp_geN (tgt := 109) (fg_ft (pc := 93) tb_Mo_text 58 rfl) (by decide) (by omega) (by decide) (fun c93 => ?_) (fun c93 => ?_)
      · rw [show i = 152 by omega] at hm ⊢
        exact hK ν hag hm
      · refine fg_aloadn (fg_ft (pc := 96) tb_Mo_text 59 rfl) rfl ?_
        refine fg_getR (fg_ft (pc := 97) tb_Mo_text 60 rfl) ff_Mo_17 ly_287 rfl (fg_lt ly_287 (by decide)) (rh_287_10 R) ?_
        refine fg_iloadn (fg_ft (pc := 100) tb_Mo_text 61 rfl) rfl ?_
        refine fg_iconst (fg_ft (pc := 101) tb_Mo_text 62 rfl) ic_0 ?_
        refine fg_iastN (fg_ft (pc := 102) tb_Mo_text 63 rfl) ly_290 (fg_lt ly_290 (by decide)) (by omega) ?_
        show fg_wp _ _ _ _ _ _ _ _ _ (fg_u2 ν 290 i (nI 0), fg_rho R, 304)
        refine fg_iincN (fg_ft (pc := 103) tb_Mo_text 64 rfl) rfl ic_1 rfl ?_
        refine fg_goto (tgt := 89) (fg_ft (pc := 106) tb_Mo_text 65 rfl) (by decide) ?_
        exact ih (i + 1) _ (by omega) (by omega) (fun a9 a1 x => (fg_u2ne a1).trans (hag a9 a1 x)) (fun x hx => by
                  rcases Nat.decEq x i with e | e
                  · exact (fg_u2ns e).trans (hm x (by omega))
                  · rw [e]; exact fg_u2eq)
  exact loop 153 0 μ (by omega) (by omega) (fun _ _ _ => rfl) (fun x hx => absurd hx (Nat.not_lt_zero _))
