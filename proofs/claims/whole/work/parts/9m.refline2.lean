/-! the reference's lines: what they put down -/
theorem rz_RZ.put {μ : Nat → Nat → Int32} {b : Nat → Nat} {len : Nat} {Z : rz_Z} {k x : Nat} (h : rz_RZ μ b len Z) : rz_RZ (fg_u2 μ 290 k (nI x)) b len (rz_sC Z (pz_up Z.2.2.2.2 k x)) := by
  obtain ⟨⟨c1, c2⟩, ⟨l1, l2, l3, l4, l5⟩, r1, r2, r3, r4, r5, r6, r7, r8⟩ := h
  have u : ∀ a j, a ≠ 290 → fg_u2 μ 290 k (nI x) a j = μ a j := fun a j q => fg_u2ne q
  refine ⟨⟨(u 287 2 (by decide)).trans c1, fun i hi => (u 288 (10 + i) (by decide)).trans (c2 i hi)⟩, ⟨(u 287 3 (by decide)).trans l1, (u 287 4 (by decide)).trans l2, (u 287 5 (by decide)).trans l3, fun q => (u 287 6 (by decide)).trans (l4 q), fun q => (u 287 7 (by decide)).trans (l5 q)⟩, (u 287 8 (by decide)).trans r1, (u 288 3 (by decide)).trans r2, (u 288 4 (by decide)).trans r3, (u 287 9 (by decide)).trans r4, fun i hi => ?_, r6, r7, r8⟩
  show _ = nI (pz_up Z.2.2.2.2 k x i)
  rcases Nat.decEq i k with e | e
  · rw [fg_u2ns e, pz_up_ne e]; exact r5 i hi
  · rw [e, fg_u2eq, pz_up_eq]
def rz_b1 (K V S : Nat → Nat) (kn : Nat) (Z : rz_Z) : Nat × rz_Z := if kn = 0 then rz_nu K V S 1 10 Z else rz_fa K V S Z
def rz_bp (kn p r : Nat) (Z : rz_Z) : rz_Z := if p < 5 ∧ r ≠ 4294967295 then rz_sC Z (pz_up Z.2.2.2.2 (40 + 3 * p + (if kn = 0 then 2 else 1)) (Z.2.2.2.2 (40 + 3 * p + (if kn = 0 then 2 else 1)) ||| 2 ^ r)) else Z
def rz_bl (K V S : Nat → Nat) (kn p : Nat) : Nat → Nat → rz_Z → rz_Z
  | 0, _, Z => Z
  | f + 1, many, Z => if Z.2.1 ≠ 1 ∧ (many = 0 ∨ K Z.1 = 1) then rz_bl K V S kn p f (many + 1) (rz_bp kn p (rz_b1 K V S kn Z).1 (rz_b1 K V S kn Z).2) else Z
def rz_bi (K V S : Nat → Nat) (len kn : Nat) (Z : rz_Z) : rz_Z := rz_bl K V S kn (rz_nu K V S 0 (Z.2.2.2.2 2) Z).1 (len + 2) 0 (rz_nu K V S 0 (Z.2.2.2.2 2) Z).2
theorem rz_bl_s {K V S : Nat → Nat} {kn p f many : Nat} {Z : rz_Z} (h : ¬ Z.2.1 = 1) (h2 : many = 0 ∨ K Z.1 = 1) : rz_bl K V S kn p (f + 1) many Z = rz_bl K V S kn p f (many + 1) (rz_bp kn p (rz_b1 K V S kn Z).1 (rz_b1 K V S kn Z).2) := if_pos ⟨h, h2⟩
theorem rz_bl_e {K V S : Nat → Nat} {kn p f many : Nat} {Z : rz_Z} (h : Z.2.1 = 1 ∨ (many ≠ 0 ∧ K Z.1 ≠ 1)) : rz_bl K V S kn p f many Z = Z := by
  cases f with
  | zero => rfl
  | succ f => exact if_neg (fun q => h.elim q.1 (fun g => q.2.elim g.1 g.2))
theorem rz_b1_j {K V S : Nat → Nat} {kn : Nat} {Z : rz_Z} (h : (rz_b1 K V S kn Z).2.2.1 ≠ 1) : (rz_b1 K V S kn Z).2.1 = Z.1 + 1 := by
  unfold rz_b1 at h ⊢
  by_cases c : kn = 0
  · rw [if_pos c] at h ⊢; exact rz_nu_j h
  · rw [if_neg c] at h ⊢; exact rz_nu_j (lo := 0) (hi := 10) h
theorem rz_bp_1 {kn p r : Nat} {Z : rz_Z} : (rz_bp kn p r Z).1 = Z.1 ∧ (rz_bp kn p r Z).2.1 = Z.2.1 := by
  unfold rz_bp; split <;> exact ⟨rfl, rfl⟩
theorem rz_bits_loop1 {E : fg_E} {d : Nat} {μ : Nat → Nat → Int32} {R : fg_T4} {Q : Option Value → fg_M → Prop} {b : Nat → Nat} {len : Nat} (hle : len ≤ 600) (hb256 : ∀ j, b j < 256) {p : Nat} (hp : p ≤ 99 ∨ p = 4294967295) {res : rz_Z} (hQ : ∀ μ' : Nat → Nat → Int32, rz_ag μ μ' → rz_RZ μ' b len res → Q none (μ', fg_rho R, 304)) : ∀ (m many : Nat) (Z : rz_Z) (ν : Nat → Nat → Int32) (vx : Value), len + 3 ≤ many + m → many ≤ len + 2 → many ≠ 0 → (Z.2.1 = 1 ∨ many ≤ Z.1) → rz_bl (pz_K b len) (pz_V b len) (pz_S b len) 1 p (len + 2 - many) many Z = res → rz_ag μ ν → rz_RZ ν b len Z → fg_wp E yy_Mo_bitsLine (d + 7) 304 304 Q 16 [.ref 287, .int (nI 1), .int (nI p), .int (nI 0), vx] [] (ν, fg_rho R, 304) := by
  intro m
  induction m with
  | zero =>
    intro many Z ν vx h1 h2
    exact absurd h1 (by omega)
  | succ m ih =>
    intro many Z ν vx hm1 hm2 hm0 hinv hres hag h
    refine fg_aloadn (fg_ft (pc := 16) tb_Mo_bitsLine 12 rfl) rfl ?_
    refine fg_getV (v := (fg_bI (Z.2.1 = 1))) (fg_ft (pc := 17) tb_Mo_bitsLine 13 rfl) ff_Mo_103 ly_287 rfl (fg_lt ly_287 (by decide)) h.2.2.1 ?_
    refine fg_ifB_ne (tgt := 102) (fg_ft (pc := 20) tb_Mo_bitsLine 14 rfl) (by decide) (fun c20 => ?_) (fun c20 => ?_)
    · have hr : res = Z := by
        rw [← hres]
        exact rz_bl_e (by first | exact Or.inl c20 | exact Or.inr ⟨by omega, c32⟩)
      exact fg_vret (fg_ft (pc := 102) tb_Mo_bitsLine 61 rfl) rfl rfl (by
    rw [hr] at hQ
    exact hQ ν hag h)
    · refine fg_iloadn (fg_ft (pc := 23) tb_Mo_bitsLine 15 rfl) rfl ?_
      refine fg_if_ne (tgt := 35) (fg_ft (pc := 24) tb_Mo_bitsLine 16 rfl) (by decide) (fun h => absurd h (by decide)) (fun _ => ?_)
      refine fg_aloadn (fg_ft (pc := 27) tb_Mo_bitsLine 17 rfl) rfl ?_
      refine fg_getV (v := (nI (pz_K b len Z.1))) (fg_ft (pc := 28) tb_Mo_bitsLine 18 rfl) ff_Mo_84 ly_287 rfl (fg_lt ly_287 (by decide)) h.2.1.2.2.1 ?_
      refine fg_iconst (fg_ft (pc := 31) tb_Mo_bitsLine 19 rfl) ic_1 ?_
      refine fg_icmp_neN (tgt := 102) (fg_ft (pc := 32) tb_Mo_bitsLine 20 rfl) (by decide) (by have := (pz_sp_i b len Z.1).2.2.2.1; omega) (by decide) (fun c32 => ?_) (fun c32 => ?_)
      · have hr : res = Z := by
          rw [← hres]
          exact rz_bl_e (by first | exact Or.inl c20 | exact Or.inr ⟨by omega, c32⟩)
        exact fg_vret (fg_ft (pc := 102) tb_Mo_bitsLine 61 rfl) rfl rfl (by
    rw [hr] at hQ
    exact hQ ν hag h)
      · refine fg_iloadn (fg_ft (pc := 35) tb_Mo_bitsLine 21 rfl) rfl ?_
        refine fg_if_eq (tgt := 46) (fg_ft (pc := 36) tb_Mo_bitsLine 22 rfl) (by decide) (fun h => absurd h (by decide)) (fun _ => ?_)
        refine fg_aloadn (fg_ft (pc := 39) tb_Mo_bitsLine 23 rfl) rfl ?_
        refine fg_callV (fg_ft (pc := 40) tb_Mo_bitsLine 24 rfl) cf_Mo_128 (fg_isOf ly_287 rfl (fg_lt ly_287 (by decide))) (as := []) (st := []) rfl rfl (Nat.le_of_ble_eq_true rfl) (Nat.le_refl _) (Nat.le_refl _) (ev_Mo_factOf hle hb256 h ?_)
        intro ν1 hg1 h1
        have ag1 := rz_ag_tr hag hg1
        have eb1 : rz_fa (pz_K b len) (pz_V b len) (pz_S b len) Z = (rz_b1 (pz_K b len) (pz_V b len) (pz_S b len) 1 Z) := rfl
        rw [eb1] at h1 ⊢
        have hb1 : (rz_b1 (pz_K b len) (pz_V b len) (pz_S b len) 1 Z).1 < 10 ∨ (rz_b1 (pz_K b len) (pz_V b len) (pz_S b len) 1 Z).1 = 4294967295 := rz_fa_hi
        show fg_wp _ _ _ _ _ _ _ _ _ (ν1, fg_rho R, 304)
        refine fg_goto (tgt := 53) (fg_ft (pc := 43) tb_Mo_bitsLine 25 rfl) (by decide) ?_
        refine fg_istore (fg_ft (pc := 53) tb_Mo_bitsLine 30 rfl) (Nat.le_of_ble_eq_true rfl) ?_
        refine fg_iloadn (fg_ft (pc := 55) tb_Mo_bitsLine 31 rfl) rfl ?_
        refine fg_iconst (fg_ft (pc := 56) tb_Mo_bitsLine 32 rfl) ic_0 ?_
        refine fg_iconst (fg_ft (pc := 57) tb_Mo_bitsLine 33 rfl) ic_4 ?_
        refine fg_callS (fg_ft (pc := 58) tb_Mo_bitsLine 34 rfl) cf_Mo_110 (as := [.int (nI p), .int (nI 0), .int (nI 4)]) (st := []) rfl rfl (Nat.le_of_ble_eq_true rfl) (Nat.le_refl _) (Nat.le_refl _) (ev_Mo_isInC (k := p) (a := 0) (b := 4) (by omega) (by decide) (by decide) ?_)
        refine fg_ifB_eq (tgt := 97) (fg_ft (pc := 61) tb_Mo_bitsLine 35 rfl) (by decide) (fun c61 => ?_) (fun c61 => ?_)
        · refine fg_iconst (fg_ft (pc := 97) tb_Mo_bitsLine 58 rfl) ic_0 ?_
          refine fg_istoren (fg_ft (pc := 98) tb_Mo_bitsLine 59 rfl) (Nat.le_of_ble_eq_true rfl) ?_
          refine fg_goto (tgt := 16) (fg_ft (pc := 99) tb_Mo_bitsLine 60 rfl) (by decide) ?_
          have hst : rz_RZ ν1 b len (rz_bp 1 p (rz_b1 (pz_K b len) (pz_V b len) (pz_S b len) 1 Z).1 (rz_b1 (pz_K b len) (pz_V b len) (pz_S b len) 1 Z).2) := by
            unfold rz_bp
            rw [if_neg (fun q => by first | exact c61 ⟨Nat.zero_le _, by omega⟩ | exact c66 (by omega) | omega)]
            exact h1
          have hags : rz_ag μ ν1 := ag1
          have hmn : many < len + 2 ∧ many ≤ Z.1 := by
            have := pz_K_lt (b := b) (len := len) (i := Z.1) (by omega)
            have := hinv.elim (fun q => absurd q c20) id
            omega
          rw [show len + 2 - many = (len + 2 - (many + 1)) + 1 by omega, rz_bl_s c20 (Or.inr c32)] at hres
          refine ih (many + 1) _ _ _ (by omega) (by omega) (by omega) ?_ hres hags hst
          rcases Nat.decEq (rz_bp 1 p (rz_b1 (pz_K b len) (pz_V b len) (pz_S b len) 1 Z).1 (rz_b1 (pz_K b len) (pz_V b len) (pz_S b len) 1 Z).2).2.1 1 with q | q
          · refine Or.inr ?_
            have q2 : (rz_b1 (pz_K b len) (pz_V b len) (pz_S b len) 1 Z).2.2.1 ≠ 1 := fun hh => q (rz_bp_1.2.trans hh)
            have h9 : (rz_bp 1 p (rz_b1 (pz_K b len) (pz_V b len) (pz_S b len) 1 Z).1 (rz_b1 (pz_K b len) (pz_V b len) (pz_S b len) 1 Z).2).1 = Z.1 + 1 := rz_bp_1.1.trans (rz_b1_j q2)
            omega
          · exact Or.inl q
        · refine fg_iload (fg_ft (pc := 64) tb_Mo_bitsLine 36 rfl) rfl ?_
          refine fg_if_ltW (tgt := 97) (fg_ft (pc := 66) tb_Mo_bitsLine 37 rfl) (by decide) (by have := hb1; omega) (fun c66 => ?_) (fun c66 => ?_)
          · refine fg_iconst (fg_ft (pc := 97) tb_Mo_bitsLine 58 rfl) ic_0 ?_
            refine fg_istoren (fg_ft (pc := 98) tb_Mo_bitsLine 59 rfl) (Nat.le_of_ble_eq_true rfl) ?_
            refine fg_goto (tgt := 16) (fg_ft (pc := 99) tb_Mo_bitsLine 60 rfl) (by decide) ?_
            have hst : rz_RZ ν1 b len (rz_bp 1 p (rz_b1 (pz_K b len) (pz_V b len) (pz_S b len) 1 Z).1 (rz_b1 (pz_K b len) (pz_V b len) (pz_S b len) 1 Z).2) := by
              unfold rz_bp
              rw [if_neg (fun q => by first | exact c61 ⟨Nat.zero_le _, by omega⟩ | exact c66 (by omega) | omega)]
              exact h1
            have hags : rz_ag μ ν1 := ag1
            have hmn : many < len + 2 ∧ many ≤ Z.1 := by
              have := pz_K_lt (b := b) (len := len) (i := Z.1) (by omega)
              have := hinv.elim (fun q => absurd q c20) id
              omega
            rw [show len + 2 - many = (len + 2 - (many + 1)) + 1 by omega, rz_bl_s c20 (Or.inr c32)] at hres
            refine ih (many + 1) _ _ _ (by omega) (by omega) (by omega) ?_ hres hags hst
            rcases Nat.decEq (rz_bp 1 p (rz_b1 (pz_K b len) (pz_V b len) (pz_S b len) 1 Z).1 (rz_b1 (pz_K b len) (pz_V b len) (pz_S b len) 1 Z).2).2.1 1 with q | q
            · refine Or.inr ?_
              have q2 : (rz_b1 (pz_K b len) (pz_V b len) (pz_S b len) 1 Z).2.2.1 ≠ 1 := fun hh => q (rz_bp_1.2.trans hh)
              have h9 : (rz_bp 1 p (rz_b1 (pz_K b len) (pz_V b len) (pz_S b len) 1 Z).1 (rz_b1 (pz_K b len) (pz_V b len) (pz_S b len) 1 Z).2).1 = Z.1 + 1 := rz_bp_1.1.trans (rz_b1_j q2)
              omega
            · exact Or.inl q
          · refine fg_aloadn (fg_ft (pc := 69) tb_Mo_bitsLine 38 rfl) rfl ?_
            refine fg_getR (fg_ft (pc := 70) tb_Mo_bitsLine 39 rfl) ff_Mo_17 ly_287 rfl (fg_lt ly_287 (by decide)) (rh_287_10 R) ?_
            refine fg_bipush (fg_ft (pc := 73) tb_Mo_bitsLine 40 rfl) ib_40 ?_
            refine fg_iconst (fg_ft (pc := 75) tb_Mo_bitsLine 41 rfl) ic_3 ?_
            refine fg_iloadn (fg_ft (pc := 76) tb_Mo_bitsLine 42 rfl) rfl ?_
            refine fg_imulN (fg_ft (pc := 77) tb_Mo_bitsLine 43 rfl) ?_
            refine fg_iaddN (fg_ft (pc := 78) tb_Mo_bitsLine 44 rfl) ?_
            refine fg_iloadn (fg_ft (pc := 79) tb_Mo_bitsLine 45 rfl) rfl ?_
            refine fg_if_eq (tgt := 87) (fg_ft (pc := 80) tb_Mo_bitsLine 46 rfl) (by decide) (fun h => absurd h (by decide)) (fun _ => ?_)
            refine fg_iconst (fg_ft (pc := 83) tb_Mo_bitsLine 47 rfl) ic_1 ?_
            refine fg_goto (tgt := 88) (fg_ft (pc := 84) tb_Mo_bitsLine 48 rfl) (by decide) ?_
            refine fg_iaddN (fg_ft (pc := 88) tb_Mo_bitsLine 50 rfl) ?_
            refine fg_dup2 (fg_ft (pc := 89) tb_Mo_bitsLine 51 rfl) rfl rfl ?_
            refine fg_ialdV (v := (nI ((rz_b1 (pz_K b len) (pz_V b len) (pz_S b len) 1 Z).2.2.2.2.2 ((40 + (3 * p)) + 1)))) (fg_ft (pc := 90) tb_Mo_bitsLine 52 rfl) ly_290 (fg_lt ly_290 (by decide)) (by omega) (h1.2.2.2.2.2.2.1 ((40 + (3 * p)) + 1) (by omega)) ?_
            refine fg_iconst (fg_ft (pc := 91) tb_Mo_bitsLine 53 rfl) ic_1 ?_
            refine fg_iload (fg_ft (pc := 92) tb_Mo_bitsLine 54 rfl) rfl ?_
            refine fg_ishl1 (fg_ft (pc := 94) tb_Mo_bitsLine 55 rfl) (by have := hb1; omega) ?_
            refine fg_iorN (fg_ft (pc := 95) tb_Mo_bitsLine 56 rfl) ?_
            refine fg_iastN (fg_ft (pc := 96) tb_Mo_bitsLine 57 rfl) ly_290 (fg_lt ly_290 (by decide)) (by omega) ?_
            show fg_wp _ _ _ _ _ _ _ _ _ (fg_u2 ν1 290 ((40 + (3 * p)) + 1) (nI (((rz_b1 (pz_K b len) (pz_V b len) (pz_S b len) 1 Z).2.2.2.2.2 ((40 + (3 * p)) + 1)) ||| (2 ^ ((rz_b1 (pz_K b len) (pz_V b len) (pz_S b len) 1 Z).1)))), fg_rho R, 304)
            refine fg_iconst (fg_ft (pc := 97) tb_Mo_bitsLine 58 rfl) ic_0 ?_
            refine fg_istoren (fg_ft (pc := 98) tb_Mo_bitsLine 59 rfl) (Nat.le_of_ble_eq_true rfl) ?_
            refine fg_goto (tgt := 16) (fg_ft (pc := 99) tb_Mo_bitsLine 60 rfl) (by decide) ?_
            have hst : rz_RZ (fg_u2 ν1 290 ((40 + (3 * p)) + 1) (nI (((rz_b1 (pz_K b len) (pz_V b len) (pz_S b len) 1 Z).2.2.2.2.2 ((40 + (3 * p)) + 1)) ||| (2 ^ ((rz_b1 (pz_K b len) (pz_V b len) (pz_S b len) 1 Z).1))))) b len (rz_bp 1 p (rz_b1 (pz_K b len) (pz_V b len) (pz_S b len) 1 Z).1 (rz_b1 (pz_K b len) (pz_V b len) (pz_S b len) 1 Z).2) := by
              unfold rz_bp
              rw [if_pos ⟨by omega, by omega⟩]
              exact h1.put
            have hags : rz_ag μ (fg_u2 ν1 290 ((40 + (3 * p)) + 1) (nI (((rz_b1 (pz_K b len) (pz_V b len) (pz_S b len) 1 Z).2.2.2.2.2 ((40 + (3 * p)) + 1)) ||| (2 ^ ((rz_b1 (pz_K b len) (pz_V b len) (pz_S b len) 1 Z).1))))) := fun a j p q r => (fg_u2ne r).trans (ag1 a j p q r)
            have hmn : many < len + 2 ∧ many ≤ Z.1 := by
              have := pz_K_lt (b := b) (len := len) (i := Z.1) (by omega)
              have := hinv.elim (fun q => absurd q c20) id
              omega
            rw [show len + 2 - many = (len + 2 - (many + 1)) + 1 by omega, rz_bl_s c20 (Or.inr c32)] at hres
            refine ih (many + 1) _ _ _ (by omega) (by omega) (by omega) ?_ hres hags hst
            rcases Nat.decEq (rz_bp 1 p (rz_b1 (pz_K b len) (pz_V b len) (pz_S b len) 1 Z).1 (rz_b1 (pz_K b len) (pz_V b len) (pz_S b len) 1 Z).2).2.1 1 with q | q
            · refine Or.inr ?_
              have q2 : (rz_b1 (pz_K b len) (pz_V b len) (pz_S b len) 1 Z).2.2.1 ≠ 1 := fun hh => q (rz_bp_1.2.trans hh)
              have h9 : (rz_bp 1 p (rz_b1 (pz_K b len) (pz_V b len) (pz_S b len) 1 Z).1 (rz_b1 (pz_K b len) (pz_V b len) (pz_S b len) 1 Z).2).1 = Z.1 + 1 := rz_bp_1.1.trans (rz_b1_j q2)
              omega
            · exact Or.inl q
theorem ev_Mo_bitsLine1 {E : fg_E} {d : Nat} {μ : Nat → Nat → Int32} {R : fg_T4} {Q : Option Value → fg_M → Prop} {b : Nat → Nat} {len : Nat} {Z0 : rz_Z} (hle : len ≤ 600) (hb256 : ∀ j, b j < 256) (h : rz_RZ μ b len Z0) (hc2 : Z0.2.2.2.2 2 ≤ 700) {q : Nat × rz_Z} (hq : rz_nu (pz_K b len) (pz_V b len) (pz_S b len) 0 (Z0.2.2.2.2 2) Z0 = q) (hQ : ∀ μ' : Nat → Nat → Int32, rz_ag μ μ' → rz_RZ μ' b len (rz_bi (pz_K b len) (pz_V b len) (pz_S b len) len 1 Z0) → Q none (μ', fg_rho R, 304)) : fg_Ev E yy_Mo_bitsLine (d + 7) [.ref 287, .int (nI 1)] (μ, fg_rho R, 304) 304 Q := by
  refine fg_intro (by decide +kernel) (Nat.le_of_ble_eq_true rfl) (fg_okAs rfl) (Nat.le_refl _) ?_
  refine fg_aloadn (fg_ft (pc := 0) tb_Mo_bitsLine 0 rfl) rfl ?_
  refine fg_iconst (fg_ft (pc := 1) tb_Mo_bitsLine 1 rfl) ic_0 ?_
  refine fg_aloadn (fg_ft (pc := 2) tb_Mo_bitsLine 2 rfl) rfl ?_
  refine fg_getR (fg_ft (pc := 3) tb_Mo_bitsLine 3 rfl) ff_Mo_17 ly_287 rfl (fg_lt ly_287 (by decide)) (rh_287_10 R) ?_
  refine fg_iconst (fg_ft (pc := 6) tb_Mo_bitsLine 4 rfl) ic_2 ?_
  refine fg_ialdV (v := (nI (Z0.2.2.2.2 2))) (fg_ft (pc := 7) tb_Mo_bitsLine 5 rfl) ly_290 (fg_lt ly_290 (by decide)) (by omega) (h.2.2.2.2.2.2.1 2 (by omega)) ?_
  refine fg_iconst (fg_ft (pc := 8) tb_Mo_bitsLine 6 rfl) ic_1 ?_
  refine fg_isub (fg_ft (pc := 9) tb_Mo_bitsLine 7 rfl) ?_
  refine fg_callV (fg_ft (pc := 10) tb_Mo_bitsLine 8 rfl) cf_Mo_121 (fg_isOf ly_287 rfl (fg_lt ly_287 (by decide))) (as := [.int (nI 0), .int ((nI (Z0.2.2.2.2 2)) - (nI 1))]) (st := []) rfl rfl (Nat.le_of_ble_eq_true rfl) (Nat.le_refl _) (Nat.le_refl _) (ev_Mo_numbered (lo := 0) (hi := (Z0.2.2.2.2 2)) hle hb256 h (rz_mp (by omega)) ?_)
  intro ν1 hg1 h1
  have ag1 := hg1
  rw [hq] at h1 ⊢
  show fg_wp _ _ _ _ _ _ _ _ _ (ν1, fg_rho R, 304)
  have hqb : q.1 ≤ 99 ∨ q.1 = 4294967295 := by rw [← hq]; exact rz_nu_lt
  refine fg_istoren (fg_ft (pc := 13) tb_Mo_bitsLine 9 rfl) (Nat.le_of_ble_eq_true rfl) ?_
  refine fg_iconst (fg_ft (pc := 14) tb_Mo_bitsLine 10 rfl) ic_1 ?_
  refine fg_istoren (fg_ft (pc := 15) tb_Mo_bitsLine 11 rfl) (Nat.le_of_ble_eq_true rfl) ?_
  refine fg_aloadn (fg_ft (pc := 16) tb_Mo_bitsLine 12 rfl) rfl ?_
  refine fg_getV (v := (fg_bI (q.2.2.1 = 1))) (fg_ft (pc := 17) tb_Mo_bitsLine 13 rfl) ff_Mo_103 ly_287 rfl (fg_lt ly_287 (by decide)) h1.2.2.1 ?_
  refine fg_ifB_ne (tgt := 102) (fg_ft (pc := 20) tb_Mo_bitsLine 14 rfl) (by decide) (fun c20 => ?_) (fun c20 => ?_)
  · exact fg_vret (fg_ft (pc := 102) tb_Mo_bitsLine 61 rfl) rfl rfl (by
    have hr : rz_bi (pz_K b len) (pz_V b len) (pz_S b len) len 1 Z0 = q.2 := by
      unfold rz_bi
      rw [hq]
      exact rz_bl_e (Or.inl c20)
    rw [hr] at hQ
    exact hQ ν1 ag1 h1)
  · refine fg_iloadn (fg_ft (pc := 23) tb_Mo_bitsLine 15 rfl) rfl ?_
    refine fg_if_ne (tgt := 35) (fg_ft (pc := 24) tb_Mo_bitsLine 16 rfl) (by decide) (fun _ => ?_) (fun h => absurd h (by decide))
    refine fg_iloadn (fg_ft (pc := 35) tb_Mo_bitsLine 21 rfl) rfl ?_
    refine fg_if_eq (tgt := 46) (fg_ft (pc := 36) tb_Mo_bitsLine 22 rfl) (by decide) (fun h => absurd h (by decide)) (fun _ => ?_)
    refine fg_aloadn (fg_ft (pc := 39) tb_Mo_bitsLine 23 rfl) rfl ?_
    refine fg_callV (fg_ft (pc := 40) tb_Mo_bitsLine 24 rfl) cf_Mo_128 (fg_isOf ly_287 rfl (fg_lt ly_287 (by decide))) (as := []) (st := []) rfl rfl (Nat.le_of_ble_eq_true rfl) (Nat.le_refl _) (Nat.le_refl _) (ev_Mo_factOf hle hb256 h1 ?_)
    intro ν2 hg2 h2
    have ag2 := rz_ag_tr ag1 hg2
    have eb1 : rz_fa (pz_K b len) (pz_V b len) (pz_S b len) q.2 = (rz_b1 (pz_K b len) (pz_V b len) (pz_S b len) 1 q.2) := rfl
    rw [eb1] at h2 ⊢
    have hb1 : (rz_b1 (pz_K b len) (pz_V b len) (pz_S b len) 1 q.2).1 < 10 ∨ (rz_b1 (pz_K b len) (pz_V b len) (pz_S b len) 1 q.2).1 = 4294967295 := rz_fa_hi
    show fg_wp _ _ _ _ _ _ _ _ _ (ν2, fg_rho R, 304)
    refine fg_goto (tgt := 53) (fg_ft (pc := 43) tb_Mo_bitsLine 25 rfl) (by decide) ?_
    refine fg_istore (fg_ft (pc := 53) tb_Mo_bitsLine 30 rfl) (Nat.le_of_ble_eq_true rfl) ?_
    refine fg_iloadn (fg_ft (pc := 55) tb_Mo_bitsLine 31 rfl) rfl ?_
    refine fg_iconst (fg_ft (pc := 56) tb_Mo_bitsLine 32 rfl) ic_0 ?_
    refine fg_iconst (fg_ft (pc := 57) tb_Mo_bitsLine 33 rfl) ic_4 ?_
    refine fg_callS (fg_ft (pc := 58) tb_Mo_bitsLine 34 rfl) cf_Mo_110 (as := [.int (nI (q.1)), .int (nI 0), .int (nI 4)]) (st := []) rfl rfl (Nat.le_of_ble_eq_true rfl) (Nat.le_refl _) (Nat.le_refl _) (ev_Mo_isInC (k := q.1) (a := 0) (b := 4) (by omega) (by decide) (by decide) ?_)
    refine fg_ifB_eq (tgt := 97) (fg_ft (pc := 61) tb_Mo_bitsLine 35 rfl) (by decide) (fun c61 => ?_) (fun c61 => ?_)
    · refine fg_iconst (fg_ft (pc := 97) tb_Mo_bitsLine 58 rfl) ic_0 ?_
      refine fg_istoren (fg_ft (pc := 98) tb_Mo_bitsLine 59 rfl) (Nat.le_of_ble_eq_true rfl) ?_
      refine fg_goto (tgt := 16) (fg_ft (pc := 99) tb_Mo_bitsLine 60 rfl) (by decide) ?_
      have hst : rz_RZ ν2 b len (rz_bp 1 q.1 (rz_b1 (pz_K b len) (pz_V b len) (pz_S b len) 1 q.2).1 (rz_b1 (pz_K b len) (pz_V b len) (pz_S b len) 1 q.2).2) := by
        unfold rz_bp
        rw [if_neg (fun q => by first | exact c61 ⟨Nat.zero_le _, by omega⟩ | exact c66 (by omega) | omega)]
        exact h2
      have hags : rz_ag μ ν2 := ag2
      have hres : rz_bl (pz_K b len) (pz_V b len) (pz_S b len) 1 q.1 (len + 2 - 1) 1 (rz_bp 1 q.1 (rz_b1 (pz_K b len) (pz_V b len) (pz_S b len) 1 q.2).1 (rz_b1 (pz_K b len) (pz_V b len) (pz_S b len) 1 q.2).2) = rz_bi (pz_K b len) (pz_V b len) (pz_S b len) len 1 Z0 := by
        unfold rz_bi
        rw [hq]
        exact (rz_bl_s (f := len + 1) (many := 0) c20 (Or.inl rfl)).symm
      refine rz_bits_loop1 hle hb256 hqb hQ (len + 2) 1 _ _ _ (by omega) (by omega) (by decide) ?_ hres hags hst
      rcases Nat.decEq (rz_bp 1 q.1 (rz_b1 (pz_K b len) (pz_V b len) (pz_S b len) 1 q.2).1 (rz_b1 (pz_K b len) (pz_V b len) (pz_S b len) 1 q.2).2).2.1 1 with g | g
      · refine Or.inr ?_
        have q2 : (rz_b1 (pz_K b len) (pz_V b len) (pz_S b len) 1 q.2).2.2.1 ≠ 1 := fun hh => g (rz_bp_1.2.trans hh)
        have h9 : (rz_bp 1 q.1 (rz_b1 (pz_K b len) (pz_V b len) (pz_S b len) 1 q.2).1 (rz_b1 (pz_K b len) (pz_V b len) (pz_S b len) 1 q.2).2).1 = q.2.1 + 1 := rz_bp_1.1.trans (rz_b1_j q2)
        omega
      · exact Or.inl g
    · refine fg_iload (fg_ft (pc := 64) tb_Mo_bitsLine 36 rfl) rfl ?_
      refine fg_if_ltW (tgt := 97) (fg_ft (pc := 66) tb_Mo_bitsLine 37 rfl) (by decide) (by have := hb1; omega) (fun c66 => ?_) (fun c66 => ?_)
      · refine fg_iconst (fg_ft (pc := 97) tb_Mo_bitsLine 58 rfl) ic_0 ?_
        refine fg_istoren (fg_ft (pc := 98) tb_Mo_bitsLine 59 rfl) (Nat.le_of_ble_eq_true rfl) ?_
        refine fg_goto (tgt := 16) (fg_ft (pc := 99) tb_Mo_bitsLine 60 rfl) (by decide) ?_
        have hst : rz_RZ ν2 b len (rz_bp 1 q.1 (rz_b1 (pz_K b len) (pz_V b len) (pz_S b len) 1 q.2).1 (rz_b1 (pz_K b len) (pz_V b len) (pz_S b len) 1 q.2).2) := by
          unfold rz_bp
          rw [if_neg (fun q => by first | exact c61 ⟨Nat.zero_le _, by omega⟩ | exact c66 (by omega) | omega)]
          exact h2
        have hags : rz_ag μ ν2 := ag2
        have hres : rz_bl (pz_K b len) (pz_V b len) (pz_S b len) 1 q.1 (len + 2 - 1) 1 (rz_bp 1 q.1 (rz_b1 (pz_K b len) (pz_V b len) (pz_S b len) 1 q.2).1 (rz_b1 (pz_K b len) (pz_V b len) (pz_S b len) 1 q.2).2) = rz_bi (pz_K b len) (pz_V b len) (pz_S b len) len 1 Z0 := by
          unfold rz_bi
          rw [hq]
          exact (rz_bl_s (f := len + 1) (many := 0) c20 (Or.inl rfl)).symm
        refine rz_bits_loop1 hle hb256 hqb hQ (len + 2) 1 _ _ _ (by omega) (by omega) (by decide) ?_ hres hags hst
        rcases Nat.decEq (rz_bp 1 q.1 (rz_b1 (pz_K b len) (pz_V b len) (pz_S b len) 1 q.2).1 (rz_b1 (pz_K b len) (pz_V b len) (pz_S b len) 1 q.2).2).2.1 1 with g | g
        · refine Or.inr ?_
          have q2 : (rz_b1 (pz_K b len) (pz_V b len) (pz_S b len) 1 q.2).2.2.1 ≠ 1 := fun hh => g (rz_bp_1.2.trans hh)
          have h9 : (rz_bp 1 q.1 (rz_b1 (pz_K b len) (pz_V b len) (pz_S b len) 1 q.2).1 (rz_b1 (pz_K b len) (pz_V b len) (pz_S b len) 1 q.2).2).1 = q.2.1 + 1 := rz_bp_1.1.trans (rz_b1_j q2)
          omega
        · exact Or.inl g
      · refine fg_aloadn (fg_ft (pc := 69) tb_Mo_bitsLine 38 rfl) rfl ?_
        refine fg_getR (fg_ft (pc := 70) tb_Mo_bitsLine 39 rfl) ff_Mo_17 ly_287 rfl (fg_lt ly_287 (by decide)) (rh_287_10 R) ?_
        refine fg_bipush (fg_ft (pc := 73) tb_Mo_bitsLine 40 rfl) ib_40 ?_
        refine fg_iconst (fg_ft (pc := 75) tb_Mo_bitsLine 41 rfl) ic_3 ?_
        refine fg_iloadn (fg_ft (pc := 76) tb_Mo_bitsLine 42 rfl) rfl ?_
        refine fg_imulN (fg_ft (pc := 77) tb_Mo_bitsLine 43 rfl) ?_
        refine fg_iaddN (fg_ft (pc := 78) tb_Mo_bitsLine 44 rfl) ?_
        refine fg_iloadn (fg_ft (pc := 79) tb_Mo_bitsLine 45 rfl) rfl ?_
        refine fg_if_eq (tgt := 87) (fg_ft (pc := 80) tb_Mo_bitsLine 46 rfl) (by decide) (fun h => absurd h (by decide)) (fun _ => ?_)
        refine fg_iconst (fg_ft (pc := 83) tb_Mo_bitsLine 47 rfl) ic_1 ?_
        refine fg_goto (tgt := 88) (fg_ft (pc := 84) tb_Mo_bitsLine 48 rfl) (by decide) ?_
        refine fg_iaddN (fg_ft (pc := 88) tb_Mo_bitsLine 50 rfl) ?_
        refine fg_dup2 (fg_ft (pc := 89) tb_Mo_bitsLine 51 rfl) rfl rfl ?_
        refine fg_ialdV (v := (nI ((rz_b1 (pz_K b len) (pz_V b len) (pz_S b len) 1 q.2).2.2.2.2.2 ((40 + (3 * (q.1))) + 1)))) (fg_ft (pc := 90) tb_Mo_bitsLine 52 rfl) ly_290 (fg_lt ly_290 (by decide)) (by omega) (h2.2.2.2.2.2.2.1 ((40 + (3 * (q.1))) + 1) (by omega)) ?_
        refine fg_iconst (fg_ft (pc := 91) tb_Mo_bitsLine 53 rfl) ic_1 ?_
        refine fg_iload (fg_ft (pc := 92) tb_Mo_bitsLine 54 rfl) rfl ?_
        refine fg_ishl1 (fg_ft (pc := 94) tb_Mo_bitsLine 55 rfl) (by have := hb1; omega) ?_
        refine fg_iorN (fg_ft (pc := 95) tb_Mo_bitsLine 56 rfl) ?_
        refine fg_iastN (fg_ft (pc := 96) tb_Mo_bitsLine 57 rfl) ly_290 (fg_lt ly_290 (by decide)) (by omega) ?_
        show fg_wp _ _ _ _ _ _ _ _ _ (fg_u2 ν2 290 ((40 + (3 * (q.1))) + 1) (nI (((rz_b1 (pz_K b len) (pz_V b len) (pz_S b len) 1 q.2).2.2.2.2.2 ((40 + (3 * (q.1))) + 1)) ||| (2 ^ ((rz_b1 (pz_K b len) (pz_V b len) (pz_S b len) 1 q.2).1)))), fg_rho R, 304)
        refine fg_iconst (fg_ft (pc := 97) tb_Mo_bitsLine 58 rfl) ic_0 ?_
        refine fg_istoren (fg_ft (pc := 98) tb_Mo_bitsLine 59 rfl) (Nat.le_of_ble_eq_true rfl) ?_
        refine fg_goto (tgt := 16) (fg_ft (pc := 99) tb_Mo_bitsLine 60 rfl) (by decide) ?_
        have hst : rz_RZ (fg_u2 ν2 290 ((40 + (3 * (q.1))) + 1) (nI (((rz_b1 (pz_K b len) (pz_V b len) (pz_S b len) 1 q.2).2.2.2.2.2 ((40 + (3 * (q.1))) + 1)) ||| (2 ^ ((rz_b1 (pz_K b len) (pz_V b len) (pz_S b len) 1 q.2).1))))) b len (rz_bp 1 q.1 (rz_b1 (pz_K b len) (pz_V b len) (pz_S b len) 1 q.2).1 (rz_b1 (pz_K b len) (pz_V b len) (pz_S b len) 1 q.2).2) := by
          unfold rz_bp
          rw [if_pos ⟨by omega, by omega⟩]
          exact h2.put
        have hags : rz_ag μ (fg_u2 ν2 290 ((40 + (3 * (q.1))) + 1) (nI (((rz_b1 (pz_K b len) (pz_V b len) (pz_S b len) 1 q.2).2.2.2.2.2 ((40 + (3 * (q.1))) + 1)) ||| (2 ^ ((rz_b1 (pz_K b len) (pz_V b len) (pz_S b len) 1 q.2).1))))) := fun a j p q r => (fg_u2ne r).trans (ag2 a j p q r)
        have hres : rz_bl (pz_K b len) (pz_V b len) (pz_S b len) 1 q.1 (len + 2 - 1) 1 (rz_bp 1 q.1 (rz_b1 (pz_K b len) (pz_V b len) (pz_S b len) 1 q.2).1 (rz_b1 (pz_K b len) (pz_V b len) (pz_S b len) 1 q.2).2) = rz_bi (pz_K b len) (pz_V b len) (pz_S b len) len 1 Z0 := by
          unfold rz_bi
          rw [hq]
          exact (rz_bl_s (f := len + 1) (many := 0) c20 (Or.inl rfl)).symm
        refine rz_bits_loop1 hle hb256 hqb hQ (len + 2) 1 _ _ _ (by omega) (by omega) (by decide) ?_ hres hags hst
        rcases Nat.decEq (rz_bp 1 q.1 (rz_b1 (pz_K b len) (pz_V b len) (pz_S b len) 1 q.2).1 (rz_b1 (pz_K b len) (pz_V b len) (pz_S b len) 1 q.2).2).2.1 1 with g | g
        · refine Or.inr ?_
          have q2 : (rz_b1 (pz_K b len) (pz_V b len) (pz_S b len) 1 q.2).2.2.1 ≠ 1 := fun hh => g (rz_bp_1.2.trans hh)
          have h9 : (rz_bp 1 q.1 (rz_b1 (pz_K b len) (pz_V b len) (pz_S b len) 1 q.2).1 (rz_b1 (pz_K b len) (pz_V b len) (pz_S b len) 1 q.2).2).1 = q.2.1 + 1 := rz_bp_1.1.trans (rz_b1_j q2)
          omega
        · exact Or.inl g
theorem rz_bits_loop0 {E : fg_E} {d : Nat} {μ : Nat → Nat → Int32} {R : fg_T4} {Q : Option Value → fg_M → Prop} {b : Nat → Nat} {len : Nat} (hle : len ≤ 600) (hb256 : ∀ j, b j < 256) {p : Nat} (hp : p ≤ 99 ∨ p = 4294967295) {res : rz_Z} (hQ : ∀ μ' : Nat → Nat → Int32, rz_ag μ μ' → rz_RZ μ' b len res → Q none (μ', fg_rho R, 304)) : ∀ (m many : Nat) (Z : rz_Z) (ν : Nat → Nat → Int32) (vx : Value), len + 3 ≤ many + m → many ≤ len + 2 → many ≠ 0 → (Z.2.1 = 1 ∨ many ≤ Z.1) → rz_bl (pz_K b len) (pz_V b len) (pz_S b len) 0 p (len + 2 - many) many Z = res → rz_ag μ ν → rz_RZ ν b len Z → fg_wp E yy_Mo_bitsLine (d + 7) 304 304 Q 16 [.ref 287, .int (nI 0), .int (nI p), .int (nI 0), vx] [] (ν, fg_rho R, 304) := by
  intro m
  induction m with
  | zero =>
    intro many Z ν vx h1 h2
    exact absurd h1 (by omega)
  | succ m ih =>
    intro many Z ν vx hm1 hm2 hm0 hinv hres hag h
    refine fg_aloadn (fg_ft (pc := 16) tb_Mo_bitsLine 12 rfl) rfl ?_
    refine fg_getV (v := (fg_bI (Z.2.1 = 1))) (fg_ft (pc := 17) tb_Mo_bitsLine 13 rfl) ff_Mo_103 ly_287 rfl (fg_lt ly_287 (by decide)) h.2.2.1 ?_
    refine fg_ifB_ne (tgt := 102) (fg_ft (pc := 20) tb_Mo_bitsLine 14 rfl) (by decide) (fun c20 => ?_) (fun c20 => ?_)
    · have hr : res = Z := by
        rw [← hres]
        exact rz_bl_e (by first | exact Or.inl c20 | exact Or.inr ⟨by omega, c32⟩)
      exact fg_vret (fg_ft (pc := 102) tb_Mo_bitsLine 61 rfl) rfl rfl (by
    rw [hr] at hQ
    exact hQ ν hag h)
    · refine fg_iloadn (fg_ft (pc := 23) tb_Mo_bitsLine 15 rfl) rfl ?_
      refine fg_if_ne (tgt := 35) (fg_ft (pc := 24) tb_Mo_bitsLine 16 rfl) (by decide) (fun h => absurd h (by decide)) (fun _ => ?_)
      refine fg_aloadn (fg_ft (pc := 27) tb_Mo_bitsLine 17 rfl) rfl ?_
      refine fg_getV (v := (nI (pz_K b len Z.1))) (fg_ft (pc := 28) tb_Mo_bitsLine 18 rfl) ff_Mo_84 ly_287 rfl (fg_lt ly_287 (by decide)) h.2.1.2.2.1 ?_
      refine fg_iconst (fg_ft (pc := 31) tb_Mo_bitsLine 19 rfl) ic_1 ?_
      refine fg_icmp_neN (tgt := 102) (fg_ft (pc := 32) tb_Mo_bitsLine 20 rfl) (by decide) (by have := (pz_sp_i b len Z.1).2.2.2.1; omega) (by decide) (fun c32 => ?_) (fun c32 => ?_)
      · have hr : res = Z := by
          rw [← hres]
          exact rz_bl_e (by first | exact Or.inl c20 | exact Or.inr ⟨by omega, c32⟩)
        exact fg_vret (fg_ft (pc := 102) tb_Mo_bitsLine 61 rfl) rfl rfl (by
    rw [hr] at hQ
    exact hQ ν hag h)
      · refine fg_iloadn (fg_ft (pc := 35) tb_Mo_bitsLine 21 rfl) rfl ?_
        refine fg_if_eq (tgt := 46) (fg_ft (pc := 36) tb_Mo_bitsLine 22 rfl) (by decide) (fun _ => ?_) (fun h => absurd h (by decide))
        refine fg_aloadn (fg_ft (pc := 46) tb_Mo_bitsLine 26 rfl) rfl ?_
        refine fg_iconst (fg_ft (pc := 47) tb_Mo_bitsLine 27 rfl) ic_1 ?_
        refine fg_bipush (fg_ft (pc := 48) tb_Mo_bitsLine 28 rfl) ib_9 ?_
        refine fg_callV (fg_ft (pc := 50) tb_Mo_bitsLine 29 rfl) cf_Mo_121 (fg_isOf ly_287 rfl (fg_lt ly_287 (by decide))) (as := [.int (nI 1), .int (nI 9)]) (st := []) rfl rfl (Nat.le_of_ble_eq_true rfl) (Nat.le_refl _) (Nat.le_refl _) (ev_Mo_numbered (lo := 1) (hi := 9 + 1) hle hb256 h (rz_m (by decide) (by decide)) ?_)
        intro ν1 hg1 h1
        have ag1 := rz_ag_tr hag hg1
        have eb1 : rz_nu (pz_K b len) (pz_V b len) (pz_S b len) 1 10 Z = (rz_b1 (pz_K b len) (pz_V b len) (pz_S b len) 0 Z) := rfl
        rw [eb1] at h1 ⊢
        have hb1 : (rz_b1 (pz_K b len) (pz_V b len) (pz_S b len) 0 Z).1 < 10 ∨ (rz_b1 (pz_K b len) (pz_V b len) (pz_S b len) 0 Z).1 = 4294967295 := rz_nu_hi (lo := 1) (hi := 10)
        show fg_wp _ _ _ _ _ _ _ _ _ (ν1, fg_rho R, 304)
        refine fg_istore (fg_ft (pc := 53) tb_Mo_bitsLine 30 rfl) (Nat.le_of_ble_eq_true rfl) ?_
        refine fg_iloadn (fg_ft (pc := 55) tb_Mo_bitsLine 31 rfl) rfl ?_
        refine fg_iconst (fg_ft (pc := 56) tb_Mo_bitsLine 32 rfl) ic_0 ?_
        refine fg_iconst (fg_ft (pc := 57) tb_Mo_bitsLine 33 rfl) ic_4 ?_
        refine fg_callS (fg_ft (pc := 58) tb_Mo_bitsLine 34 rfl) cf_Mo_110 (as := [.int (nI p), .int (nI 0), .int (nI 4)]) (st := []) rfl rfl (Nat.le_of_ble_eq_true rfl) (Nat.le_refl _) (Nat.le_refl _) (ev_Mo_isInC (k := p) (a := 0) (b := 4) (by omega) (by decide) (by decide) ?_)
        refine fg_ifB_eq (tgt := 97) (fg_ft (pc := 61) tb_Mo_bitsLine 35 rfl) (by decide) (fun c61 => ?_) (fun c61 => ?_)
        · refine fg_iconst (fg_ft (pc := 97) tb_Mo_bitsLine 58 rfl) ic_0 ?_
          refine fg_istoren (fg_ft (pc := 98) tb_Mo_bitsLine 59 rfl) (Nat.le_of_ble_eq_true rfl) ?_
          refine fg_goto (tgt := 16) (fg_ft (pc := 99) tb_Mo_bitsLine 60 rfl) (by decide) ?_
          have hst : rz_RZ ν1 b len (rz_bp 0 p (rz_b1 (pz_K b len) (pz_V b len) (pz_S b len) 0 Z).1 (rz_b1 (pz_K b len) (pz_V b len) (pz_S b len) 0 Z).2) := by
            unfold rz_bp
            rw [if_neg (fun q => by first | exact c61 ⟨Nat.zero_le _, by omega⟩ | exact c66 (by omega) | omega)]
            exact h1
          have hags : rz_ag μ ν1 := ag1
          have hmn : many < len + 2 ∧ many ≤ Z.1 := by
            have := pz_K_lt (b := b) (len := len) (i := Z.1) (by omega)
            have := hinv.elim (fun q => absurd q c20) id
            omega
          rw [show len + 2 - many = (len + 2 - (many + 1)) + 1 by omega, rz_bl_s c20 (Or.inr c32)] at hres
          refine ih (many + 1) _ _ _ (by omega) (by omega) (by omega) ?_ hres hags hst
          rcases Nat.decEq (rz_bp 0 p (rz_b1 (pz_K b len) (pz_V b len) (pz_S b len) 0 Z).1 (rz_b1 (pz_K b len) (pz_V b len) (pz_S b len) 0 Z).2).2.1 1 with q | q
          · refine Or.inr ?_
            have q2 : (rz_b1 (pz_K b len) (pz_V b len) (pz_S b len) 0 Z).2.2.1 ≠ 1 := fun hh => q (rz_bp_1.2.trans hh)
            have h9 : (rz_bp 0 p (rz_b1 (pz_K b len) (pz_V b len) (pz_S b len) 0 Z).1 (rz_b1 (pz_K b len) (pz_V b len) (pz_S b len) 0 Z).2).1 = Z.1 + 1 := rz_bp_1.1.trans (rz_b1_j q2)
            omega
          · exact Or.inl q
        · refine fg_iload (fg_ft (pc := 64) tb_Mo_bitsLine 36 rfl) rfl ?_
          refine fg_if_ltW (tgt := 97) (fg_ft (pc := 66) tb_Mo_bitsLine 37 rfl) (by decide) (by have := hb1; omega) (fun c66 => ?_) (fun c66 => ?_)
          · refine fg_iconst (fg_ft (pc := 97) tb_Mo_bitsLine 58 rfl) ic_0 ?_
            refine fg_istoren (fg_ft (pc := 98) tb_Mo_bitsLine 59 rfl) (Nat.le_of_ble_eq_true rfl) ?_
            refine fg_goto (tgt := 16) (fg_ft (pc := 99) tb_Mo_bitsLine 60 rfl) (by decide) ?_
            have hst : rz_RZ ν1 b len (rz_bp 0 p (rz_b1 (pz_K b len) (pz_V b len) (pz_S b len) 0 Z).1 (rz_b1 (pz_K b len) (pz_V b len) (pz_S b len) 0 Z).2) := by
              unfold rz_bp
              rw [if_neg (fun q => by first | exact c61 ⟨Nat.zero_le _, by omega⟩ | exact c66 (by omega) | omega)]
              exact h1
            have hags : rz_ag μ ν1 := ag1
            have hmn : many < len + 2 ∧ many ≤ Z.1 := by
              have := pz_K_lt (b := b) (len := len) (i := Z.1) (by omega)
              have := hinv.elim (fun q => absurd q c20) id
              omega
            rw [show len + 2 - many = (len + 2 - (many + 1)) + 1 by omega, rz_bl_s c20 (Or.inr c32)] at hres
            refine ih (many + 1) _ _ _ (by omega) (by omega) (by omega) ?_ hres hags hst
            rcases Nat.decEq (rz_bp 0 p (rz_b1 (pz_K b len) (pz_V b len) (pz_S b len) 0 Z).1 (rz_b1 (pz_K b len) (pz_V b len) (pz_S b len) 0 Z).2).2.1 1 with q | q
            · refine Or.inr ?_
              have q2 : (rz_b1 (pz_K b len) (pz_V b len) (pz_S b len) 0 Z).2.2.1 ≠ 1 := fun hh => q (rz_bp_1.2.trans hh)
              have h9 : (rz_bp 0 p (rz_b1 (pz_K b len) (pz_V b len) (pz_S b len) 0 Z).1 (rz_b1 (pz_K b len) (pz_V b len) (pz_S b len) 0 Z).2).1 = Z.1 + 1 := rz_bp_1.1.trans (rz_b1_j q2)
              omega
            · exact Or.inl q
          · refine fg_aloadn (fg_ft (pc := 69) tb_Mo_bitsLine 38 rfl) rfl ?_
            refine fg_getR (fg_ft (pc := 70) tb_Mo_bitsLine 39 rfl) ff_Mo_17 ly_287 rfl (fg_lt ly_287 (by decide)) (rh_287_10 R) ?_
            refine fg_bipush (fg_ft (pc := 73) tb_Mo_bitsLine 40 rfl) ib_40 ?_
            refine fg_iconst (fg_ft (pc := 75) tb_Mo_bitsLine 41 rfl) ic_3 ?_
            refine fg_iloadn (fg_ft (pc := 76) tb_Mo_bitsLine 42 rfl) rfl ?_
            refine fg_imulN (fg_ft (pc := 77) tb_Mo_bitsLine 43 rfl) ?_
            refine fg_iaddN (fg_ft (pc := 78) tb_Mo_bitsLine 44 rfl) ?_
            refine fg_iloadn (fg_ft (pc := 79) tb_Mo_bitsLine 45 rfl) rfl ?_
            refine fg_if_eq (tgt := 87) (fg_ft (pc := 80) tb_Mo_bitsLine 46 rfl) (by decide) (fun _ => ?_) (fun h => absurd h (by decide))
            refine fg_iconst (fg_ft (pc := 87) tb_Mo_bitsLine 49 rfl) ic_2 ?_
            refine fg_iaddN (fg_ft (pc := 88) tb_Mo_bitsLine 50 rfl) ?_
            refine fg_dup2 (fg_ft (pc := 89) tb_Mo_bitsLine 51 rfl) rfl rfl ?_
            refine fg_ialdV (v := (nI ((rz_b1 (pz_K b len) (pz_V b len) (pz_S b len) 0 Z).2.2.2.2.2 ((40 + (3 * p)) + 2)))) (fg_ft (pc := 90) tb_Mo_bitsLine 52 rfl) ly_290 (fg_lt ly_290 (by decide)) (by omega) (h1.2.2.2.2.2.2.1 ((40 + (3 * p)) + 2) (by omega)) ?_
            refine fg_iconst (fg_ft (pc := 91) tb_Mo_bitsLine 53 rfl) ic_1 ?_
            refine fg_iload (fg_ft (pc := 92) tb_Mo_bitsLine 54 rfl) rfl ?_
            refine fg_ishl1 (fg_ft (pc := 94) tb_Mo_bitsLine 55 rfl) (by have := hb1; omega) ?_
            refine fg_iorN (fg_ft (pc := 95) tb_Mo_bitsLine 56 rfl) ?_
            refine fg_iastN (fg_ft (pc := 96) tb_Mo_bitsLine 57 rfl) ly_290 (fg_lt ly_290 (by decide)) (by omega) ?_
            show fg_wp _ _ _ _ _ _ _ _ _ (fg_u2 ν1 290 ((40 + (3 * p)) + 2) (nI (((rz_b1 (pz_K b len) (pz_V b len) (pz_S b len) 0 Z).2.2.2.2.2 ((40 + (3 * p)) + 2)) ||| (2 ^ ((rz_b1 (pz_K b len) (pz_V b len) (pz_S b len) 0 Z).1)))), fg_rho R, 304)
            refine fg_iconst (fg_ft (pc := 97) tb_Mo_bitsLine 58 rfl) ic_0 ?_
            refine fg_istoren (fg_ft (pc := 98) tb_Mo_bitsLine 59 rfl) (Nat.le_of_ble_eq_true rfl) ?_
            refine fg_goto (tgt := 16) (fg_ft (pc := 99) tb_Mo_bitsLine 60 rfl) (by decide) ?_
            have hst : rz_RZ (fg_u2 ν1 290 ((40 + (3 * p)) + 2) (nI (((rz_b1 (pz_K b len) (pz_V b len) (pz_S b len) 0 Z).2.2.2.2.2 ((40 + (3 * p)) + 2)) ||| (2 ^ ((rz_b1 (pz_K b len) (pz_V b len) (pz_S b len) 0 Z).1))))) b len (rz_bp 0 p (rz_b1 (pz_K b len) (pz_V b len) (pz_S b len) 0 Z).1 (rz_b1 (pz_K b len) (pz_V b len) (pz_S b len) 0 Z).2) := by
              unfold rz_bp
              rw [if_pos ⟨by omega, by omega⟩]
              exact h1.put
            have hags : rz_ag μ (fg_u2 ν1 290 ((40 + (3 * p)) + 2) (nI (((rz_b1 (pz_K b len) (pz_V b len) (pz_S b len) 0 Z).2.2.2.2.2 ((40 + (3 * p)) + 2)) ||| (2 ^ ((rz_b1 (pz_K b len) (pz_V b len) (pz_S b len) 0 Z).1))))) := fun a j p q r => (fg_u2ne r).trans (ag1 a j p q r)
            have hmn : many < len + 2 ∧ many ≤ Z.1 := by
              have := pz_K_lt (b := b) (len := len) (i := Z.1) (by omega)
              have := hinv.elim (fun q => absurd q c20) id
              omega
            rw [show len + 2 - many = (len + 2 - (many + 1)) + 1 by omega, rz_bl_s c20 (Or.inr c32)] at hres
            refine ih (many + 1) _ _ _ (by omega) (by omega) (by omega) ?_ hres hags hst
            rcases Nat.decEq (rz_bp 0 p (rz_b1 (pz_K b len) (pz_V b len) (pz_S b len) 0 Z).1 (rz_b1 (pz_K b len) (pz_V b len) (pz_S b len) 0 Z).2).2.1 1 with q | q
            · refine Or.inr ?_
              have q2 : (rz_b1 (pz_K b len) (pz_V b len) (pz_S b len) 0 Z).2.2.1 ≠ 1 := fun hh => q (rz_bp_1.2.trans hh)
              have h9 : (rz_bp 0 p (rz_b1 (pz_K b len) (pz_V b len) (pz_S b len) 0 Z).1 (rz_b1 (pz_K b len) (pz_V b len) (pz_S b len) 0 Z).2).1 = Z.1 + 1 := rz_bp_1.1.trans (rz_b1_j q2)
              omega
            · exact Or.inl q
theorem ev_Mo_bitsLine0 {E : fg_E} {d : Nat} {μ : Nat → Nat → Int32} {R : fg_T4} {Q : Option Value → fg_M → Prop} {b : Nat → Nat} {len : Nat} {Z0 : rz_Z} (hle : len ≤ 600) (hb256 : ∀ j, b j < 256) (h : rz_RZ μ b len Z0) (hc2 : Z0.2.2.2.2 2 ≤ 700) {q : Nat × rz_Z} (hq : rz_nu (pz_K b len) (pz_V b len) (pz_S b len) 0 (Z0.2.2.2.2 2) Z0 = q) (hQ : ∀ μ' : Nat → Nat → Int32, rz_ag μ μ' → rz_RZ μ' b len (rz_bi (pz_K b len) (pz_V b len) (pz_S b len) len 0 Z0) → Q none (μ', fg_rho R, 304)) : fg_Ev E yy_Mo_bitsLine (d + 7) [.ref 287, .int (nI 0)] (μ, fg_rho R, 304) 304 Q := by
  refine fg_intro (by decide +kernel) (Nat.le_of_ble_eq_true rfl) (fg_okAs rfl) (Nat.le_refl _) ?_
  refine fg_aloadn (fg_ft (pc := 0) tb_Mo_bitsLine 0 rfl) rfl ?_
  refine fg_iconst (fg_ft (pc := 1) tb_Mo_bitsLine 1 rfl) ic_0 ?_
  refine fg_aloadn (fg_ft (pc := 2) tb_Mo_bitsLine 2 rfl) rfl ?_
  refine fg_getR (fg_ft (pc := 3) tb_Mo_bitsLine 3 rfl) ff_Mo_17 ly_287 rfl (fg_lt ly_287 (by decide)) (rh_287_10 R) ?_
  refine fg_iconst (fg_ft (pc := 6) tb_Mo_bitsLine 4 rfl) ic_2 ?_
  refine fg_ialdV (v := (nI (Z0.2.2.2.2 2))) (fg_ft (pc := 7) tb_Mo_bitsLine 5 rfl) ly_290 (fg_lt ly_290 (by decide)) (by omega) (h.2.2.2.2.2.2.1 2 (by omega)) ?_
  refine fg_iconst (fg_ft (pc := 8) tb_Mo_bitsLine 6 rfl) ic_1 ?_
  refine fg_isub (fg_ft (pc := 9) tb_Mo_bitsLine 7 rfl) ?_
  refine fg_callV (fg_ft (pc := 10) tb_Mo_bitsLine 8 rfl) cf_Mo_121 (fg_isOf ly_287 rfl (fg_lt ly_287 (by decide))) (as := [.int (nI 0), .int ((nI (Z0.2.2.2.2 2)) - (nI 1))]) (st := []) rfl rfl (Nat.le_of_ble_eq_true rfl) (Nat.le_refl _) (Nat.le_refl _) (ev_Mo_numbered (lo := 0) (hi := (Z0.2.2.2.2 2)) hle hb256 h (rz_mp (by omega)) ?_)
  intro ν1 hg1 h1
  have ag1 := hg1
  rw [hq] at h1 ⊢
  show fg_wp _ _ _ _ _ _ _ _ _ (ν1, fg_rho R, 304)
  have hqb : q.1 ≤ 99 ∨ q.1 = 4294967295 := by rw [← hq]; exact rz_nu_lt
  refine fg_istoren (fg_ft (pc := 13) tb_Mo_bitsLine 9 rfl) (Nat.le_of_ble_eq_true rfl) ?_
  refine fg_iconst (fg_ft (pc := 14) tb_Mo_bitsLine 10 rfl) ic_1 ?_
  refine fg_istoren (fg_ft (pc := 15) tb_Mo_bitsLine 11 rfl) (Nat.le_of_ble_eq_true rfl) ?_
  refine fg_aloadn (fg_ft (pc := 16) tb_Mo_bitsLine 12 rfl) rfl ?_
  refine fg_getV (v := (fg_bI (q.2.2.1 = 1))) (fg_ft (pc := 17) tb_Mo_bitsLine 13 rfl) ff_Mo_103 ly_287 rfl (fg_lt ly_287 (by decide)) h1.2.2.1 ?_
  refine fg_ifB_ne (tgt := 102) (fg_ft (pc := 20) tb_Mo_bitsLine 14 rfl) (by decide) (fun c20 => ?_) (fun c20 => ?_)
  · exact fg_vret (fg_ft (pc := 102) tb_Mo_bitsLine 61 rfl) rfl rfl (by
    have hr : rz_bi (pz_K b len) (pz_V b len) (pz_S b len) len 0 Z0 = q.2 := by
      unfold rz_bi
      rw [hq]
      exact rz_bl_e (Or.inl c20)
    rw [hr] at hQ
    exact hQ ν1 ag1 h1)
  · refine fg_iloadn (fg_ft (pc := 23) tb_Mo_bitsLine 15 rfl) rfl ?_
    refine fg_if_ne (tgt := 35) (fg_ft (pc := 24) tb_Mo_bitsLine 16 rfl) (by decide) (fun _ => ?_) (fun h => absurd h (by decide))
    refine fg_iloadn (fg_ft (pc := 35) tb_Mo_bitsLine 21 rfl) rfl ?_
    refine fg_if_eq (tgt := 46) (fg_ft (pc := 36) tb_Mo_bitsLine 22 rfl) (by decide) (fun _ => ?_) (fun h => absurd h (by decide))
    refine fg_aloadn (fg_ft (pc := 46) tb_Mo_bitsLine 26 rfl) rfl ?_
    refine fg_iconst (fg_ft (pc := 47) tb_Mo_bitsLine 27 rfl) ic_1 ?_
    refine fg_bipush (fg_ft (pc := 48) tb_Mo_bitsLine 28 rfl) ib_9 ?_
    refine fg_callV (fg_ft (pc := 50) tb_Mo_bitsLine 29 rfl) cf_Mo_121 (fg_isOf ly_287 rfl (fg_lt ly_287 (by decide))) (as := [.int (nI 1), .int (nI 9)]) (st := []) rfl rfl (Nat.le_of_ble_eq_true rfl) (Nat.le_refl _) (Nat.le_refl _) (ev_Mo_numbered (lo := 1) (hi := 9 + 1) hle hb256 h1 (rz_m (by decide) (by decide)) ?_)
    intro ν2 hg2 h2
    have ag2 := rz_ag_tr ag1 hg2
    have eb1 : rz_nu (pz_K b len) (pz_V b len) (pz_S b len) 1 10 q.2 = (rz_b1 (pz_K b len) (pz_V b len) (pz_S b len) 0 q.2) := rfl
    rw [eb1] at h2 ⊢
    have hb1 : (rz_b1 (pz_K b len) (pz_V b len) (pz_S b len) 0 q.2).1 < 10 ∨ (rz_b1 (pz_K b len) (pz_V b len) (pz_S b len) 0 q.2).1 = 4294967295 := rz_nu_hi (lo := 1) (hi := 10)
    show fg_wp _ _ _ _ _ _ _ _ _ (ν2, fg_rho R, 304)
    refine fg_istore (fg_ft (pc := 53) tb_Mo_bitsLine 30 rfl) (Nat.le_of_ble_eq_true rfl) ?_
    refine fg_iloadn (fg_ft (pc := 55) tb_Mo_bitsLine 31 rfl) rfl ?_
    refine fg_iconst (fg_ft (pc := 56) tb_Mo_bitsLine 32 rfl) ic_0 ?_
    refine fg_iconst (fg_ft (pc := 57) tb_Mo_bitsLine 33 rfl) ic_4 ?_
    refine fg_callS (fg_ft (pc := 58) tb_Mo_bitsLine 34 rfl) cf_Mo_110 (as := [.int (nI (q.1)), .int (nI 0), .int (nI 4)]) (st := []) rfl rfl (Nat.le_of_ble_eq_true rfl) (Nat.le_refl _) (Nat.le_refl _) (ev_Mo_isInC (k := q.1) (a := 0) (b := 4) (by omega) (by decide) (by decide) ?_)
    refine fg_ifB_eq (tgt := 97) (fg_ft (pc := 61) tb_Mo_bitsLine 35 rfl) (by decide) (fun c61 => ?_) (fun c61 => ?_)
    · refine fg_iconst (fg_ft (pc := 97) tb_Mo_bitsLine 58 rfl) ic_0 ?_
      refine fg_istoren (fg_ft (pc := 98) tb_Mo_bitsLine 59 rfl) (Nat.le_of_ble_eq_true rfl) ?_
      refine fg_goto (tgt := 16) (fg_ft (pc := 99) tb_Mo_bitsLine 60 rfl) (by decide) ?_
      have hst : rz_RZ ν2 b len (rz_bp 0 q.1 (rz_b1 (pz_K b len) (pz_V b len) (pz_S b len) 0 q.2).1 (rz_b1 (pz_K b len) (pz_V b len) (pz_S b len) 0 q.2).2) := by
        unfold rz_bp
        rw [if_neg (fun q => by first | exact c61 ⟨Nat.zero_le _, by omega⟩ | exact c66 (by omega) | omega)]
        exact h2
      have hags : rz_ag μ ν2 := ag2
      have hres : rz_bl (pz_K b len) (pz_V b len) (pz_S b len) 0 q.1 (len + 2 - 1) 1 (rz_bp 0 q.1 (rz_b1 (pz_K b len) (pz_V b len) (pz_S b len) 0 q.2).1 (rz_b1 (pz_K b len) (pz_V b len) (pz_S b len) 0 q.2).2) = rz_bi (pz_K b len) (pz_V b len) (pz_S b len) len 0 Z0 := by
        unfold rz_bi
        rw [hq]
        exact (rz_bl_s (f := len + 1) (many := 0) c20 (Or.inl rfl)).symm
      refine rz_bits_loop0 hle hb256 hqb hQ (len + 2) 1 _ _ _ (by omega) (by omega) (by decide) ?_ hres hags hst
      rcases Nat.decEq (rz_bp 0 q.1 (rz_b1 (pz_K b len) (pz_V b len) (pz_S b len) 0 q.2).1 (rz_b1 (pz_K b len) (pz_V b len) (pz_S b len) 0 q.2).2).2.1 1 with g | g
      · refine Or.inr ?_
        have q2 : (rz_b1 (pz_K b len) (pz_V b len) (pz_S b len) 0 q.2).2.2.1 ≠ 1 := fun hh => g (rz_bp_1.2.trans hh)
        have h9 : (rz_bp 0 q.1 (rz_b1 (pz_K b len) (pz_V b len) (pz_S b len) 0 q.2).1 (rz_b1 (pz_K b len) (pz_V b len) (pz_S b len) 0 q.2).2).1 = q.2.1 + 1 := rz_bp_1.1.trans (rz_b1_j q2)
        omega
      · exact Or.inl g
    · refine fg_iload (fg_ft (pc := 64) tb_Mo_bitsLine 36 rfl) rfl ?_
      refine fg_if_ltW (tgt := 97) (fg_ft (pc := 66) tb_Mo_bitsLine 37 rfl) (by decide) (by have := hb1; omega) (fun c66 => ?_) (fun c66 => ?_)
      · refine fg_iconst (fg_ft (pc := 97) tb_Mo_bitsLine 58 rfl) ic_0 ?_
        refine fg_istoren (fg_ft (pc := 98) tb_Mo_bitsLine 59 rfl) (Nat.le_of_ble_eq_true rfl) ?_
        refine fg_goto (tgt := 16) (fg_ft (pc := 99) tb_Mo_bitsLine 60 rfl) (by decide) ?_
        have hst : rz_RZ ν2 b len (rz_bp 0 q.1 (rz_b1 (pz_K b len) (pz_V b len) (pz_S b len) 0 q.2).1 (rz_b1 (pz_K b len) (pz_V b len) (pz_S b len) 0 q.2).2) := by
          unfold rz_bp
          rw [if_neg (fun q => by first | exact c61 ⟨Nat.zero_le _, by omega⟩ | exact c66 (by omega) | omega)]
          exact h2
        have hags : rz_ag μ ν2 := ag2
        have hres : rz_bl (pz_K b len) (pz_V b len) (pz_S b len) 0 q.1 (len + 2 - 1) 1 (rz_bp 0 q.1 (rz_b1 (pz_K b len) (pz_V b len) (pz_S b len) 0 q.2).1 (rz_b1 (pz_K b len) (pz_V b len) (pz_S b len) 0 q.2).2) = rz_bi (pz_K b len) (pz_V b len) (pz_S b len) len 0 Z0 := by
          unfold rz_bi
          rw [hq]
          exact (rz_bl_s (f := len + 1) (many := 0) c20 (Or.inl rfl)).symm
        refine rz_bits_loop0 hle hb256 hqb hQ (len + 2) 1 _ _ _ (by omega) (by omega) (by decide) ?_ hres hags hst
        rcases Nat.decEq (rz_bp 0 q.1 (rz_b1 (pz_K b len) (pz_V b len) (pz_S b len) 0 q.2).1 (rz_b1 (pz_K b len) (pz_V b len) (pz_S b len) 0 q.2).2).2.1 1 with g | g
        · refine Or.inr ?_
          have q2 : (rz_b1 (pz_K b len) (pz_V b len) (pz_S b len) 0 q.2).2.2.1 ≠ 1 := fun hh => g (rz_bp_1.2.trans hh)
          have h9 : (rz_bp 0 q.1 (rz_b1 (pz_K b len) (pz_V b len) (pz_S b len) 0 q.2).1 (rz_b1 (pz_K b len) (pz_V b len) (pz_S b len) 0 q.2).2).1 = q.2.1 + 1 := rz_bp_1.1.trans (rz_b1_j q2)
          omega
        · exact Or.inl g
      · refine fg_aloadn (fg_ft (pc := 69) tb_Mo_bitsLine 38 rfl) rfl ?_
        refine fg_getR (fg_ft (pc := 70) tb_Mo_bitsLine 39 rfl) ff_Mo_17 ly_287 rfl (fg_lt ly_287 (by decide)) (rh_287_10 R) ?_
        refine fg_bipush (fg_ft (pc := 73) tb_Mo_bitsLine 40 rfl) ib_40 ?_
        refine fg_iconst (fg_ft (pc := 75) tb_Mo_bitsLine 41 rfl) ic_3 ?_
        refine fg_iloadn (fg_ft (pc := 76) tb_Mo_bitsLine 42 rfl) rfl ?_
        refine fg_imulN (fg_ft (pc := 77) tb_Mo_bitsLine 43 rfl) ?_
        refine fg_iaddN (fg_ft (pc := 78) tb_Mo_bitsLine 44 rfl) ?_
        refine fg_iloadn (fg_ft (pc := 79) tb_Mo_bitsLine 45 rfl) rfl ?_
        refine fg_if_eq (tgt := 87) (fg_ft (pc := 80) tb_Mo_bitsLine 46 rfl) (by decide) (fun _ => ?_) (fun h => absurd h (by decide))
        refine fg_iconst (fg_ft (pc := 87) tb_Mo_bitsLine 49 rfl) ic_2 ?_
        refine fg_iaddN (fg_ft (pc := 88) tb_Mo_bitsLine 50 rfl) ?_
        refine fg_dup2 (fg_ft (pc := 89) tb_Mo_bitsLine 51 rfl) rfl rfl ?_
        refine fg_ialdV (v := (nI ((rz_b1 (pz_K b len) (pz_V b len) (pz_S b len) 0 q.2).2.2.2.2.2 ((40 + (3 * (q.1))) + 2)))) (fg_ft (pc := 90) tb_Mo_bitsLine 52 rfl) ly_290 (fg_lt ly_290 (by decide)) (by omega) (h2.2.2.2.2.2.2.1 ((40 + (3 * (q.1))) + 2) (by omega)) ?_
        refine fg_iconst (fg_ft (pc := 91) tb_Mo_bitsLine 53 rfl) ic_1 ?_
        refine fg_iload (fg_ft (pc := 92) tb_Mo_bitsLine 54 rfl) rfl ?_
        refine fg_ishl1 (fg_ft (pc := 94) tb_Mo_bitsLine 55 rfl) (by have := hb1; omega) ?_
        refine fg_iorN (fg_ft (pc := 95) tb_Mo_bitsLine 56 rfl) ?_
        refine fg_iastN (fg_ft (pc := 96) tb_Mo_bitsLine 57 rfl) ly_290 (fg_lt ly_290 (by decide)) (by omega) ?_
        show fg_wp _ _ _ _ _ _ _ _ _ (fg_u2 ν2 290 ((40 + (3 * (q.1))) + 2) (nI (((rz_b1 (pz_K b len) (pz_V b len) (pz_S b len) 0 q.2).2.2.2.2.2 ((40 + (3 * (q.1))) + 2)) ||| (2 ^ ((rz_b1 (pz_K b len) (pz_V b len) (pz_S b len) 0 q.2).1)))), fg_rho R, 304)
        refine fg_iconst (fg_ft (pc := 97) tb_Mo_bitsLine 58 rfl) ic_0 ?_
        refine fg_istoren (fg_ft (pc := 98) tb_Mo_bitsLine 59 rfl) (Nat.le_of_ble_eq_true rfl) ?_
        refine fg_goto (tgt := 16) (fg_ft (pc := 99) tb_Mo_bitsLine 60 rfl) (by decide) ?_
        have hst : rz_RZ (fg_u2 ν2 290 ((40 + (3 * (q.1))) + 2) (nI (((rz_b1 (pz_K b len) (pz_V b len) (pz_S b len) 0 q.2).2.2.2.2.2 ((40 + (3 * (q.1))) + 2)) ||| (2 ^ ((rz_b1 (pz_K b len) (pz_V b len) (pz_S b len) 0 q.2).1))))) b len (rz_bp 0 q.1 (rz_b1 (pz_K b len) (pz_V b len) (pz_S b len) 0 q.2).1 (rz_b1 (pz_K b len) (pz_V b len) (pz_S b len) 0 q.2).2) := by
          unfold rz_bp
          rw [if_pos ⟨by omega, by omega⟩]
          exact h2.put
        have hags : rz_ag μ (fg_u2 ν2 290 ((40 + (3 * (q.1))) + 2) (nI (((rz_b1 (pz_K b len) (pz_V b len) (pz_S b len) 0 q.2).2.2.2.2.2 ((40 + (3 * (q.1))) + 2)) ||| (2 ^ ((rz_b1 (pz_K b len) (pz_V b len) (pz_S b len) 0 q.2).1))))) := fun a j p q r => (fg_u2ne r).trans (ag2 a j p q r)
        have hres : rz_bl (pz_K b len) (pz_V b len) (pz_S b len) 0 q.1 (len + 2 - 1) 1 (rz_bp 0 q.1 (rz_b1 (pz_K b len) (pz_V b len) (pz_S b len) 0 q.2).1 (rz_b1 (pz_K b len) (pz_V b len) (pz_S b len) 0 q.2).2) = rz_bi (pz_K b len) (pz_V b len) (pz_S b len) len 0 Z0 := by
          unfold rz_bi
          rw [hq]
          exact (rz_bl_s (f := len + 1) (many := 0) c20 (Or.inl rfl)).symm
        refine rz_bits_loop0 hle hb256 hqb hQ (len + 2) 1 _ _ _ (by omega) (by omega) (by decide) ?_ hres hags hst
        rcases Nat.decEq (rz_bp 0 q.1 (rz_b1 (pz_K b len) (pz_V b len) (pz_S b len) 0 q.2).1 (rz_b1 (pz_K b len) (pz_V b len) (pz_S b len) 0 q.2).2).2.1 1 with g | g
        · refine Or.inr ?_
          have q2 : (rz_b1 (pz_K b len) (pz_V b len) (pz_S b len) 0 q.2).2.2.1 ≠ 1 := fun hh => g (rz_bp_1.2.trans hh)
          have h9 : (rz_bp 0 q.1 (rz_b1 (pz_K b len) (pz_V b len) (pz_S b len) 0 q.2).1 (rz_b1 (pz_K b len) (pz_V b len) (pz_S b len) 0 q.2).2).1 = q.2.1 + 1 := rz_bp_1.1.trans (rz_b1_j q2)
          omega
        · exact Or.inl g
