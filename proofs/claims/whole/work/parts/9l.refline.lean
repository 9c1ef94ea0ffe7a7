/-! the reference's lines, read purely -/
def rz_u1 (K V S : Nat → Nat) (many set : Nat) (Z : rz_Z) : rz_Z := if K Z.1 = 1 ∧ V Z.1 < 10 ∧ set.testBit (V Z.1) = true then rz_al 2 (S Z.1) (if 3 ≤ many then rz_al 3 (S Z.1) Z else Z) else (if 3 ≤ many then rz_al 3 (S Z.1) Z else Z)
def rz_or (set r : Nat) : Nat := if r = 4294967295 then set else set ||| 2 ^ r
def rz_ul (K V S : Nat → Nat) : Nat → Nat → Nat → rz_Z → Nat × rz_Z
  | 0, _, set, Z => (set, Z)
  | f + 1, many, set, Z => if Z.2.1 ≠ 1 ∧ (many = 0 ∨ K Z.1 = 1) then rz_ul K V S f (many + 1) (rz_or set (rz_fa K V S (rz_u1 K V S many set Z)).1) (rz_fa K V S (rz_u1 K V S many set Z)).2 else (set, Z)
def rz_un (K V S : Nat → Nat) (len ah : Nat) (Z : rz_Z) : Nat × rz_Z := (fg_df (rz_ul K V S (len + 2) 0 ah Z).1 ah, (rz_ul K V S (len + 2) 0 ah Z).2)
def rz_c3 (cell mx at9 : Nat) (Z : rz_Z) : rz_Z := if mx ≤ Z.2.2.2.2 cell then rz_al 3 at9 Z else Z
def rz_sC (Z : rz_Z) (C : Nat → Nat) : rz_Z := (Z.1, Z.2.1, Z.2.2.1, Z.2.2.2.1, C)
def rz_pr (cell mx base a b : Nat) (Z : rz_Z) : rz_Z := rz_sC Z (pz_up (if Z.2.2.2.2 cell < mx then pz_up (pz_up Z.2.2.2.2 (base + 2 * Z.2.2.2.2 cell) a) (base + 2 * Z.2.2.2.2 cell + 1) b else Z.2.2.2.2) cell (Z.2.2.2.2 cell + 1))
theorem rz_no_10 {lo hi v : Nat} (h : rz_no lo hi v ≠ 4294967295) : rz_no lo hi v < hi ∧ rz_no lo hi v = v := by
  unfold rz_no at h ⊢
  by_cases c : lo ≤ v ∧ v < hi
  · rw [if_pos c]; exact ⟨c.2, rfl⟩
  · rw [if_neg c] at h; exact absurd rfl h
theorem rz_nu_hi {K V S : Nat → Nat} {lo hi : Nat} {Z : rz_Z} : (rz_nu K V S lo hi Z).1 < hi ∨ (rz_nu K V S lo hi Z).1 = 4294967295 := by
  unfold rz_nu
  split
  · exact Or.inr rfl
  · show rz_no lo hi (V Z.1) < hi ∨ rz_no lo hi (V Z.1) = 4294967295
    rcases Nat.decEq (rz_no lo hi (V Z.1)) 4294967295 with q | q
    · exact Or.inl (rz_no_10 q).1
    · exact Or.inr q
theorem rz_fa_hi {K V S : Nat → Nat} {Z : rz_Z} : (rz_fa K V S Z).1 < 10 ∨ (rz_fa K V S Z).1 = 4294967295 := rz_nu_hi (lo := 0)
theorem rz_al_C {kd at9 : Nat} {Z : rz_Z} : (rz_al kd at9 Z).2.2.2.2 = Z.2.2.2.2 := by
  unfold rz_al; show (if _ then _ else _ : Nat × Nat × Nat × (Nat → Nat)).2.2.2 = _
  split <;> rfl
theorem rz_en_C {S : Nat → Nat} {Z : rz_Z} : (rz_en S Z).2.2.2.2 = Z.2.2.2.2 := by
  unfold rz_en; show (if _ then _ else _ : Nat × Nat × Nat × (Nat → Nat)).2.2.2 = _
  split <;> rfl
theorem rz_nu_C {K V S : Nat → Nat} {lo hi : Nat} {Z : rz_Z} : (rz_nu K V S lo hi Z).2.2.2.2.2 = Z.2.2.2.2 := by
  unfold rz_nu
  split
  · exact rz_en_C
  · show (rz_ad (if _ then Z else rz_al 2 (S Z.1) Z)).2.2.2.2 = _
    unfold rz_ad
    split
    · rfl
    · exact rz_al_C
theorem rz_fa_C {K V S : Nat → Nat} {Z : rz_Z} : (rz_fa K V S Z).2.2.2.2.2 = Z.2.2.2.2 := rz_nu_C (lo := 0) (hi := 10)
theorem rz_u1_C {K V S : Nat → Nat} {many set : Nat} {Z : rz_Z} : (rz_u1 K V S many set Z).2.2.2.2 = Z.2.2.2.2 := by
  unfold rz_u1
  split <;> split <;> first | rfl | exact rz_al_C | exact rz_al_C.trans rz_al_C
theorem rz_ul_C {K V S : Nat → Nat} : ∀ f many set Z, (rz_ul K V S f many set Z).2.2.2.2.2 = Z.2.2.2.2 := by
  intro f
  induction f with
  | zero => intro _ _ _; rfl
  | succ f ih =>
    intro many set Z
    unfold rz_ul
    split
    · rw [ih, rz_fa_C, rz_u1_C]
    · rfl
theorem rz_un_C {K V S : Nat → Nat} {len ah : Nat} {Z : rz_Z} : (rz_un K V S len ah Z).2.2.2.2.2 = Z.2.2.2.2 := rz_ul_C _ _ _ _
theorem rz_c3_C {cell mx at9 : Nat} {Z : rz_Z} : (rz_c3 cell mx at9 Z).2.2.2.2 = Z.2.2.2.2 := by
  unfold rz_c3; split
  · exact rz_al_C
  · rfl
theorem rz_c3_1 {cell mx at9 : Nat} {Z : rz_Z} : (rz_c3 cell mx at9 Z).1 = Z.1 := by
  unfold rz_c3; split <;> rfl
theorem rz_nu_j {K V S : Nat → Nat} {lo hi : Nat} {Z : rz_Z} (h : (rz_nu K V S lo hi Z).2.2.1 ≠ 1) : (rz_nu K V S lo hi Z).2.1 = Z.1 + 1 := by
  unfold rz_nu at h ⊢
  by_cases c : Z.2.1 = 1 ∨ K Z.1 ≠ 1
  · rw [if_pos c] at h
    exfalso; apply h
    show (rz_en S Z).2.1 = 1
    unfold rz_en
    by_cases d : Z.2.1 = 1
    · show (if _ then _ else _ : Nat × Nat × Nat × (Nat → Nat)).1 = 1
      rw [if_pos d]; exact d
    · show (if _ then _ else _ : Nat × Nat × Nat × (Nat → Nat)).1 = 1
      rw [if_neg d]
  · rw [if_neg c]
    show (rz_ad (if _ then Z else rz_al 2 (S Z.1) Z)).1 = _
    unfold rz_ad
    split <;> rfl
theorem rz_u1_1 {K V S : Nat → Nat} {many set : Nat} {Z : rz_Z} : (rz_u1 K V S many set Z).1 = Z.1 := by
  unfold rz_u1; split <;> split <;> rfl
theorem rz_ul_s {K V S : Nat → Nat} {f many set : Nat} {Z : rz_Z} (h : ¬ Z.2.1 = 1) (h2 : many = 0 ∨ K Z.1 = 1) : rz_ul K V S (f + 1) many set Z = rz_ul K V S f (many + 1) (rz_or set (rz_fa K V S (rz_u1 K V S many set Z)).1) (rz_fa K V S (rz_u1 K V S many set Z)).2 := if_pos ⟨h, h2⟩
theorem rz_ul_e {K V S : Nat → Nat} {f many set : Nat} {Z : rz_Z} (h : Z.2.1 = 1 ∨ (many ≠ 0 ∧ K Z.1 ≠ 1)) : rz_ul K V S f many set Z = (set, Z) := by
  cases f with
  | zero => rfl
  | succ f => exact if_neg (fun q => h.elim q.1 (fun g => q.2.elim g.1 g.2))
theorem rz_or_lt {set r : Nat} (hs : set < 1024) (hr : r < 10 ∨ r = 4294967295) : rz_or set r < 1024 := by
  unfold rz_or
  split
  · exact hs
  · exact Nat.or_lt_two_pow (n := 10) hs (Nat.pow_lt_pow_right (by decide) (by omega))
theorem rz_un_loop {E : fg_E} {d : Nat} {μ : Nat → Nat → Int32} {R : fg_T4} {Q : Option Value → fg_M → Prop} {b : Nat → Nat} {len ah : Nat} (hle : len ≤ 600) (hb256 : ∀ j, b j < 256) {res : Nat × rz_Z} (hQ : ∀ μ' : Nat → Nat → Int32, rz_ag μ μ' → rz_RZ μ' b len res.2 → Q (some (.int (nI (fg_df res.1 ah)))) (μ', fg_rho R, 304)) : ∀ (m many set : Nat) (Z : rz_Z) (ν : Nat → Nat → Int32) (vx : Value), len + 3 ≤ many + m → many ≤ len + 2 → (Z.2.1 = 1 ∨ many ≤ Z.1) → rz_ul (pz_K b len) (pz_V b len) (pz_S b len) (len + 2 - many) many set Z = res → rz_ag μ ν → rz_RZ ν b len Z → set < 1024 → fg_wp E yy_Mo_unlike (d + 7) 304 304 Q 4 [.ref 287, .int (nI ah), .int (nI set), .int (nI many), vx] [] (ν, fg_rho R, 304) := by
  intro m
  induction m with
  | zero =>
    intro many set Z ν vx h1 h2
    exact absurd h1 (by omega)
  | succ m ih =>
    intro many set Z ν vx hm1 hm2 hinv hres hag h hset
    refine fg_aloadn (fg_ft (pc := 4) tb_Mo_unlike 4 rfl) rfl ?_
    refine fg_getV (v := (fg_bI (Z.2.1 = 1))) (fg_ft (pc := 5) tb_Mo_unlike 5 rfl) ff_Mo_103 ly_287 rfl (fg_lt ly_287 (by decide)) h.2.2.1 ?_
    refine fg_ifB_ne (tgt := 107) (fg_ft (pc := 8) tb_Mo_unlike 6 rfl) (by decide) (fun c8 => ?_) (fun c8 => ?_)
    · have hr : res = (set, Z) := by
        rw [← hres]
        exact rz_ul_e (by first | exact Or.inl c8 | exact Or.inr ⟨by omega, c20⟩)
      refine fg_iloadn (fg_ft (pc := 107) tb_Mo_unlike 59 rfl) rfl ?_
      refine fg_iloadn (fg_ft (pc := 108) tb_Mo_unlike 60 rfl) rfl ?_
      refine fg_iconst (fg_ft (pc := 109) tb_Mo_unlike 61 rfl) ic_m1 ?_
      refine fg_ixor (fg_ft (pc := 110) tb_Mo_unlike 62 rfl) ?_
      refine fg_iandD (fg_ft (pc := 111) tb_Mo_unlike 63 rfl) ?_
      exact fg_iret (fg_ft (pc := 112) tb_Mo_unlike 64 rfl) rfl rfl (by
    rw [hr] at hQ
    exact hQ ν hag h)
    · refine fg_iloadn (fg_ft (pc := 11) tb_Mo_unlike 7 rfl) rfl ?_
      refine fg_if_eqN (tgt := 23) (fg_ft (pc := 12) tb_Mo_unlike 8 rfl) (by decide) (by omega) (fun c12 => ?_) (fun c12 => ?_)
      · refine fg_iloadn (fg_ft (pc := 23) tb_Mo_unlike 13 rfl) rfl ?_
        refine fg_iconst (fg_ft (pc := 24) tb_Mo_unlike 14 rfl) ic_3 ?_
        refine fg_icmp_ltN (tgt := 37) (fg_ft (pc := 25) tb_Mo_unlike 15 rfl) (by decide) (by omega) (by decide) (fun c25 => ?_) (fun c25 => ?_)
        · refine fg_aloadn (fg_ft (pc := 37) tb_Mo_unlike 21 rfl) rfl ?_
          refine fg_getV (v := (nI (pz_K b len Z.1))) (fg_ft (pc := 38) tb_Mo_unlike 22 rfl) ff_Mo_84 ly_287 rfl (fg_lt ly_287 (by decide)) h.2.1.2.2.1 ?_
          refine fg_iconst (fg_ft (pc := 41) tb_Mo_unlike 23 rfl) ic_1 ?_
          refine fg_icmp_neN (tgt := 79) (fg_ft (pc := 42) tb_Mo_unlike 24 rfl) (by decide) (by have := (pz_sp_i b len Z.1).2.2.2.1; omega) (by decide) (fun c42 => ?_) (fun c42 => ?_)
          · have hu : rz_RZ ν b len (rz_u1 (pz_K b len) (pz_V b len) (pz_S b len) many set Z) := by
              have e9 : rz_u1 (pz_K b len) (pz_V b len) (pz_S b len) many set Z = Z := by
                unfold rz_u1
                rw [if_neg (fun q => by first | exact c42 q.1 | exact c55 ⟨Nat.zero_le _, by have := q.2.1; omega⟩ | exact absurd (c67.symm.trans q.2.2) (by decide))]
                exact if_neg (by omega)
              rw [e9]; exact h
            refine fg_aloadn (fg_ft (pc := 79) tb_Mo_unlike 44 rfl) rfl ?_
            refine fg_callV (fg_ft (pc := 80) tb_Mo_unlike 45 rfl) cf_Mo_128 (fg_isOf ly_287 rfl (fg_lt ly_287 (by decide))) (as := []) (st := []) rfl rfl (Nat.le_of_ble_eq_true rfl) (Nat.le_refl _) (Nat.le_refl _) (ev_Mo_factOf hle hb256 hu ?_)
            intro ν1 hg1 h1
            have ag1 := rz_ag_tr hag hg1
            show fg_wp _ _ _ _ _ _ _ _ _ (ν1, fg_rho R, 304)
            refine fg_istore (fg_ft (pc := 83) tb_Mo_unlike 46 rfl) (Nat.le_of_ble_eq_true rfl) ?_
            have hfa := rz_fa_hi (K := pz_K b len) (V := pz_V b len) (S := pz_S b len) (Z := rz_u1 (pz_K b len) (pz_V b len) (pz_S b len) many set Z)
            refine fg_iloadn (fg_ft (pc := 85) tb_Mo_unlike 47 rfl) rfl ?_
            refine fg_iload (fg_ft (pc := 86) tb_Mo_unlike 48 rfl) rfl ?_
            refine fg_if_geW (tgt := 95) (fg_ft (pc := 88) tb_Mo_unlike 49 rfl) (by decide) (by have := hfa; omega) (fun c88 => ?_) (fun c88 => ?_)
            · refine fg_iconst (fg_ft (pc := 95) tb_Mo_unlike 52 rfl) ic_1 ?_
              refine fg_iload (fg_ft (pc := 96) tb_Mo_unlike 53 rfl) rfl ?_
              refine fg_ishl1 (fg_ft (pc := 98) tb_Mo_unlike 54 rfl) (by omega) ?_
              refine fg_iorN (fg_ft (pc := 99) tb_Mo_unlike 55 rfl) ?_
              refine fg_istoren (fg_ft (pc := 100) tb_Mo_unlike 56 rfl) (Nat.le_of_ble_eq_true rfl) ?_
              refine fg_iincN (fg_ft (pc := 101) tb_Mo_unlike 57 rfl) rfl ic_1 rfl ?_
              refine fg_goto (tgt := 4) (fg_ft (pc := 104) tb_Mo_unlike 58 rfl) (by decide) ?_
              have hor : set ||| (2 ^ ((rz_fa (pz_K b len) (pz_V b len) (pz_S b len) (rz_u1 (pz_K b len) (pz_V b len) (pz_S b len) many set Z)).1)) = rz_or set (rz_fa (pz_K b len) (pz_V b len) (pz_S b len) (rz_u1 (pz_K b len) (pz_V b len) (pz_S b len) many set Z)).1 := by
                unfold rz_or
                first
                | (rw [if_pos (by omega)]; exact Nat.or_zero set)
                | rw [if_neg (by omega)]
              rw [hor]
              have hmn : many < len + 2 ∧ many ≤ Z.1 := by
                first
                | omega
                | (have := pz_K_lt (b := b) (len := len) (i := Z.1) (by omega); have := hinv.elim (fun q => absurd q c8) id; omega)
              rw [show len + 2 - many = (len + 2 - (many + 1)) + 1 by omega, rz_ul_s c8 (by first | exact Or.inl c12 | exact Or.inr c20)] at hres
              refine ih (many + 1) _ _ ν1 _ (by omega) (by omega) ?_ hres ag1 h1 (rz_or_lt hset hfa)
              rcases Nat.decEq (rz_fa (pz_K b len) (pz_V b len) (pz_S b len) (rz_u1 (pz_K b len) (pz_V b len) (pz_S b len) many set Z)).2.2.1 1 with q | q
              · refine Or.inr ?_
                have h9 : (rz_fa (pz_K b len) (pz_V b len) (pz_S b len) (rz_u1 (pz_K b len) (pz_V b len) (pz_S b len) many set Z)).2.1 = Z.1 + 1 := (rz_nu_j (lo := 0) (hi := 10) q).trans (by rw [rz_u1_1])
                omega
              · exact Or.inl q
            · refine fg_iconst (fg_ft (pc := 91) tb_Mo_unlike 50 rfl) ic_0 ?_
              refine fg_goto (tgt := 99) (fg_ft (pc := 92) tb_Mo_unlike 51 rfl) (by decide) ?_
              refine fg_iorN (fg_ft (pc := 99) tb_Mo_unlike 55 rfl) ?_
              refine fg_istoren (fg_ft (pc := 100) tb_Mo_unlike 56 rfl) (Nat.le_of_ble_eq_true rfl) ?_
              refine fg_iincN (fg_ft (pc := 101) tb_Mo_unlike 57 rfl) rfl ic_1 rfl ?_
              refine fg_goto (tgt := 4) (fg_ft (pc := 104) tb_Mo_unlike 58 rfl) (by decide) ?_
              have hor : set ||| 0 = rz_or set (rz_fa (pz_K b len) (pz_V b len) (pz_S b len) (rz_u1 (pz_K b len) (pz_V b len) (pz_S b len) many set Z)).1 := by
                unfold rz_or
                first
                | (rw [if_pos (by omega)]; exact Nat.or_zero set)
                | rw [if_neg (by omega)]
              rw [hor]
              have hmn : many < len + 2 ∧ many ≤ Z.1 := by
                first
                | omega
                | (have := pz_K_lt (b := b) (len := len) (i := Z.1) (by omega); have := hinv.elim (fun q => absurd q c8) id; omega)
              rw [show len + 2 - many = (len + 2 - (many + 1)) + 1 by omega, rz_ul_s c8 (by first | exact Or.inl c12 | exact Or.inr c20)] at hres
              refine ih (many + 1) _ _ ν1 _ (by omega) (by omega) ?_ hres ag1 h1 (rz_or_lt hset hfa)
              rcases Nat.decEq (rz_fa (pz_K b len) (pz_V b len) (pz_S b len) (rz_u1 (pz_K b len) (pz_V b len) (pz_S b len) many set Z)).2.2.1 1 with q | q
              · refine Or.inr ?_
                have h9 : (rz_fa (pz_K b len) (pz_V b len) (pz_S b len) (rz_u1 (pz_K b len) (pz_V b len) (pz_S b len) many set Z)).2.1 = Z.1 + 1 := (rz_nu_j (lo := 0) (hi := 10) q).trans (by rw [rz_u1_1])
                omega
              · exact Or.inl q
          · have hK1 := c42
            refine fg_aloadn (fg_ft (pc := 45) tb_Mo_unlike 25 rfl) rfl ?_
            refine fg_getV (v := (nI (pz_V b len Z.1))) (fg_ft (pc := 46) tb_Mo_unlike 26 rfl) ff_Mo_100 ly_287 rfl (fg_lt ly_287 (by decide)) (h.2.1.2.2.2.1 hK1) ?_
            refine fg_iconst (fg_ft (pc := 49) tb_Mo_unlike 27 rfl) ic_0 ?_
            refine fg_bipush (fg_ft (pc := 50) tb_Mo_unlike 28 rfl) ib_9 ?_
            refine fg_callS (fg_ft (pc := 52) tb_Mo_unlike 29 rfl) cf_Mo_110 (as := [.int (nI (pz_V b len Z.1)), .int (nI 0), .int (nI 9)]) (st := []) rfl rfl (Nat.le_of_ble_eq_true rfl) (Nat.le_refl _) (Nat.le_refl _) (ev_Mo_isInC (k := pz_V b len Z.1) (a := 0) (b := 9) (by have := (pz_sp_i b len Z.1).2.2.2.2.2.2.1; omega) (by decide) (by decide) ?_)
            refine fg_ifB_eq (tgt := 79) (fg_ft (pc := 55) tb_Mo_unlike 30 rfl) (by decide) (fun c55 => ?_) (fun c55 => ?_)
            · have hu : rz_RZ ν b len (rz_u1 (pz_K b len) (pz_V b len) (pz_S b len) many set Z) := by
                have e9 : rz_u1 (pz_K b len) (pz_V b len) (pz_S b len) many set Z = Z := by
                  unfold rz_u1
                  rw [if_neg (fun q => by first | exact c42 q.1 | exact c55 ⟨Nat.zero_le _, by have := q.2.1; omega⟩ | exact absurd (c67.symm.trans q.2.2) (by decide))]
                  exact if_neg (by omega)
                rw [e9]; exact h
              refine fg_aloadn (fg_ft (pc := 79) tb_Mo_unlike 44 rfl) rfl ?_
              refine fg_callV (fg_ft (pc := 80) tb_Mo_unlike 45 rfl) cf_Mo_128 (fg_isOf ly_287 rfl (fg_lt ly_287 (by decide))) (as := []) (st := []) rfl rfl (Nat.le_of_ble_eq_true rfl) (Nat.le_refl _) (Nat.le_refl _) (ev_Mo_factOf hle hb256 hu ?_)
              intro ν2 hg2 h2
              have ag2 := rz_ag_tr hag hg2
              show fg_wp _ _ _ _ _ _ _ _ _ (ν2, fg_rho R, 304)
              refine fg_istore (fg_ft (pc := 83) tb_Mo_unlike 46 rfl) (Nat.le_of_ble_eq_true rfl) ?_
              have hfa := rz_fa_hi (K := pz_K b len) (V := pz_V b len) (S := pz_S b len) (Z := rz_u1 (pz_K b len) (pz_V b len) (pz_S b len) many set Z)
              refine fg_iloadn (fg_ft (pc := 85) tb_Mo_unlike 47 rfl) rfl ?_
              refine fg_iload (fg_ft (pc := 86) tb_Mo_unlike 48 rfl) rfl ?_
              refine fg_if_geW (tgt := 95) (fg_ft (pc := 88) tb_Mo_unlike 49 rfl) (by decide) (by have := hfa; omega) (fun c88 => ?_) (fun c88 => ?_)
              · refine fg_iconst (fg_ft (pc := 95) tb_Mo_unlike 52 rfl) ic_1 ?_
                refine fg_iload (fg_ft (pc := 96) tb_Mo_unlike 53 rfl) rfl ?_
                refine fg_ishl1 (fg_ft (pc := 98) tb_Mo_unlike 54 rfl) (by omega) ?_
                refine fg_iorN (fg_ft (pc := 99) tb_Mo_unlike 55 rfl) ?_
                refine fg_istoren (fg_ft (pc := 100) tb_Mo_unlike 56 rfl) (Nat.le_of_ble_eq_true rfl) ?_
                refine fg_iincN (fg_ft (pc := 101) tb_Mo_unlike 57 rfl) rfl ic_1 rfl ?_
                refine fg_goto (tgt := 4) (fg_ft (pc := 104) tb_Mo_unlike 58 rfl) (by decide) ?_
                have hor : set ||| (2 ^ ((rz_fa (pz_K b len) (pz_V b len) (pz_S b len) (rz_u1 (pz_K b len) (pz_V b len) (pz_S b len) many set Z)).1)) = rz_or set (rz_fa (pz_K b len) (pz_V b len) (pz_S b len) (rz_u1 (pz_K b len) (pz_V b len) (pz_S b len) many set Z)).1 := by
                  unfold rz_or
                  first
                  | (rw [if_pos (by omega)]; exact Nat.or_zero set)
                  | rw [if_neg (by omega)]
                rw [hor]
                have hmn : many < len + 2 ∧ many ≤ Z.1 := by
                  first
                  | omega
                  | (have := pz_K_lt (b := b) (len := len) (i := Z.1) (by omega); have := hinv.elim (fun q => absurd q c8) id; omega)
                rw [show len + 2 - many = (len + 2 - (many + 1)) + 1 by omega, rz_ul_s c8 (by first | exact Or.inl c12 | exact Or.inr c20)] at hres
                refine ih (many + 1) _ _ ν2 _ (by omega) (by omega) ?_ hres ag2 h2 (rz_or_lt hset hfa)
                rcases Nat.decEq (rz_fa (pz_K b len) (pz_V b len) (pz_S b len) (rz_u1 (pz_K b len) (pz_V b len) (pz_S b len) many set Z)).2.2.1 1 with q | q
                · refine Or.inr ?_
                  have h9 : (rz_fa (pz_K b len) (pz_V b len) (pz_S b len) (rz_u1 (pz_K b len) (pz_V b len) (pz_S b len) many set Z)).2.1 = Z.1 + 1 := (rz_nu_j (lo := 0) (hi := 10) q).trans (by rw [rz_u1_1])
                  omega
                · exact Or.inl q
              · refine fg_iconst (fg_ft (pc := 91) tb_Mo_unlike 50 rfl) ic_0 ?_
                refine fg_goto (tgt := 99) (fg_ft (pc := 92) tb_Mo_unlike 51 rfl) (by decide) ?_
                refine fg_iorN (fg_ft (pc := 99) tb_Mo_unlike 55 rfl) ?_
                refine fg_istoren (fg_ft (pc := 100) tb_Mo_unlike 56 rfl) (Nat.le_of_ble_eq_true rfl) ?_
                refine fg_iincN (fg_ft (pc := 101) tb_Mo_unlike 57 rfl) rfl ic_1 rfl ?_
                refine fg_goto (tgt := 4) (fg_ft (pc := 104) tb_Mo_unlike 58 rfl) (by decide) ?_
                have hor : set ||| 0 = rz_or set (rz_fa (pz_K b len) (pz_V b len) (pz_S b len) (rz_u1 (pz_K b len) (pz_V b len) (pz_S b len) many set Z)).1 := by
                  unfold rz_or
                  first
                  | (rw [if_pos (by omega)]; exact Nat.or_zero set)
                  | rw [if_neg (by omega)]
                rw [hor]
                have hmn : many < len + 2 ∧ many ≤ Z.1 := by
                  first
                  | omega
                  | (have := pz_K_lt (b := b) (len := len) (i := Z.1) (by omega); have := hinv.elim (fun q => absurd q c8) id; omega)
                rw [show len + 2 - many = (len + 2 - (many + 1)) + 1 by omega, rz_ul_s c8 (by first | exact Or.inl c12 | exact Or.inr c20)] at hres
                refine ih (many + 1) _ _ ν2 _ (by omega) (by omega) ?_ hres ag2 h2 (rz_or_lt hset hfa)
                rcases Nat.decEq (rz_fa (pz_K b len) (pz_V b len) (pz_S b len) (rz_u1 (pz_K b len) (pz_V b len) (pz_S b len) many set Z)).2.2.1 1 with q | q
                · refine Or.inr ?_
                  have h9 : (rz_fa (pz_K b len) (pz_V b len) (pz_S b len) (rz_u1 (pz_K b len) (pz_V b len) (pz_S b len) many set Z)).2.1 = Z.1 + 1 := (rz_nu_j (lo := 0) (hi := 10) q).trans (by rw [rz_u1_1])
                  omega
                · exact Or.inl q
            · refine fg_iloadn (fg_ft (pc := 58) tb_Mo_unlike 31 rfl) rfl ?_
              refine fg_aloadn (fg_ft (pc := 59) tb_Mo_unlike 32 rfl) rfl ?_
              refine fg_getV (v := (nI (pz_V b len Z.1))) (fg_ft (pc := 60) tb_Mo_unlike 33 rfl) ff_Mo_100 ly_287 rfl (fg_lt ly_287 (by decide)) (h.2.1.2.2.2.1 hK1) ?_
              refine fg_ishrN (fg_ft (pc := 63) tb_Mo_unlike 34 rfl) (by omega) (by omega) ?_
              refine fg_iconst (fg_ft (pc := 64) tb_Mo_unlike 35 rfl) ic_1 ?_
              refine fg_iandN (fg_ft (pc := 65) tb_Mo_unlike 36 rfl) ?_
              refine fg_iconst (fg_ft (pc := 66) tb_Mo_unlike 37 rfl) ic_1 ?_
              refine fg_icmpbit_ne (tgt := 79) (fg_ft (pc := 67) tb_Mo_unlike 38 rfl) (by decide) (fun c67 => ?_) (fun c67 => ?_)
              · have hu : rz_RZ ν b len (rz_u1 (pz_K b len) (pz_V b len) (pz_S b len) many set Z) := by
                  have e9 : rz_u1 (pz_K b len) (pz_V b len) (pz_S b len) many set Z = Z := by
                    unfold rz_u1
                    rw [if_neg (fun q => by first | exact c42 q.1 | exact c55 ⟨Nat.zero_le _, by have := q.2.1; omega⟩ | exact absurd (c67.symm.trans q.2.2) (by decide))]
                    exact if_neg (by omega)
                  rw [e9]; exact h
                refine fg_aloadn (fg_ft (pc := 79) tb_Mo_unlike 44 rfl) rfl ?_
                refine fg_callV (fg_ft (pc := 80) tb_Mo_unlike 45 rfl) cf_Mo_128 (fg_isOf ly_287 rfl (fg_lt ly_287 (by decide))) (as := []) (st := []) rfl rfl (Nat.le_of_ble_eq_true rfl) (Nat.le_refl _) (Nat.le_refl _) (ev_Mo_factOf hle hb256 hu ?_)
                intro ν3 hg3 h3
                have ag3 := rz_ag_tr hag hg3
                show fg_wp _ _ _ _ _ _ _ _ _ (ν3, fg_rho R, 304)
                refine fg_istore (fg_ft (pc := 83) tb_Mo_unlike 46 rfl) (Nat.le_of_ble_eq_true rfl) ?_
                have hfa := rz_fa_hi (K := pz_K b len) (V := pz_V b len) (S := pz_S b len) (Z := rz_u1 (pz_K b len) (pz_V b len) (pz_S b len) many set Z)
                refine fg_iloadn (fg_ft (pc := 85) tb_Mo_unlike 47 rfl) rfl ?_
                refine fg_iload (fg_ft (pc := 86) tb_Mo_unlike 48 rfl) rfl ?_
                refine fg_if_geW (tgt := 95) (fg_ft (pc := 88) tb_Mo_unlike 49 rfl) (by decide) (by have := hfa; omega) (fun c88 => ?_) (fun c88 => ?_)
                · refine fg_iconst (fg_ft (pc := 95) tb_Mo_unlike 52 rfl) ic_1 ?_
                  refine fg_iload (fg_ft (pc := 96) tb_Mo_unlike 53 rfl) rfl ?_
                  refine fg_ishl1 (fg_ft (pc := 98) tb_Mo_unlike 54 rfl) (by omega) ?_
                  refine fg_iorN (fg_ft (pc := 99) tb_Mo_unlike 55 rfl) ?_
                  refine fg_istoren (fg_ft (pc := 100) tb_Mo_unlike 56 rfl) (Nat.le_of_ble_eq_true rfl) ?_
                  refine fg_iincN (fg_ft (pc := 101) tb_Mo_unlike 57 rfl) rfl ic_1 rfl ?_
                  refine fg_goto (tgt := 4) (fg_ft (pc := 104) tb_Mo_unlike 58 rfl) (by decide) ?_
                  have hor : set ||| (2 ^ ((rz_fa (pz_K b len) (pz_V b len) (pz_S b len) (rz_u1 (pz_K b len) (pz_V b len) (pz_S b len) many set Z)).1)) = rz_or set (rz_fa (pz_K b len) (pz_V b len) (pz_S b len) (rz_u1 (pz_K b len) (pz_V b len) (pz_S b len) many set Z)).1 := by
                    unfold rz_or
                    first
                    | (rw [if_pos (by omega)]; exact Nat.or_zero set)
                    | rw [if_neg (by omega)]
                  rw [hor]
                  have hmn : many < len + 2 ∧ many ≤ Z.1 := by
                    first
                    | omega
                    | (have := pz_K_lt (b := b) (len := len) (i := Z.1) (by omega); have := hinv.elim (fun q => absurd q c8) id; omega)
                  rw [show len + 2 - many = (len + 2 - (many + 1)) + 1 by omega, rz_ul_s c8 (by first | exact Or.inl c12 | exact Or.inr c20)] at hres
                  refine ih (many + 1) _ _ ν3 _ (by omega) (by omega) ?_ hres ag3 h3 (rz_or_lt hset hfa)
                  rcases Nat.decEq (rz_fa (pz_K b len) (pz_V b len) (pz_S b len) (rz_u1 (pz_K b len) (pz_V b len) (pz_S b len) many set Z)).2.2.1 1 with q | q
                  · refine Or.inr ?_
                    have h9 : (rz_fa (pz_K b len) (pz_V b len) (pz_S b len) (rz_u1 (pz_K b len) (pz_V b len) (pz_S b len) many set Z)).2.1 = Z.1 + 1 := (rz_nu_j (lo := 0) (hi := 10) q).trans (by rw [rz_u1_1])
                    omega
                  · exact Or.inl q
                · refine fg_iconst (fg_ft (pc := 91) tb_Mo_unlike 50 rfl) ic_0 ?_
                  refine fg_goto (tgt := 99) (fg_ft (pc := 92) tb_Mo_unlike 51 rfl) (by decide) ?_
                  refine fg_iorN (fg_ft (pc := 99) tb_Mo_unlike 55 rfl) ?_
                  refine fg_istoren (fg_ft (pc := 100) tb_Mo_unlike 56 rfl) (Nat.le_of_ble_eq_true rfl) ?_
                  refine fg_iincN (fg_ft (pc := 101) tb_Mo_unlike 57 rfl) rfl ic_1 rfl ?_
                  refine fg_goto (tgt := 4) (fg_ft (pc := 104) tb_Mo_unlike 58 rfl) (by decide) ?_
                  have hor : set ||| 0 = rz_or set (rz_fa (pz_K b len) (pz_V b len) (pz_S b len) (rz_u1 (pz_K b len) (pz_V b len) (pz_S b len) many set Z)).1 := by
                    unfold rz_or
                    first
                    | (rw [if_pos (by omega)]; exact Nat.or_zero set)
                    | rw [if_neg (by omega)]
                  rw [hor]
                  have hmn : many < len + 2 ∧ many ≤ Z.1 := by
                    first
                    | omega
                    | (have := pz_K_lt (b := b) (len := len) (i := Z.1) (by omega); have := hinv.elim (fun q => absurd q c8) id; omega)
                  rw [show len + 2 - many = (len + 2 - (many + 1)) + 1 by omega, rz_ul_s c8 (by first | exact Or.inl c12 | exact Or.inr c20)] at hres
                  refine ih (many + 1) _ _ ν3 _ (by omega) (by omega) ?_ hres ag3 h3 (rz_or_lt hset hfa)
                  rcases Nat.decEq (rz_fa (pz_K b len) (pz_V b len) (pz_S b len) (rz_u1 (pz_K b len) (pz_V b len) (pz_S b len) many set Z)).2.2.1 1 with q | q
                  · refine Or.inr ?_
                    have h9 : (rz_fa (pz_K b len) (pz_V b len) (pz_S b len) (rz_u1 (pz_K b len) (pz_V b len) (pz_S b len) many set Z)).2.1 = Z.1 + 1 := (rz_nu_j (lo := 0) (hi := 10) q).trans (by rw [rz_u1_1])
                    omega
                  · exact Or.inl q
              · refine fg_aloadn (fg_ft (pc := 70) tb_Mo_unlike 39 rfl) rfl ?_
                refine fg_iconst (fg_ft (pc := 71) tb_Mo_unlike 40 rfl) ic_2 ?_
                refine fg_aloadn (fg_ft (pc := 72) tb_Mo_unlike 41 rfl) rfl ?_
                refine fg_getV (v := (nI (pz_S b len Z.1))) (fg_ft (pc := 73) tb_Mo_unlike 42 rfl) ff_Mo_81 ly_287 rfl (fg_lt ly_287 (by decide)) h.2.1.2.1 ?_
                refine fg_callV (fg_ft (pc := 76) tb_Mo_unlike 43 rfl) cf_Mo_114 (fg_isOf ly_287 rfl (fg_lt ly_287 (by decide))) (as := [.int (nI 2), .int (nI (pz_S b len Z.1))]) (st := []) rfl rfl (Nat.le_of_ble_eq_true rfl) (Nat.le_refl _) (Nat.le_refl _) (ev_Mo_also (kd := 2) (at9 := (pz_S b len Z.1)) hle hb256 h (by decide) (by decide) (by decide) (rz_S_le hle) ?_)
                intro ν4 hg4 h4
                have ag4 := rz_ag_tr hag hg4
                show fg_wp _ _ _ _ _ _ _ _ _ (ν4, fg_rho R, 304)
                have hu : rz_RZ ν4 b len (rz_u1 (pz_K b len) (pz_V b len) (pz_S b len) many set Z) := by
                  have e9 : rz_u1 (pz_K b len) (pz_V b len) (pz_S b len) many set Z = (rz_al 2 (pz_S b len Z.1) Z) := by
                    unfold rz_u1
                    rw [if_pos ⟨c42, by have := c55.2; omega, c67⟩]
                    exact congrArg (rz_al 2 (pz_S b len Z.1)) (if_neg (by omega))
                  rw [e9]; exact h4
                refine fg_aloadn (fg_ft (pc := 79) tb_Mo_unlike 44 rfl) rfl ?_
                refine fg_callV (fg_ft (pc := 80) tb_Mo_unlike 45 rfl) cf_Mo_128 (fg_isOf ly_287 rfl (fg_lt ly_287 (by decide))) (as := []) (st := []) rfl rfl (Nat.le_of_ble_eq_true rfl) (Nat.le_refl _) (Nat.le_refl _) (ev_Mo_factOf hle hb256 hu ?_)
                intro ν5 hg5 h5
                have ag5 := rz_ag_tr ag4 hg5
                show fg_wp _ _ _ _ _ _ _ _ _ (ν5, fg_rho R, 304)
                refine fg_istore (fg_ft (pc := 83) tb_Mo_unlike 46 rfl) (Nat.le_of_ble_eq_true rfl) ?_
                have hfa := rz_fa_hi (K := pz_K b len) (V := pz_V b len) (S := pz_S b len) (Z := rz_u1 (pz_K b len) (pz_V b len) (pz_S b len) many set Z)
                refine fg_iloadn (fg_ft (pc := 85) tb_Mo_unlike 47 rfl) rfl ?_
                refine fg_iload (fg_ft (pc := 86) tb_Mo_unlike 48 rfl) rfl ?_
                refine fg_if_geW (tgt := 95) (fg_ft (pc := 88) tb_Mo_unlike 49 rfl) (by decide) (by have := hfa; omega) (fun c88 => ?_) (fun c88 => ?_)
                · refine fg_iconst (fg_ft (pc := 95) tb_Mo_unlike 52 rfl) ic_1 ?_
                  refine fg_iload (fg_ft (pc := 96) tb_Mo_unlike 53 rfl) rfl ?_
                  refine fg_ishl1 (fg_ft (pc := 98) tb_Mo_unlike 54 rfl) (by omega) ?_
                  refine fg_iorN (fg_ft (pc := 99) tb_Mo_unlike 55 rfl) ?_
                  refine fg_istoren (fg_ft (pc := 100) tb_Mo_unlike 56 rfl) (Nat.le_of_ble_eq_true rfl) ?_
                  refine fg_iincN (fg_ft (pc := 101) tb_Mo_unlike 57 rfl) rfl ic_1 rfl ?_
                  refine fg_goto (tgt := 4) (fg_ft (pc := 104) tb_Mo_unlike 58 rfl) (by decide) ?_
                  have hor : set ||| (2 ^ ((rz_fa (pz_K b len) (pz_V b len) (pz_S b len) (rz_u1 (pz_K b len) (pz_V b len) (pz_S b len) many set Z)).1)) = rz_or set (rz_fa (pz_K b len) (pz_V b len) (pz_S b len) (rz_u1 (pz_K b len) (pz_V b len) (pz_S b len) many set Z)).1 := by
                    unfold rz_or
                    first
                    | (rw [if_pos (by omega)]; exact Nat.or_zero set)
                    | rw [if_neg (by omega)]
                  rw [hor]
                  have hmn : many < len + 2 ∧ many ≤ Z.1 := by
                    first
                    | omega
                    | (have := pz_K_lt (b := b) (len := len) (i := Z.1) (by omega); have := hinv.elim (fun q => absurd q c8) id; omega)
                  rw [show len + 2 - many = (len + 2 - (many + 1)) + 1 by omega, rz_ul_s c8 (by first | exact Or.inl c12 | exact Or.inr c20)] at hres
                  refine ih (many + 1) _ _ ν5 _ (by omega) (by omega) ?_ hres ag5 h5 (rz_or_lt hset hfa)
                  rcases Nat.decEq (rz_fa (pz_K b len) (pz_V b len) (pz_S b len) (rz_u1 (pz_K b len) (pz_V b len) (pz_S b len) many set Z)).2.2.1 1 with q | q
                  · refine Or.inr ?_
                    have h9 : (rz_fa (pz_K b len) (pz_V b len) (pz_S b len) (rz_u1 (pz_K b len) (pz_V b len) (pz_S b len) many set Z)).2.1 = Z.1 + 1 := (rz_nu_j (lo := 0) (hi := 10) q).trans (by rw [rz_u1_1])
                    omega
                  · exact Or.inl q
                · refine fg_iconst (fg_ft (pc := 91) tb_Mo_unlike 50 rfl) ic_0 ?_
                  refine fg_goto (tgt := 99) (fg_ft (pc := 92) tb_Mo_unlike 51 rfl) (by decide) ?_
                  refine fg_iorN (fg_ft (pc := 99) tb_Mo_unlike 55 rfl) ?_
                  refine fg_istoren (fg_ft (pc := 100) tb_Mo_unlike 56 rfl) (Nat.le_of_ble_eq_true rfl) ?_
                  refine fg_iincN (fg_ft (pc := 101) tb_Mo_unlike 57 rfl) rfl ic_1 rfl ?_
                  refine fg_goto (tgt := 4) (fg_ft (pc := 104) tb_Mo_unlike 58 rfl) (by decide) ?_
                  have hor : set ||| 0 = rz_or set (rz_fa (pz_K b len) (pz_V b len) (pz_S b len) (rz_u1 (pz_K b len) (pz_V b len) (pz_S b len) many set Z)).1 := by
                    unfold rz_or
                    first
                    | (rw [if_pos (by omega)]; exact Nat.or_zero set)
                    | rw [if_neg (by omega)]
                  rw [hor]
                  have hmn : many < len + 2 ∧ many ≤ Z.1 := by
                    first
                    | omega
                    | (have := pz_K_lt (b := b) (len := len) (i := Z.1) (by omega); have := hinv.elim (fun q => absurd q c8) id; omega)
                  rw [show len + 2 - many = (len + 2 - (many + 1)) + 1 by omega, rz_ul_s c8 (by first | exact Or.inl c12 | exact Or.inr c20)] at hres
                  refine ih (many + 1) _ _ ν5 _ (by omega) (by omega) ?_ hres ag5 h5 (rz_or_lt hset hfa)
                  rcases Nat.decEq (rz_fa (pz_K b len) (pz_V b len) (pz_S b len) (rz_u1 (pz_K b len) (pz_V b len) (pz_S b len) many set Z)).2.2.1 1 with q | q
                  · refine Or.inr ?_
                    have h9 : (rz_fa (pz_K b len) (pz_V b len) (pz_S b len) (rz_u1 (pz_K b len) (pz_V b len) (pz_S b len) many set Z)).2.1 = Z.1 + 1 := (rz_nu_j (lo := 0) (hi := 10) q).trans (by rw [rz_u1_1])
                    omega
                  · exact Or.inl q
        · refine fg_aloadn (fg_ft (pc := 28) tb_Mo_unlike 16 rfl) rfl ?_
          refine fg_iconst (fg_ft (pc := 29) tb_Mo_unlike 17 rfl) ic_3 ?_
          refine fg_aloadn (fg_ft (pc := 30) tb_Mo_unlike 18 rfl) rfl ?_
          refine fg_getV (v := (nI (pz_S b len Z.1))) (fg_ft (pc := 31) tb_Mo_unlike 19 rfl) ff_Mo_81 ly_287 rfl (fg_lt ly_287 (by decide)) h.2.1.2.1 ?_
          refine fg_callV (fg_ft (pc := 34) tb_Mo_unlike 20 rfl) cf_Mo_114 (fg_isOf ly_287 rfl (fg_lt ly_287 (by decide))) (as := [.int (nI 3), .int (nI (pz_S b len Z.1))]) (st := []) rfl rfl (Nat.le_of_ble_eq_true rfl) (Nat.le_refl _) (Nat.le_refl _) (ev_Mo_also (kd := 3) (at9 := (pz_S b len Z.1)) hle hb256 h (by decide) (by decide) (by decide) (rz_S_le hle) ?_)
          intro ν6 hg6 h6
          have ag6 := rz_ag_tr hag hg6
          show fg_wp _ _ _ _ _ _ _ _ _ (ν6, fg_rho R, 304)
          refine fg_aloadn (fg_ft (pc := 37) tb_Mo_unlike 21 rfl) rfl ?_
          refine fg_getV (v := (nI (pz_K b len Z.1))) (fg_ft (pc := 38) tb_Mo_unlike 22 rfl) ff_Mo_84 ly_287 rfl (fg_lt ly_287 (by decide)) h6.2.1.2.2.1 ?_
          refine fg_iconst (fg_ft (pc := 41) tb_Mo_unlike 23 rfl) ic_1 ?_
          refine fg_icmp_neN (tgt := 79) (fg_ft (pc := 42) tb_Mo_unlike 24 rfl) (by decide) (by have := (pz_sp_i b len Z.1).2.2.2.1; omega) (by decide) (fun c42 => ?_) (fun c42 => ?_)
          · have hu : rz_RZ ν6 b len (rz_u1 (pz_K b len) (pz_V b len) (pz_S b len) many set Z) := by
              have e9 : rz_u1 (pz_K b len) (pz_V b len) (pz_S b len) many set Z = (rz_al 3 (pz_S b len Z.1) Z) := by
                unfold rz_u1
                rw [if_neg (fun q => by first | exact c42 q.1 | exact c55 ⟨Nat.zero_le _, by have := q.2.1; omega⟩ | exact absurd (c67.symm.trans q.2.2) (by decide))]
                exact if_pos (by omega)
              rw [e9]; exact h6
            refine fg_aloadn (fg_ft (pc := 79) tb_Mo_unlike 44 rfl) rfl ?_
            refine fg_callV (fg_ft (pc := 80) tb_Mo_unlike 45 rfl) cf_Mo_128 (fg_isOf ly_287 rfl (fg_lt ly_287 (by decide))) (as := []) (st := []) rfl rfl (Nat.le_of_ble_eq_true rfl) (Nat.le_refl _) (Nat.le_refl _) (ev_Mo_factOf hle hb256 hu ?_)
            intro ν7 hg7 h7
            have ag7 := rz_ag_tr ag6 hg7
            show fg_wp _ _ _ _ _ _ _ _ _ (ν7, fg_rho R, 304)
            refine fg_istore (fg_ft (pc := 83) tb_Mo_unlike 46 rfl) (Nat.le_of_ble_eq_true rfl) ?_
            have hfa := rz_fa_hi (K := pz_K b len) (V := pz_V b len) (S := pz_S b len) (Z := rz_u1 (pz_K b len) (pz_V b len) (pz_S b len) many set Z)
            refine fg_iloadn (fg_ft (pc := 85) tb_Mo_unlike 47 rfl) rfl ?_
            refine fg_iload (fg_ft (pc := 86) tb_Mo_unlike 48 rfl) rfl ?_
            refine fg_if_geW (tgt := 95) (fg_ft (pc := 88) tb_Mo_unlike 49 rfl) (by decide) (by have := hfa; omega) (fun c88 => ?_) (fun c88 => ?_)
            · refine fg_iconst (fg_ft (pc := 95) tb_Mo_unlike 52 rfl) ic_1 ?_
              refine fg_iload (fg_ft (pc := 96) tb_Mo_unlike 53 rfl) rfl ?_
              refine fg_ishl1 (fg_ft (pc := 98) tb_Mo_unlike 54 rfl) (by omega) ?_
              refine fg_iorN (fg_ft (pc := 99) tb_Mo_unlike 55 rfl) ?_
              refine fg_istoren (fg_ft (pc := 100) tb_Mo_unlike 56 rfl) (Nat.le_of_ble_eq_true rfl) ?_
              refine fg_iincN (fg_ft (pc := 101) tb_Mo_unlike 57 rfl) rfl ic_1 rfl ?_
              refine fg_goto (tgt := 4) (fg_ft (pc := 104) tb_Mo_unlike 58 rfl) (by decide) ?_
              have hor : set ||| (2 ^ ((rz_fa (pz_K b len) (pz_V b len) (pz_S b len) (rz_u1 (pz_K b len) (pz_V b len) (pz_S b len) many set Z)).1)) = rz_or set (rz_fa (pz_K b len) (pz_V b len) (pz_S b len) (rz_u1 (pz_K b len) (pz_V b len) (pz_S b len) many set Z)).1 := by
                unfold rz_or
                first
                | (rw [if_pos (by omega)]; exact Nat.or_zero set)
                | rw [if_neg (by omega)]
              rw [hor]
              have hmn : many < len + 2 ∧ many ≤ Z.1 := by
                first
                | omega
                | (have := pz_K_lt (b := b) (len := len) (i := Z.1) (by omega); have := hinv.elim (fun q => absurd q c8) id; omega)
              rw [show len + 2 - many = (len + 2 - (many + 1)) + 1 by omega, rz_ul_s c8 (by first | exact Or.inl c12 | exact Or.inr c20)] at hres
              refine ih (many + 1) _ _ ν7 _ (by omega) (by omega) ?_ hres ag7 h7 (rz_or_lt hset hfa)
              rcases Nat.decEq (rz_fa (pz_K b len) (pz_V b len) (pz_S b len) (rz_u1 (pz_K b len) (pz_V b len) (pz_S b len) many set Z)).2.2.1 1 with q | q
              · refine Or.inr ?_
                have h9 : (rz_fa (pz_K b len) (pz_V b len) (pz_S b len) (rz_u1 (pz_K b len) (pz_V b len) (pz_S b len) many set Z)).2.1 = Z.1 + 1 := (rz_nu_j (lo := 0) (hi := 10) q).trans (by rw [rz_u1_1])
                omega
              · exact Or.inl q
            · refine fg_iconst (fg_ft (pc := 91) tb_Mo_unlike 50 rfl) ic_0 ?_
              refine fg_goto (tgt := 99) (fg_ft (pc := 92) tb_Mo_unlike 51 rfl) (by decide) ?_
              refine fg_iorN (fg_ft (pc := 99) tb_Mo_unlike 55 rfl) ?_
              refine fg_istoren (fg_ft (pc := 100) tb_Mo_unlike 56 rfl) (Nat.le_of_ble_eq_true rfl) ?_
              refine fg_iincN (fg_ft (pc := 101) tb_Mo_unlike 57 rfl) rfl ic_1 rfl ?_
              refine fg_goto (tgt := 4) (fg_ft (pc := 104) tb_Mo_unlike 58 rfl) (by decide) ?_
              have hor : set ||| 0 = rz_or set (rz_fa (pz_K b len) (pz_V b len) (pz_S b len) (rz_u1 (pz_K b len) (pz_V b len) (pz_S b len) many set Z)).1 := by
                unfold rz_or
                first
                | (rw [if_pos (by omega)]; exact Nat.or_zero set)
                | rw [if_neg (by omega)]
              rw [hor]
              have hmn : many < len + 2 ∧ many ≤ Z.1 := by
                first
                | omega
                | (have := pz_K_lt (b := b) (len := len) (i := Z.1) (by omega); have := hinv.elim (fun q => absurd q c8) id; omega)
              rw [show len + 2 - many = (len + 2 - (many + 1)) + 1 by omega, rz_ul_s c8 (by first | exact Or.inl c12 | exact Or.inr c20)] at hres
              refine ih (many + 1) _ _ ν7 _ (by omega) (by omega) ?_ hres ag7 h7 (rz_or_lt hset hfa)
              rcases Nat.decEq (rz_fa (pz_K b len) (pz_V b len) (pz_S b len) (rz_u1 (pz_K b len) (pz_V b len) (pz_S b len) many set Z)).2.2.1 1 with q | q
              · refine Or.inr ?_
                have h9 : (rz_fa (pz_K b len) (pz_V b len) (pz_S b len) (rz_u1 (pz_K b len) (pz_V b len) (pz_S b len) many set Z)).2.1 = Z.1 + 1 := (rz_nu_j (lo := 0) (hi := 10) q).trans (by rw [rz_u1_1])
                omega
              · exact Or.inl q
          · have hK1 := c42
            refine fg_aloadn (fg_ft (pc := 45) tb_Mo_unlike 25 rfl) rfl ?_
            refine fg_getV (v := (nI (pz_V b len Z.1))) (fg_ft (pc := 46) tb_Mo_unlike 26 rfl) ff_Mo_100 ly_287 rfl (fg_lt ly_287 (by decide)) (h6.2.1.2.2.2.1 hK1) ?_
            refine fg_iconst (fg_ft (pc := 49) tb_Mo_unlike 27 rfl) ic_0 ?_
            refine fg_bipush (fg_ft (pc := 50) tb_Mo_unlike 28 rfl) ib_9 ?_
            refine fg_callS (fg_ft (pc := 52) tb_Mo_unlike 29 rfl) cf_Mo_110 (as := [.int (nI (pz_V b len Z.1)), .int (nI 0), .int (nI 9)]) (st := []) rfl rfl (Nat.le_of_ble_eq_true rfl) (Nat.le_refl _) (Nat.le_refl _) (ev_Mo_isInC (k := pz_V b len Z.1) (a := 0) (b := 9) (by have := (pz_sp_i b len Z.1).2.2.2.2.2.2.1; omega) (by decide) (by decide) ?_)
            refine fg_ifB_eq (tgt := 79) (fg_ft (pc := 55) tb_Mo_unlike 30 rfl) (by decide) (fun c55 => ?_) (fun c55 => ?_)
            · have hu : rz_RZ ν6 b len (rz_u1 (pz_K b len) (pz_V b len) (pz_S b len) many set Z) := by
                have e9 : rz_u1 (pz_K b len) (pz_V b len) (pz_S b len) many set Z = (rz_al 3 (pz_S b len Z.1) Z) := by
                  unfold rz_u1
                  rw [if_neg (fun q => by first | exact c42 q.1 | exact c55 ⟨Nat.zero_le _, by have := q.2.1; omega⟩ | exact absurd (c67.symm.trans q.2.2) (by decide))]
                  exact if_pos (by omega)
                rw [e9]; exact h6
              refine fg_aloadn (fg_ft (pc := 79) tb_Mo_unlike 44 rfl) rfl ?_
              refine fg_callV (fg_ft (pc := 80) tb_Mo_unlike 45 rfl) cf_Mo_128 (fg_isOf ly_287 rfl (fg_lt ly_287 (by decide))) (as := []) (st := []) rfl rfl (Nat.le_of_ble_eq_true rfl) (Nat.le_refl _) (Nat.le_refl _) (ev_Mo_factOf hle hb256 hu ?_)
              intro ν8 hg8 h8
              have ag8 := rz_ag_tr ag6 hg8
              show fg_wp _ _ _ _ _ _ _ _ _ (ν8, fg_rho R, 304)
              refine fg_istore (fg_ft (pc := 83) tb_Mo_unlike 46 rfl) (Nat.le_of_ble_eq_true rfl) ?_
              have hfa := rz_fa_hi (K := pz_K b len) (V := pz_V b len) (S := pz_S b len) (Z := rz_u1 (pz_K b len) (pz_V b len) (pz_S b len) many set Z)
              refine fg_iloadn (fg_ft (pc := 85) tb_Mo_unlike 47 rfl) rfl ?_
              refine fg_iload (fg_ft (pc := 86) tb_Mo_unlike 48 rfl) rfl ?_
              refine fg_if_geW (tgt := 95) (fg_ft (pc := 88) tb_Mo_unlike 49 rfl) (by decide) (by have := hfa; omega) (fun c88 => ?_) (fun c88 => ?_)
              · refine fg_iconst (fg_ft (pc := 95) tb_Mo_unlike 52 rfl) ic_1 ?_
                refine fg_iload (fg_ft (pc := 96) tb_Mo_unlike 53 rfl) rfl ?_
                refine fg_ishl1 (fg_ft (pc := 98) tb_Mo_unlike 54 rfl) (by omega) ?_
                refine fg_iorN (fg_ft (pc := 99) tb_Mo_unlike 55 rfl) ?_
                refine fg_istoren (fg_ft (pc := 100) tb_Mo_unlike 56 rfl) (Nat.le_of_ble_eq_true rfl) ?_
                refine fg_iincN (fg_ft (pc := 101) tb_Mo_unlike 57 rfl) rfl ic_1 rfl ?_
                refine fg_goto (tgt := 4) (fg_ft (pc := 104) tb_Mo_unlike 58 rfl) (by decide) ?_
                have hor : set ||| (2 ^ ((rz_fa (pz_K b len) (pz_V b len) (pz_S b len) (rz_u1 (pz_K b len) (pz_V b len) (pz_S b len) many set Z)).1)) = rz_or set (rz_fa (pz_K b len) (pz_V b len) (pz_S b len) (rz_u1 (pz_K b len) (pz_V b len) (pz_S b len) many set Z)).1 := by
                  unfold rz_or
                  first
                  | (rw [if_pos (by omega)]; exact Nat.or_zero set)
                  | rw [if_neg (by omega)]
                rw [hor]
                have hmn : many < len + 2 ∧ many ≤ Z.1 := by
                  first
                  | omega
                  | (have := pz_K_lt (b := b) (len := len) (i := Z.1) (by omega); have := hinv.elim (fun q => absurd q c8) id; omega)
                rw [show len + 2 - many = (len + 2 - (many + 1)) + 1 by omega, rz_ul_s c8 (by first | exact Or.inl c12 | exact Or.inr c20)] at hres
                refine ih (many + 1) _ _ ν8 _ (by omega) (by omega) ?_ hres ag8 h8 (rz_or_lt hset hfa)
                rcases Nat.decEq (rz_fa (pz_K b len) (pz_V b len) (pz_S b len) (rz_u1 (pz_K b len) (pz_V b len) (pz_S b len) many set Z)).2.2.1 1 with q | q
                · refine Or.inr ?_
                  have h9 : (rz_fa (pz_K b len) (pz_V b len) (pz_S b len) (rz_u1 (pz_K b len) (pz_V b len) (pz_S b len) many set Z)).2.1 = Z.1 + 1 := (rz_nu_j (lo := 0) (hi := 10) q).trans (by rw [rz_u1_1])
                  omega
                · exact Or.inl q
              · refine fg_iconst (fg_ft (pc := 91) tb_Mo_unlike 50 rfl) ic_0 ?_
                refine fg_goto (tgt := 99) (fg_ft (pc := 92) tb_Mo_unlike 51 rfl) (by decide) ?_
                refine fg_iorN (fg_ft (pc := 99) tb_Mo_unlike 55 rfl) ?_
                refine fg_istoren (fg_ft (pc := 100) tb_Mo_unlike 56 rfl) (Nat.le_of_ble_eq_true rfl) ?_
                refine fg_iincN (fg_ft (pc := 101) tb_Mo_unlike 57 rfl) rfl ic_1 rfl ?_
                refine fg_goto (tgt := 4) (fg_ft (pc := 104) tb_Mo_unlike 58 rfl) (by decide) ?_
                have hor : set ||| 0 = rz_or set (rz_fa (pz_K b len) (pz_V b len) (pz_S b len) (rz_u1 (pz_K b len) (pz_V b len) (pz_S b len) many set Z)).1 := by
                  unfold rz_or
                  first
                  | (rw [if_pos (by omega)]; exact Nat.or_zero set)
                  | rw [if_neg (by omega)]
                rw [hor]
                have hmn : many < len + 2 ∧ many ≤ Z.1 := by
                  first
                  | omega
                  | (have := pz_K_lt (b := b) (len := len) (i := Z.1) (by omega); have := hinv.elim (fun q => absurd q c8) id; omega)
                rw [show len + 2 - many = (len + 2 - (many + 1)) + 1 by omega, rz_ul_s c8 (by first | exact Or.inl c12 | exact Or.inr c20)] at hres
                refine ih (many + 1) _ _ ν8 _ (by omega) (by omega) ?_ hres ag8 h8 (rz_or_lt hset hfa)
                rcases Nat.decEq (rz_fa (pz_K b len) (pz_V b len) (pz_S b len) (rz_u1 (pz_K b len) (pz_V b len) (pz_S b len) many set Z)).2.2.1 1 with q | q
                · refine Or.inr ?_
                  have h9 : (rz_fa (pz_K b len) (pz_V b len) (pz_S b len) (rz_u1 (pz_K b len) (pz_V b len) (pz_S b len) many set Z)).2.1 = Z.1 + 1 := (rz_nu_j (lo := 0) (hi := 10) q).trans (by rw [rz_u1_1])
                  omega
                · exact Or.inl q
            · refine fg_iloadn (fg_ft (pc := 58) tb_Mo_unlike 31 rfl) rfl ?_
              refine fg_aloadn (fg_ft (pc := 59) tb_Mo_unlike 32 rfl) rfl ?_
              refine fg_getV (v := (nI (pz_V b len Z.1))) (fg_ft (pc := 60) tb_Mo_unlike 33 rfl) ff_Mo_100 ly_287 rfl (fg_lt ly_287 (by decide)) (h6.2.1.2.2.2.1 hK1) ?_
              refine fg_ishrN (fg_ft (pc := 63) tb_Mo_unlike 34 rfl) (by omega) (by omega) ?_
              refine fg_iconst (fg_ft (pc := 64) tb_Mo_unlike 35 rfl) ic_1 ?_
              refine fg_iandN (fg_ft (pc := 65) tb_Mo_unlike 36 rfl) ?_
              refine fg_iconst (fg_ft (pc := 66) tb_Mo_unlike 37 rfl) ic_1 ?_
              refine fg_icmpbit_ne (tgt := 79) (fg_ft (pc := 67) tb_Mo_unlike 38 rfl) (by decide) (fun c67 => ?_) (fun c67 => ?_)
              · have hu : rz_RZ ν6 b len (rz_u1 (pz_K b len) (pz_V b len) (pz_S b len) many set Z) := by
                  have e9 : rz_u1 (pz_K b len) (pz_V b len) (pz_S b len) many set Z = (rz_al 3 (pz_S b len Z.1) Z) := by
                    unfold rz_u1
                    rw [if_neg (fun q => by first | exact c42 q.1 | exact c55 ⟨Nat.zero_le _, by have := q.2.1; omega⟩ | exact absurd (c67.symm.trans q.2.2) (by decide))]
                    exact if_pos (by omega)
                  rw [e9]; exact h6
                refine fg_aloadn (fg_ft (pc := 79) tb_Mo_unlike 44 rfl) rfl ?_
                refine fg_callV (fg_ft (pc := 80) tb_Mo_unlike 45 rfl) cf_Mo_128 (fg_isOf ly_287 rfl (fg_lt ly_287 (by decide))) (as := []) (st := []) rfl rfl (Nat.le_of_ble_eq_true rfl) (Nat.le_refl _) (Nat.le_refl _) (ev_Mo_factOf hle hb256 hu ?_)
                intro ν9 hg9 h9
                have ag9 := rz_ag_tr ag6 hg9
                show fg_wp _ _ _ _ _ _ _ _ _ (ν9, fg_rho R, 304)
                refine fg_istore (fg_ft (pc := 83) tb_Mo_unlike 46 rfl) (Nat.le_of_ble_eq_true rfl) ?_
                have hfa := rz_fa_hi (K := pz_K b len) (V := pz_V b len) (S := pz_S b len) (Z := rz_u1 (pz_K b len) (pz_V b len) (pz_S b len) many set Z)
                refine fg_iloadn (fg_ft (pc := 85) tb_Mo_unlike 47 rfl) rfl ?_
                refine fg_iload (fg_ft (pc := 86) tb_Mo_unlike 48 rfl) rfl ?_
                refine fg_if_geW (tgt := 95) (fg_ft (pc := 88) tb_Mo_unlike 49 rfl) (by decide) (by have := hfa; omega) (fun c88 => ?_) (fun c88 => ?_)
                · refine fg_iconst (fg_ft (pc := 95) tb_Mo_unlike 52 rfl) ic_1 ?_
                  refine fg_iload (fg_ft (pc := 96) tb_Mo_unlike 53 rfl) rfl ?_
                  refine fg_ishl1 (fg_ft (pc := 98) tb_Mo_unlike 54 rfl) (by omega) ?_
                  refine fg_iorN (fg_ft (pc := 99) tb_Mo_unlike 55 rfl) ?_
                  refine fg_istoren (fg_ft (pc := 100) tb_Mo_unlike 56 rfl) (Nat.le_of_ble_eq_true rfl) ?_
                  refine fg_iincN (fg_ft (pc := 101) tb_Mo_unlike 57 rfl) rfl ic_1 rfl ?_
                  refine fg_goto (tgt := 4) (fg_ft (pc := 104) tb_Mo_unlike 58 rfl) (by decide) ?_
                  have hor : set ||| (2 ^ ((rz_fa (pz_K b len) (pz_V b len) (pz_S b len) (rz_u1 (pz_K b len) (pz_V b len) (pz_S b len) many set Z)).1)) = rz_or set (rz_fa (pz_K b len) (pz_V b len) (pz_S b len) (rz_u1 (pz_K b len) (pz_V b len) (pz_S b len) many set Z)).1 := by
                    unfold rz_or
                    first
                    | (rw [if_pos (by omega)]; exact Nat.or_zero set)
                    | rw [if_neg (by omega)]
                  rw [hor]
                  have hmn : many < len + 2 ∧ many ≤ Z.1 := by
                    first
                    | omega
                    | (have := pz_K_lt (b := b) (len := len) (i := Z.1) (by omega); have := hinv.elim (fun q => absurd q c8) id; omega)
                  rw [show len + 2 - many = (len + 2 - (many + 1)) + 1 by omega, rz_ul_s c8 (by first | exact Or.inl c12 | exact Or.inr c20)] at hres
                  refine ih (many + 1) _ _ ν9 _ (by omega) (by omega) ?_ hres ag9 h9 (rz_or_lt hset hfa)
                  rcases Nat.decEq (rz_fa (pz_K b len) (pz_V b len) (pz_S b len) (rz_u1 (pz_K b len) (pz_V b len) (pz_S b len) many set Z)).2.2.1 1 with q | q
                  · refine Or.inr ?_
                    have h9 : (rz_fa (pz_K b len) (pz_V b len) (pz_S b len) (rz_u1 (pz_K b len) (pz_V b len) (pz_S b len) many set Z)).2.1 = Z.1 + 1 := (rz_nu_j (lo := 0) (hi := 10) q).trans (by rw [rz_u1_1])
                    omega
                  · exact Or.inl q
                · refine fg_iconst (fg_ft (pc := 91) tb_Mo_unlike 50 rfl) ic_0 ?_
                  refine fg_goto (tgt := 99) (fg_ft (pc := 92) tb_Mo_unlike 51 rfl) (by decide) ?_
                  refine fg_iorN (fg_ft (pc := 99) tb_Mo_unlike 55 rfl) ?_
                  refine fg_istoren (fg_ft (pc := 100) tb_Mo_unlike 56 rfl) (Nat.le_of_ble_eq_true rfl) ?_
                  refine fg_iincN (fg_ft (pc := 101) tb_Mo_unlike 57 rfl) rfl ic_1 rfl ?_
                  refine fg_goto (tgt := 4) (fg_ft (pc := 104) tb_Mo_unlike 58 rfl) (by decide) ?_
                  have hor : set ||| 0 = rz_or set (rz_fa (pz_K b len) (pz_V b len) (pz_S b len) (rz_u1 (pz_K b len) (pz_V b len) (pz_S b len) many set Z)).1 := by
                    unfold rz_or
                    first
                    | (rw [if_pos (by omega)]; exact Nat.or_zero set)
                    | rw [if_neg (by omega)]
                  rw [hor]
                  have hmn : many < len + 2 ∧ many ≤ Z.1 := by
                    first
                    | omega
                    | (have := pz_K_lt (b := b) (len := len) (i := Z.1) (by omega); have := hinv.elim (fun q => absurd q c8) id; omega)
                  rw [show len + 2 - many = (len + 2 - (many + 1)) + 1 by omega, rz_ul_s c8 (by first | exact Or.inl c12 | exact Or.inr c20)] at hres
                  refine ih (many + 1) _ _ ν9 _ (by omega) (by omega) ?_ hres ag9 h9 (rz_or_lt hset hfa)
                  rcases Nat.decEq (rz_fa (pz_K b len) (pz_V b len) (pz_S b len) (rz_u1 (pz_K b len) (pz_V b len) (pz_S b len) many set Z)).2.2.1 1 with q | q
                  · refine Or.inr ?_
                    have h9 : (rz_fa (pz_K b len) (pz_V b len) (pz_S b len) (rz_u1 (pz_K b len) (pz_V b len) (pz_S b len) many set Z)).2.1 = Z.1 + 1 := (rz_nu_j (lo := 0) (hi := 10) q).trans (by rw [rz_u1_1])
                    omega
                  · exact Or.inl q
              · refine fg_aloadn (fg_ft (pc := 70) tb_Mo_unlike 39 rfl) rfl ?_
                refine fg_iconst (fg_ft (pc := 71) tb_Mo_unlike 40 rfl) ic_2 ?_
                refine fg_aloadn (fg_ft (pc := 72) tb_Mo_unlike 41 rfl) rfl ?_
                refine fg_getV (v := (nI (pz_S b len Z.1))) (fg_ft (pc := 73) tb_Mo_unlike 42 rfl) ff_Mo_81 ly_287 rfl (fg_lt ly_287 (by decide)) h6.2.1.2.1 ?_
                refine fg_callV (fg_ft (pc := 76) tb_Mo_unlike 43 rfl) cf_Mo_114 (fg_isOf ly_287 rfl (fg_lt ly_287 (by decide))) (as := [.int (nI 2), .int (nI (pz_S b len Z.1))]) (st := []) rfl rfl (Nat.le_of_ble_eq_true rfl) (Nat.le_refl _) (Nat.le_refl _) (ev_Mo_also (kd := 2) (at9 := (pz_S b len Z.1)) hle hb256 h6 (by decide) (by decide) (by decide) (rz_S_le hle) ?_)
                intro ν10 hg10 h10
                have ag10 := rz_ag_tr ag6 hg10
                show fg_wp _ _ _ _ _ _ _ _ _ (ν10, fg_rho R, 304)
                have hu : rz_RZ ν10 b len (rz_u1 (pz_K b len) (pz_V b len) (pz_S b len) many set Z) := by
                  have e9 : rz_u1 (pz_K b len) (pz_V b len) (pz_S b len) many set Z = (rz_al 2 (pz_S b len Z.1) (rz_al 3 (pz_S b len Z.1) Z)) := by
                    unfold rz_u1
                    rw [if_pos ⟨c42, by have := c55.2; omega, c67⟩]
                    exact congrArg (rz_al 2 (pz_S b len Z.1)) (if_pos (by omega))
                  rw [e9]; exact h10
                refine fg_aloadn (fg_ft (pc := 79) tb_Mo_unlike 44 rfl) rfl ?_
                refine fg_callV (fg_ft (pc := 80) tb_Mo_unlike 45 rfl) cf_Mo_128 (fg_isOf ly_287 rfl (fg_lt ly_287 (by decide))) (as := []) (st := []) rfl rfl (Nat.le_of_ble_eq_true rfl) (Nat.le_refl _) (Nat.le_refl _) (ev_Mo_factOf hle hb256 hu ?_)
                intro ν11 hg11 h11
                have ag11 := rz_ag_tr ag10 hg11
                show fg_wp _ _ _ _ _ _ _ _ _ (ν11, fg_rho R, 304)
                refine fg_istore (fg_ft (pc := 83) tb_Mo_unlike 46 rfl) (Nat.le_of_ble_eq_true rfl) ?_
                have hfa := rz_fa_hi (K := pz_K b len) (V := pz_V b len) (S := pz_S b len) (Z := rz_u1 (pz_K b len) (pz_V b len) (pz_S b len) many set Z)
                refine fg_iloadn (fg_ft (pc := 85) tb_Mo_unlike 47 rfl) rfl ?_
                refine fg_iload (fg_ft (pc := 86) tb_Mo_unlike 48 rfl) rfl ?_
                refine fg_if_geW (tgt := 95) (fg_ft (pc := 88) tb_Mo_unlike 49 rfl) (by decide) (by have := hfa; omega) (fun c88 => ?_) (fun c88 => ?_)
                · refine fg_iconst (fg_ft (pc := 95) tb_Mo_unlike 52 rfl) ic_1 ?_
                  refine fg_iload (fg_ft (pc := 96) tb_Mo_unlike 53 rfl) rfl ?_
                  refine fg_ishl1 (fg_ft (pc := 98) tb_Mo_unlike 54 rfl) (by omega) ?_
                  refine fg_iorN (fg_ft (pc := 99) tb_Mo_unlike 55 rfl) ?_
                  refine fg_istoren (fg_ft (pc := 100) tb_Mo_unlike 56 rfl) (Nat.le_of_ble_eq_true rfl) ?_
                  refine fg_iincN (fg_ft (pc := 101) tb_Mo_unlike 57 rfl) rfl ic_1 rfl ?_
                  refine fg_goto (tgt := 4) (fg_ft (pc := 104) tb_Mo_unlike 58 rfl) (by decide) ?_
                  have hor : set ||| (2 ^ ((rz_fa (pz_K b len) (pz_V b len) (pz_S b len) (rz_u1 (pz_K b len) (pz_V b len) (pz_S b len) many set Z)).1)) = rz_or set (rz_fa (pz_K b len) (pz_V b len) (pz_S b len) (rz_u1 (pz_K b len) (pz_V b len) (pz_S b len) many set Z)).1 := by
                    unfold rz_or
                    first
                    | (rw [if_pos (by omega)]; exact Nat.or_zero set)
                    | rw [if_neg (by omega)]
                  rw [hor]
                  have hmn : many < len + 2 ∧ many ≤ Z.1 := by
                    first
                    | omega
                    | (have := pz_K_lt (b := b) (len := len) (i := Z.1) (by omega); have := hinv.elim (fun q => absurd q c8) id; omega)
                  rw [show len + 2 - many = (len + 2 - (many + 1)) + 1 by omega, rz_ul_s c8 (by first | exact Or.inl c12 | exact Or.inr c20)] at hres
                  refine ih (many + 1) _ _ ν11 _ (by omega) (by omega) ?_ hres ag11 h11 (rz_or_lt hset hfa)
                  rcases Nat.decEq (rz_fa (pz_K b len) (pz_V b len) (pz_S b len) (rz_u1 (pz_K b len) (pz_V b len) (pz_S b len) many set Z)).2.2.1 1 with q | q
                  · refine Or.inr ?_
                    have h9 : (rz_fa (pz_K b len) (pz_V b len) (pz_S b len) (rz_u1 (pz_K b len) (pz_V b len) (pz_S b len) many set Z)).2.1 = Z.1 + 1 := (rz_nu_j (lo := 0) (hi := 10) q).trans (by rw [rz_u1_1])
                    omega
                  · exact Or.inl q
                · refine fg_iconst (fg_ft (pc := 91) tb_Mo_unlike 50 rfl) ic_0 ?_
                  refine fg_goto (tgt := 99) (fg_ft (pc := 92) tb_Mo_unlike 51 rfl) (by decide) ?_
                  refine fg_iorN (fg_ft (pc := 99) tb_Mo_unlike 55 rfl) ?_
                  refine fg_istoren (fg_ft (pc := 100) tb_Mo_unlike 56 rfl) (Nat.le_of_ble_eq_true rfl) ?_
                  refine fg_iincN (fg_ft (pc := 101) tb_Mo_unlike 57 rfl) rfl ic_1 rfl ?_
                  refine fg_goto (tgt := 4) (fg_ft (pc := 104) tb_Mo_unlike 58 rfl) (by decide) ?_
                  have hor : set ||| 0 = rz_or set (rz_fa (pz_K b len) (pz_V b len) (pz_S b len) (rz_u1 (pz_K b len) (pz_V b len) (pz_S b len) many set Z)).1 := by
                    unfold rz_or
                    first
                    | (rw [if_pos (by omega)]; exact Nat.or_zero set)
                    | rw [if_neg (by omega)]
                  rw [hor]
                  have hmn : many < len + 2 ∧ many ≤ Z.1 := by
                    first
                    | omega
                    | (have := pz_K_lt (b := b) (len := len) (i := Z.1) (by omega); have := hinv.elim (fun q => absurd q c8) id; omega)
                  rw [show len + 2 - many = (len + 2 - (many + 1)) + 1 by omega, rz_ul_s c8 (by first | exact Or.inl c12 | exact Or.inr c20)] at hres
                  refine ih (many + 1) _ _ ν11 _ (by omega) (by omega) ?_ hres ag11 h11 (rz_or_lt hset hfa)
                  rcases Nat.decEq (rz_fa (pz_K b len) (pz_V b len) (pz_S b len) (rz_u1 (pz_K b len) (pz_V b len) (pz_S b len) many set Z)).2.2.1 1 with q | q
                  · refine Or.inr ?_
                    have h9 : (rz_fa (pz_K b len) (pz_V b len) (pz_S b len) (rz_u1 (pz_K b len) (pz_V b len) (pz_S b len) many set Z)).2.1 = Z.1 + 1 := (rz_nu_j (lo := 0) (hi := 10) q).trans (by rw [rz_u1_1])
                    omega
                  · exact Or.inl q
      · refine fg_aloadn (fg_ft (pc := 15) tb_Mo_unlike 9 rfl) rfl ?_
        refine fg_getV (v := (nI (pz_K b len Z.1))) (fg_ft (pc := 16) tb_Mo_unlike 10 rfl) ff_Mo_84 ly_287 rfl (fg_lt ly_287 (by decide)) h.2.1.2.2.1 ?_
        refine fg_iconst (fg_ft (pc := 19) tb_Mo_unlike 11 rfl) ic_1 ?_
        refine fg_icmp_neN (tgt := 107) (fg_ft (pc := 20) tb_Mo_unlike 12 rfl) (by decide) (by have := (pz_sp_i b len Z.1).2.2.2.1; omega) (by decide) (fun c20 => ?_) (fun c20 => ?_)
        · have hr : res = (set, Z) := by
            rw [← hres]
            exact rz_ul_e (by first | exact Or.inl c8 | exact Or.inr ⟨by omega, c20⟩)
          refine fg_iloadn (fg_ft (pc := 107) tb_Mo_unlike 59 rfl) rfl ?_
          refine fg_iloadn (fg_ft (pc := 108) tb_Mo_unlike 60 rfl) rfl ?_
          refine fg_iconst (fg_ft (pc := 109) tb_Mo_unlike 61 rfl) ic_m1 ?_
          refine fg_ixor (fg_ft (pc := 110) tb_Mo_unlike 62 rfl) ?_
          refine fg_iandD (fg_ft (pc := 111) tb_Mo_unlike 63 rfl) ?_
          exact fg_iret (fg_ft (pc := 112) tb_Mo_unlike 64 rfl) rfl rfl (by
    rw [hr] at hQ
    exact hQ ν hag h)
        · refine fg_iloadn (fg_ft (pc := 23) tb_Mo_unlike 13 rfl) rfl ?_
          refine fg_iconst (fg_ft (pc := 24) tb_Mo_unlike 14 rfl) ic_3 ?_
          refine fg_icmp_ltN (tgt := 37) (fg_ft (pc := 25) tb_Mo_unlike 15 rfl) (by decide) (by omega) (by decide) (fun c25 => ?_) (fun c25 => ?_)
          · refine fg_aloadn (fg_ft (pc := 37) tb_Mo_unlike 21 rfl) rfl ?_
            refine fg_getV (v := (nI (pz_K b len Z.1))) (fg_ft (pc := 38) tb_Mo_unlike 22 rfl) ff_Mo_84 ly_287 rfl (fg_lt ly_287 (by decide)) h.2.1.2.2.1 ?_
            refine fg_iconst (fg_ft (pc := 41) tb_Mo_unlike 23 rfl) ic_1 ?_
            refine fg_icmp_neN (tgt := 79) (fg_ft (pc := 42) tb_Mo_unlike 24 rfl) (by decide) (by have := (pz_sp_i b len Z.1).2.2.2.1; omega) (by decide) (fun c42 => ?_) (fun c42 => ?_)
            · have hu : rz_RZ ν b len (rz_u1 (pz_K b len) (pz_V b len) (pz_S b len) many set Z) := by
                have e9 : rz_u1 (pz_K b len) (pz_V b len) (pz_S b len) many set Z = Z := by
                  unfold rz_u1
                  rw [if_neg (fun q => by first | exact c42 q.1 | exact c55 ⟨Nat.zero_le _, by have := q.2.1; omega⟩ | exact absurd (c67.symm.trans q.2.2) (by decide))]
                  exact if_neg (by omega)
                rw [e9]; exact h
              refine fg_aloadn (fg_ft (pc := 79) tb_Mo_unlike 44 rfl) rfl ?_
              refine fg_callV (fg_ft (pc := 80) tb_Mo_unlike 45 rfl) cf_Mo_128 (fg_isOf ly_287 rfl (fg_lt ly_287 (by decide))) (as := []) (st := []) rfl rfl (Nat.le_of_ble_eq_true rfl) (Nat.le_refl _) (Nat.le_refl _) (ev_Mo_factOf hle hb256 hu ?_)
              intro ν12 hg12 h12
              have ag12 := rz_ag_tr hag hg12
              show fg_wp _ _ _ _ _ _ _ _ _ (ν12, fg_rho R, 304)
              refine fg_istore (fg_ft (pc := 83) tb_Mo_unlike 46 rfl) (Nat.le_of_ble_eq_true rfl) ?_
              have hfa := rz_fa_hi (K := pz_K b len) (V := pz_V b len) (S := pz_S b len) (Z := rz_u1 (pz_K b len) (pz_V b len) (pz_S b len) many set Z)
              refine fg_iloadn (fg_ft (pc := 85) tb_Mo_unlike 47 rfl) rfl ?_
              refine fg_iload (fg_ft (pc := 86) tb_Mo_unlike 48 rfl) rfl ?_
              refine fg_if_geW (tgt := 95) (fg_ft (pc := 88) tb_Mo_unlike 49 rfl) (by decide) (by have := hfa; omega) (fun c88 => ?_) (fun c88 => ?_)
              · refine fg_iconst (fg_ft (pc := 95) tb_Mo_unlike 52 rfl) ic_1 ?_
                refine fg_iload (fg_ft (pc := 96) tb_Mo_unlike 53 rfl) rfl ?_
                refine fg_ishl1 (fg_ft (pc := 98) tb_Mo_unlike 54 rfl) (by omega) ?_
                refine fg_iorN (fg_ft (pc := 99) tb_Mo_unlike 55 rfl) ?_
                refine fg_istoren (fg_ft (pc := 100) tb_Mo_unlike 56 rfl) (Nat.le_of_ble_eq_true rfl) ?_
                refine fg_iincN (fg_ft (pc := 101) tb_Mo_unlike 57 rfl) rfl ic_1 rfl ?_
                refine fg_goto (tgt := 4) (fg_ft (pc := 104) tb_Mo_unlike 58 rfl) (by decide) ?_
                have hor : set ||| (2 ^ ((rz_fa (pz_K b len) (pz_V b len) (pz_S b len) (rz_u1 (pz_K b len) (pz_V b len) (pz_S b len) many set Z)).1)) = rz_or set (rz_fa (pz_K b len) (pz_V b len) (pz_S b len) (rz_u1 (pz_K b len) (pz_V b len) (pz_S b len) many set Z)).1 := by
                  unfold rz_or
                  first
                  | (rw [if_pos (by omega)]; exact Nat.or_zero set)
                  | rw [if_neg (by omega)]
                rw [hor]
                have hmn : many < len + 2 ∧ many ≤ Z.1 := by
                  first
                  | omega
                  | (have := pz_K_lt (b := b) (len := len) (i := Z.1) (by omega); have := hinv.elim (fun q => absurd q c8) id; omega)
                rw [show len + 2 - many = (len + 2 - (many + 1)) + 1 by omega, rz_ul_s c8 (by first | exact Or.inl c12 | exact Or.inr c20)] at hres
                refine ih (many + 1) _ _ ν12 _ (by omega) (by omega) ?_ hres ag12 h12 (rz_or_lt hset hfa)
                rcases Nat.decEq (rz_fa (pz_K b len) (pz_V b len) (pz_S b len) (rz_u1 (pz_K b len) (pz_V b len) (pz_S b len) many set Z)).2.2.1 1 with q | q
                · refine Or.inr ?_
                  have h9 : (rz_fa (pz_K b len) (pz_V b len) (pz_S b len) (rz_u1 (pz_K b len) (pz_V b len) (pz_S b len) many set Z)).2.1 = Z.1 + 1 := (rz_nu_j (lo := 0) (hi := 10) q).trans (by rw [rz_u1_1])
                  omega
                · exact Or.inl q
              · refine fg_iconst (fg_ft (pc := 91) tb_Mo_unlike 50 rfl) ic_0 ?_
                refine fg_goto (tgt := 99) (fg_ft (pc := 92) tb_Mo_unlike 51 rfl) (by decide) ?_
                refine fg_iorN (fg_ft (pc := 99) tb_Mo_unlike 55 rfl) ?_
                refine fg_istoren (fg_ft (pc := 100) tb_Mo_unlike 56 rfl) (Nat.le_of_ble_eq_true rfl) ?_
                refine fg_iincN (fg_ft (pc := 101) tb_Mo_unlike 57 rfl) rfl ic_1 rfl ?_
                refine fg_goto (tgt := 4) (fg_ft (pc := 104) tb_Mo_unlike 58 rfl) (by decide) ?_
                have hor : set ||| 0 = rz_or set (rz_fa (pz_K b len) (pz_V b len) (pz_S b len) (rz_u1 (pz_K b len) (pz_V b len) (pz_S b len) many set Z)).1 := by
                  unfold rz_or
                  first
                  | (rw [if_pos (by omega)]; exact Nat.or_zero set)
                  | rw [if_neg (by omega)]
                rw [hor]
                have hmn : many < len + 2 ∧ many ≤ Z.1 := by
                  first
                  | omega
                  | (have := pz_K_lt (b := b) (len := len) (i := Z.1) (by omega); have := hinv.elim (fun q => absurd q c8) id; omega)
                rw [show len + 2 - many = (len + 2 - (many + 1)) + 1 by omega, rz_ul_s c8 (by first | exact Or.inl c12 | exact Or.inr c20)] at hres
                refine ih (many + 1) _ _ ν12 _ (by omega) (by omega) ?_ hres ag12 h12 (rz_or_lt hset hfa)
                rcases Nat.decEq (rz_fa (pz_K b len) (pz_V b len) (pz_S b len) (rz_u1 (pz_K b len) (pz_V b len) (pz_S b len) many set Z)).2.2.1 1 with q | q
                · refine Or.inr ?_
                  have h9 : (rz_fa (pz_K b len) (pz_V b len) (pz_S b len) (rz_u1 (pz_K b len) (pz_V b len) (pz_S b len) many set Z)).2.1 = Z.1 + 1 := (rz_nu_j (lo := 0) (hi := 10) q).trans (by rw [rz_u1_1])
                  omega
                · exact Or.inl q
            · have hK1 := c42
              refine fg_aloadn (fg_ft (pc := 45) tb_Mo_unlike 25 rfl) rfl ?_
              refine fg_getV (v := (nI (pz_V b len Z.1))) (fg_ft (pc := 46) tb_Mo_unlike 26 rfl) ff_Mo_100 ly_287 rfl (fg_lt ly_287 (by decide)) (h.2.1.2.2.2.1 hK1) ?_
              refine fg_iconst (fg_ft (pc := 49) tb_Mo_unlike 27 rfl) ic_0 ?_
              refine fg_bipush (fg_ft (pc := 50) tb_Mo_unlike 28 rfl) ib_9 ?_
              refine fg_callS (fg_ft (pc := 52) tb_Mo_unlike 29 rfl) cf_Mo_110 (as := [.int (nI (pz_V b len Z.1)), .int (nI 0), .int (nI 9)]) (st := []) rfl rfl (Nat.le_of_ble_eq_true rfl) (Nat.le_refl _) (Nat.le_refl _) (ev_Mo_isInC (k := pz_V b len Z.1) (a := 0) (b := 9) (by have := (pz_sp_i b len Z.1).2.2.2.2.2.2.1; omega) (by decide) (by decide) ?_)
              refine fg_ifB_eq (tgt := 79) (fg_ft (pc := 55) tb_Mo_unlike 30 rfl) (by decide) (fun c55 => ?_) (fun c55 => ?_)
              · have hu : rz_RZ ν b len (rz_u1 (pz_K b len) (pz_V b len) (pz_S b len) many set Z) := by
                  have e9 : rz_u1 (pz_K b len) (pz_V b len) (pz_S b len) many set Z = Z := by
                    unfold rz_u1
                    rw [if_neg (fun q => by first | exact c42 q.1 | exact c55 ⟨Nat.zero_le _, by have := q.2.1; omega⟩ | exact absurd (c67.symm.trans q.2.2) (by decide))]
                    exact if_neg (by omega)
                  rw [e9]; exact h
                refine fg_aloadn (fg_ft (pc := 79) tb_Mo_unlike 44 rfl) rfl ?_
                refine fg_callV (fg_ft (pc := 80) tb_Mo_unlike 45 rfl) cf_Mo_128 (fg_isOf ly_287 rfl (fg_lt ly_287 (by decide))) (as := []) (st := []) rfl rfl (Nat.le_of_ble_eq_true rfl) (Nat.le_refl _) (Nat.le_refl _) (ev_Mo_factOf hle hb256 hu ?_)
                intro ν13 hg13 h13
                have ag13 := rz_ag_tr hag hg13
                show fg_wp _ _ _ _ _ _ _ _ _ (ν13, fg_rho R, 304)
                refine fg_istore (fg_ft (pc := 83) tb_Mo_unlike 46 rfl) (Nat.le_of_ble_eq_true rfl) ?_
                have hfa := rz_fa_hi (K := pz_K b len) (V := pz_V b len) (S := pz_S b len) (Z := rz_u1 (pz_K b len) (pz_V b len) (pz_S b len) many set Z)
                refine fg_iloadn (fg_ft (pc := 85) tb_Mo_unlike 47 rfl) rfl ?_
                refine fg_iload (fg_ft (pc := 86) tb_Mo_unlike 48 rfl) rfl ?_
                refine fg_if_geW (tgt := 95) (fg_ft (pc := 88) tb_Mo_unlike 49 rfl) (by decide) (by have := hfa; omega) (fun c88 => ?_) (fun c88 => ?_)
                · refine fg_iconst (fg_ft (pc := 95) tb_Mo_unlike 52 rfl) ic_1 ?_
                  refine fg_iload (fg_ft (pc := 96) tb_Mo_unlike 53 rfl) rfl ?_
                  refine fg_ishl1 (fg_ft (pc := 98) tb_Mo_unlike 54 rfl) (by omega) ?_
                  refine fg_iorN (fg_ft (pc := 99) tb_Mo_unlike 55 rfl) ?_
                  refine fg_istoren (fg_ft (pc := 100) tb_Mo_unlike 56 rfl) (Nat.le_of_ble_eq_true rfl) ?_
                  refine fg_iincN (fg_ft (pc := 101) tb_Mo_unlike 57 rfl) rfl ic_1 rfl ?_
                  refine fg_goto (tgt := 4) (fg_ft (pc := 104) tb_Mo_unlike 58 rfl) (by decide) ?_
                  have hor : set ||| (2 ^ ((rz_fa (pz_K b len) (pz_V b len) (pz_S b len) (rz_u1 (pz_K b len) (pz_V b len) (pz_S b len) many set Z)).1)) = rz_or set (rz_fa (pz_K b len) (pz_V b len) (pz_S b len) (rz_u1 (pz_K b len) (pz_V b len) (pz_S b len) many set Z)).1 := by
                    unfold rz_or
                    first
                    | (rw [if_pos (by omega)]; exact Nat.or_zero set)
                    | rw [if_neg (by omega)]
                  rw [hor]
                  have hmn : many < len + 2 ∧ many ≤ Z.1 := by
                    first
                    | omega
                    | (have := pz_K_lt (b := b) (len := len) (i := Z.1) (by omega); have := hinv.elim (fun q => absurd q c8) id; omega)
                  rw [show len + 2 - many = (len + 2 - (many + 1)) + 1 by omega, rz_ul_s c8 (by first | exact Or.inl c12 | exact Or.inr c20)] at hres
                  refine ih (many + 1) _ _ ν13 _ (by omega) (by omega) ?_ hres ag13 h13 (rz_or_lt hset hfa)
                  rcases Nat.decEq (rz_fa (pz_K b len) (pz_V b len) (pz_S b len) (rz_u1 (pz_K b len) (pz_V b len) (pz_S b len) many set Z)).2.2.1 1 with q | q
                  · refine Or.inr ?_
                    have h9 : (rz_fa (pz_K b len) (pz_V b len) (pz_S b len) (rz_u1 (pz_K b len) (pz_V b len) (pz_S b len) many set Z)).2.1 = Z.1 + 1 := (rz_nu_j (lo := 0) (hi := 10) q).trans (by rw [rz_u1_1])
                    omega
                  · exact Or.inl q
                · refine fg_iconst (fg_ft (pc := 91) tb_Mo_unlike 50 rfl) ic_0 ?_
                  refine fg_goto (tgt := 99) (fg_ft (pc := 92) tb_Mo_unlike 51 rfl) (by decide) ?_
                  refine fg_iorN (fg_ft (pc := 99) tb_Mo_unlike 55 rfl) ?_
                  refine fg_istoren (fg_ft (pc := 100) tb_Mo_unlike 56 rfl) (Nat.le_of_ble_eq_true rfl) ?_
                  refine fg_iincN (fg_ft (pc := 101) tb_Mo_unlike 57 rfl) rfl ic_1 rfl ?_
                  refine fg_goto (tgt := 4) (fg_ft (pc := 104) tb_Mo_unlike 58 rfl) (by decide) ?_
                  have hor : set ||| 0 = rz_or set (rz_fa (pz_K b len) (pz_V b len) (pz_S b len) (rz_u1 (pz_K b len) (pz_V b len) (pz_S b len) many set Z)).1 := by
                    unfold rz_or
                    first
                    | (rw [if_pos (by omega)]; exact Nat.or_zero set)
                    | rw [if_neg (by omega)]
                  rw [hor]
                  have hmn : many < len + 2 ∧ many ≤ Z.1 := by
                    first
                    | omega
                    | (have := pz_K_lt (b := b) (len := len) (i := Z.1) (by omega); have := hinv.elim (fun q => absurd q c8) id; omega)
                  rw [show len + 2 - many = (len + 2 - (many + 1)) + 1 by omega, rz_ul_s c8 (by first | exact Or.inl c12 | exact Or.inr c20)] at hres
                  refine ih (many + 1) _ _ ν13 _ (by omega) (by omega) ?_ hres ag13 h13 (rz_or_lt hset hfa)
                  rcases Nat.decEq (rz_fa (pz_K b len) (pz_V b len) (pz_S b len) (rz_u1 (pz_K b len) (pz_V b len) (pz_S b len) many set Z)).2.2.1 1 with q | q
                  · refine Or.inr ?_
                    have h9 : (rz_fa (pz_K b len) (pz_V b len) (pz_S b len) (rz_u1 (pz_K b len) (pz_V b len) (pz_S b len) many set Z)).2.1 = Z.1 + 1 := (rz_nu_j (lo := 0) (hi := 10) q).trans (by rw [rz_u1_1])
                    omega
                  · exact Or.inl q
              · refine fg_iloadn (fg_ft (pc := 58) tb_Mo_unlike 31 rfl) rfl ?_
                refine fg_aloadn (fg_ft (pc := 59) tb_Mo_unlike 32 rfl) rfl ?_
                refine fg_getV (v := (nI (pz_V b len Z.1))) (fg_ft (pc := 60) tb_Mo_unlike 33 rfl) ff_Mo_100 ly_287 rfl (fg_lt ly_287 (by decide)) (h.2.1.2.2.2.1 hK1) ?_
                refine fg_ishrN (fg_ft (pc := 63) tb_Mo_unlike 34 rfl) (by omega) (by omega) ?_
                refine fg_iconst (fg_ft (pc := 64) tb_Mo_unlike 35 rfl) ic_1 ?_
                refine fg_iandN (fg_ft (pc := 65) tb_Mo_unlike 36 rfl) ?_
                refine fg_iconst (fg_ft (pc := 66) tb_Mo_unlike 37 rfl) ic_1 ?_
                refine fg_icmpbit_ne (tgt := 79) (fg_ft (pc := 67) tb_Mo_unlike 38 rfl) (by decide) (fun c67 => ?_) (fun c67 => ?_)
                · have hu : rz_RZ ν b len (rz_u1 (pz_K b len) (pz_V b len) (pz_S b len) many set Z) := by
                    have e9 : rz_u1 (pz_K b len) (pz_V b len) (pz_S b len) many set Z = Z := by
                      unfold rz_u1
                      rw [if_neg (fun q => by first | exact c42 q.1 | exact c55 ⟨Nat.zero_le _, by have := q.2.1; omega⟩ | exact absurd (c67.symm.trans q.2.2) (by decide))]
                      exact if_neg (by omega)
                    rw [e9]; exact h
                  refine fg_aloadn (fg_ft (pc := 79) tb_Mo_unlike 44 rfl) rfl ?_
                  refine fg_callV (fg_ft (pc := 80) tb_Mo_unlike 45 rfl) cf_Mo_128 (fg_isOf ly_287 rfl (fg_lt ly_287 (by decide))) (as := []) (st := []) rfl rfl (Nat.le_of_ble_eq_true rfl) (Nat.le_refl _) (Nat.le_refl _) (ev_Mo_factOf hle hb256 hu ?_)
                  intro ν14 hg14 h14
                  have ag14 := rz_ag_tr hag hg14
                  show fg_wp _ _ _ _ _ _ _ _ _ (ν14, fg_rho R, 304)
                  refine fg_istore (fg_ft (pc := 83) tb_Mo_unlike 46 rfl) (Nat.le_of_ble_eq_true rfl) ?_
                  have hfa := rz_fa_hi (K := pz_K b len) (V := pz_V b len) (S := pz_S b len) (Z := rz_u1 (pz_K b len) (pz_V b len) (pz_S b len) many set Z)
                  refine fg_iloadn (fg_ft (pc := 85) tb_Mo_unlike 47 rfl) rfl ?_
                  refine fg_iload (fg_ft (pc := 86) tb_Mo_unlike 48 rfl) rfl ?_
                  refine fg_if_geW (tgt := 95) (fg_ft (pc := 88) tb_Mo_unlike 49 rfl) (by decide) (by have := hfa; omega) (fun c88 => ?_) (fun c88 => ?_)
                  · refine fg_iconst (fg_ft (pc := 95) tb_Mo_unlike 52 rfl) ic_1 ?_
                    refine fg_iload (fg_ft (pc := 96) tb_Mo_unlike 53 rfl) rfl ?_
                    refine fg_ishl1 (fg_ft (pc := 98) tb_Mo_unlike 54 rfl) (by omega) ?_
                    refine fg_iorN (fg_ft (pc := 99) tb_Mo_unlike 55 rfl) ?_
                    refine fg_istoren (fg_ft (pc := 100) tb_Mo_unlike 56 rfl) (Nat.le_of_ble_eq_true rfl) ?_
                    refine fg_iincN (fg_ft (pc := 101) tb_Mo_unlike 57 rfl) rfl ic_1 rfl ?_
                    refine fg_goto (tgt := 4) (fg_ft (pc := 104) tb_Mo_unlike 58 rfl) (by decide) ?_
                    have hor : set ||| (2 ^ ((rz_fa (pz_K b len) (pz_V b len) (pz_S b len) (rz_u1 (pz_K b len) (pz_V b len) (pz_S b len) many set Z)).1)) = rz_or set (rz_fa (pz_K b len) (pz_V b len) (pz_S b len) (rz_u1 (pz_K b len) (pz_V b len) (pz_S b len) many set Z)).1 := by
                      unfold rz_or
                      first
                      | (rw [if_pos (by omega)]; exact Nat.or_zero set)
                      | rw [if_neg (by omega)]
                    rw [hor]
                    have hmn : many < len + 2 ∧ many ≤ Z.1 := by
                      first
                      | omega
                      | (have := pz_K_lt (b := b) (len := len) (i := Z.1) (by omega); have := hinv.elim (fun q => absurd q c8) id; omega)
                    rw [show len + 2 - many = (len + 2 - (many + 1)) + 1 by omega, rz_ul_s c8 (by first | exact Or.inl c12 | exact Or.inr c20)] at hres
                    refine ih (many + 1) _ _ ν14 _ (by omega) (by omega) ?_ hres ag14 h14 (rz_or_lt hset hfa)
                    rcases Nat.decEq (rz_fa (pz_K b len) (pz_V b len) (pz_S b len) (rz_u1 (pz_K b len) (pz_V b len) (pz_S b len) many set Z)).2.2.1 1 with q | q
                    · refine Or.inr ?_
                      have h9 : (rz_fa (pz_K b len) (pz_V b len) (pz_S b len) (rz_u1 (pz_K b len) (pz_V b len) (pz_S b len) many set Z)).2.1 = Z.1 + 1 := (rz_nu_j (lo := 0) (hi := 10) q).trans (by rw [rz_u1_1])
                      omega
                    · exact Or.inl q
                  · refine fg_iconst (fg_ft (pc := 91) tb_Mo_unlike 50 rfl) ic_0 ?_
                    refine fg_goto (tgt := 99) (fg_ft (pc := 92) tb_Mo_unlike 51 rfl) (by decide) ?_
                    refine fg_iorN (fg_ft (pc := 99) tb_Mo_unlike 55 rfl) ?_
                    refine fg_istoren (fg_ft (pc := 100) tb_Mo_unlike 56 rfl) (Nat.le_of_ble_eq_true rfl) ?_
                    refine fg_iincN (fg_ft (pc := 101) tb_Mo_unlike 57 rfl) rfl ic_1 rfl ?_
                    refine fg_goto (tgt := 4) (fg_ft (pc := 104) tb_Mo_unlike 58 rfl) (by decide) ?_
                    have hor : set ||| 0 = rz_or set (rz_fa (pz_K b len) (pz_V b len) (pz_S b len) (rz_u1 (pz_K b len) (pz_V b len) (pz_S b len) many set Z)).1 := by
                      unfold rz_or
                      first
                      | (rw [if_pos (by omega)]; exact Nat.or_zero set)
                      | rw [if_neg (by omega)]
                    rw [hor]
                    have hmn : many < len + 2 ∧ many ≤ Z.1 := by
                      first
                      | omega
                      | (have := pz_K_lt (b := b) (len := len) (i := Z.1) (by omega); have := hinv.elim (fun q => absurd q c8) id; omega)
                    rw [show len + 2 - many = (len + 2 - (many + 1)) + 1 by omega, rz_ul_s c8 (by first | exact Or.inl c12 | exact Or.inr c20)] at hres
                    refine ih (many + 1) _ _ ν14 _ (by omega) (by omega) ?_ hres ag14 h14 (rz_or_lt hset hfa)
                    rcases Nat.decEq (rz_fa (pz_K b len) (pz_V b len) (pz_S b len) (rz_u1 (pz_K b len) (pz_V b len) (pz_S b len) many set Z)).2.2.1 1 with q | q
                    · refine Or.inr ?_
                      have h9 : (rz_fa (pz_K b len) (pz_V b len) (pz_S b len) (rz_u1 (pz_K b len) (pz_V b len) (pz_S b len) many set Z)).2.1 = Z.1 + 1 := (rz_nu_j (lo := 0) (hi := 10) q).trans (by rw [rz_u1_1])
                      omega
                    · exact Or.inl q
                · refine fg_aloadn (fg_ft (pc := 70) tb_Mo_unlike 39 rfl) rfl ?_
                  refine fg_iconst (fg_ft (pc := 71) tb_Mo_unlike 40 rfl) ic_2 ?_
                  refine fg_aloadn (fg_ft (pc := 72) tb_Mo_unlike 41 rfl) rfl ?_
                  refine fg_getV (v := (nI (pz_S b len Z.1))) (fg_ft (pc := 73) tb_Mo_unlike 42 rfl) ff_Mo_81 ly_287 rfl (fg_lt ly_287 (by decide)) h.2.1.2.1 ?_
                  refine fg_callV (fg_ft (pc := 76) tb_Mo_unlike 43 rfl) cf_Mo_114 (fg_isOf ly_287 rfl (fg_lt ly_287 (by decide))) (as := [.int (nI 2), .int (nI (pz_S b len Z.1))]) (st := []) rfl rfl (Nat.le_of_ble_eq_true rfl) (Nat.le_refl _) (Nat.le_refl _) (ev_Mo_also (kd := 2) (at9 := (pz_S b len Z.1)) hle hb256 h (by decide) (by decide) (by decide) (rz_S_le hle) ?_)
                  intro ν15 hg15 h15
                  have ag15 := rz_ag_tr hag hg15
                  show fg_wp _ _ _ _ _ _ _ _ _ (ν15, fg_rho R, 304)
                  have hu : rz_RZ ν15 b len (rz_u1 (pz_K b len) (pz_V b len) (pz_S b len) many set Z) := by
                    have e9 : rz_u1 (pz_K b len) (pz_V b len) (pz_S b len) many set Z = (rz_al 2 (pz_S b len Z.1) Z) := by
                      unfold rz_u1
                      rw [if_pos ⟨c42, by have := c55.2; omega, c67⟩]
                      exact congrArg (rz_al 2 (pz_S b len Z.1)) (if_neg (by omega))
                    rw [e9]; exact h15
                  refine fg_aloadn (fg_ft (pc := 79) tb_Mo_unlike 44 rfl) rfl ?_
                  refine fg_callV (fg_ft (pc := 80) tb_Mo_unlike 45 rfl) cf_Mo_128 (fg_isOf ly_287 rfl (fg_lt ly_287 (by decide))) (as := []) (st := []) rfl rfl (Nat.le_of_ble_eq_true rfl) (Nat.le_refl _) (Nat.le_refl _) (ev_Mo_factOf hle hb256 hu ?_)
                  intro ν16 hg16 h16
                  have ag16 := rz_ag_tr ag15 hg16
                  show fg_wp _ _ _ _ _ _ _ _ _ (ν16, fg_rho R, 304)
                  refine fg_istore (fg_ft (pc := 83) tb_Mo_unlike 46 rfl) (Nat.le_of_ble_eq_true rfl) ?_
                  have hfa := rz_fa_hi (K := pz_K b len) (V := pz_V b len) (S := pz_S b len) (Z := rz_u1 (pz_K b len) (pz_V b len) (pz_S b len) many set Z)
                  refine fg_iloadn (fg_ft (pc := 85) tb_Mo_unlike 47 rfl) rfl ?_
                  refine fg_iload (fg_ft (pc := 86) tb_Mo_unlike 48 rfl) rfl ?_
                  refine fg_if_geW (tgt := 95) (fg_ft (pc := 88) tb_Mo_unlike 49 rfl) (by decide) (by have := hfa; omega) (fun c88 => ?_) (fun c88 => ?_)
                  · refine fg_iconst (fg_ft (pc := 95) tb_Mo_unlike 52 rfl) ic_1 ?_
                    refine fg_iload (fg_ft (pc := 96) tb_Mo_unlike 53 rfl) rfl ?_
                    refine fg_ishl1 (fg_ft (pc := 98) tb_Mo_unlike 54 rfl) (by omega) ?_
                    refine fg_iorN (fg_ft (pc := 99) tb_Mo_unlike 55 rfl) ?_
                    refine fg_istoren (fg_ft (pc := 100) tb_Mo_unlike 56 rfl) (Nat.le_of_ble_eq_true rfl) ?_
                    refine fg_iincN (fg_ft (pc := 101) tb_Mo_unlike 57 rfl) rfl ic_1 rfl ?_
                    refine fg_goto (tgt := 4) (fg_ft (pc := 104) tb_Mo_unlike 58 rfl) (by decide) ?_
                    have hor : set ||| (2 ^ ((rz_fa (pz_K b len) (pz_V b len) (pz_S b len) (rz_u1 (pz_K b len) (pz_V b len) (pz_S b len) many set Z)).1)) = rz_or set (rz_fa (pz_K b len) (pz_V b len) (pz_S b len) (rz_u1 (pz_K b len) (pz_V b len) (pz_S b len) many set Z)).1 := by
                      unfold rz_or
                      first
                      | (rw [if_pos (by omega)]; exact Nat.or_zero set)
                      | rw [if_neg (by omega)]
                    rw [hor]
                    have hmn : many < len + 2 ∧ many ≤ Z.1 := by
                      first
                      | omega
                      | (have := pz_K_lt (b := b) (len := len) (i := Z.1) (by omega); have := hinv.elim (fun q => absurd q c8) id; omega)
                    rw [show len + 2 - many = (len + 2 - (many + 1)) + 1 by omega, rz_ul_s c8 (by first | exact Or.inl c12 | exact Or.inr c20)] at hres
                    refine ih (many + 1) _ _ ν16 _ (by omega) (by omega) ?_ hres ag16 h16 (rz_or_lt hset hfa)
                    rcases Nat.decEq (rz_fa (pz_K b len) (pz_V b len) (pz_S b len) (rz_u1 (pz_K b len) (pz_V b len) (pz_S b len) many set Z)).2.2.1 1 with q | q
                    · refine Or.inr ?_
                      have h9 : (rz_fa (pz_K b len) (pz_V b len) (pz_S b len) (rz_u1 (pz_K b len) (pz_V b len) (pz_S b len) many set Z)).2.1 = Z.1 + 1 := (rz_nu_j (lo := 0) (hi := 10) q).trans (by rw [rz_u1_1])
                      omega
                    · exact Or.inl q
                  · refine fg_iconst (fg_ft (pc := 91) tb_Mo_unlike 50 rfl) ic_0 ?_
                    refine fg_goto (tgt := 99) (fg_ft (pc := 92) tb_Mo_unlike 51 rfl) (by decide) ?_
                    refine fg_iorN (fg_ft (pc := 99) tb_Mo_unlike 55 rfl) ?_
                    refine fg_istoren (fg_ft (pc := 100) tb_Mo_unlike 56 rfl) (Nat.le_of_ble_eq_true rfl) ?_
                    refine fg_iincN (fg_ft (pc := 101) tb_Mo_unlike 57 rfl) rfl ic_1 rfl ?_
                    refine fg_goto (tgt := 4) (fg_ft (pc := 104) tb_Mo_unlike 58 rfl) (by decide) ?_
                    have hor : set ||| 0 = rz_or set (rz_fa (pz_K b len) (pz_V b len) (pz_S b len) (rz_u1 (pz_K b len) (pz_V b len) (pz_S b len) many set Z)).1 := by
                      unfold rz_or
                      first
                      | (rw [if_pos (by omega)]; exact Nat.or_zero set)
                      | rw [if_neg (by omega)]
                    rw [hor]
                    have hmn : many < len + 2 ∧ many ≤ Z.1 := by
                      first
                      | omega
                      | (have := pz_K_lt (b := b) (len := len) (i := Z.1) (by omega); have := hinv.elim (fun q => absurd q c8) id; omega)
                    rw [show len + 2 - many = (len + 2 - (many + 1)) + 1 by omega, rz_ul_s c8 (by first | exact Or.inl c12 | exact Or.inr c20)] at hres
                    refine ih (many + 1) _ _ ν16 _ (by omega) (by omega) ?_ hres ag16 h16 (rz_or_lt hset hfa)
                    rcases Nat.decEq (rz_fa (pz_K b len) (pz_V b len) (pz_S b len) (rz_u1 (pz_K b len) (pz_V b len) (pz_S b len) many set Z)).2.2.1 1 with q | q
                    · refine Or.inr ?_
                      have h9 : (rz_fa (pz_K b len) (pz_V b len) (pz_S b len) (rz_u1 (pz_K b len) (pz_V b len) (pz_S b len) many set Z)).2.1 = Z.1 + 1 := (rz_nu_j (lo := 0) (hi := 10) q).trans (by rw [rz_u1_1])
                      omega
                    · exact Or.inl q
          · refine fg_aloadn (fg_ft (pc := 28) tb_Mo_unlike 16 rfl) rfl ?_
            refine fg_iconst (fg_ft (pc := 29) tb_Mo_unlike 17 rfl) ic_3 ?_
            refine fg_aloadn (fg_ft (pc := 30) tb_Mo_unlike 18 rfl) rfl ?_
            refine fg_getV (v := (nI (pz_S b len Z.1))) (fg_ft (pc := 31) tb_Mo_unlike 19 rfl) ff_Mo_81 ly_287 rfl (fg_lt ly_287 (by decide)) h.2.1.2.1 ?_
            refine fg_callV (fg_ft (pc := 34) tb_Mo_unlike 20 rfl) cf_Mo_114 (fg_isOf ly_287 rfl (fg_lt ly_287 (by decide))) (as := [.int (nI 3), .int (nI (pz_S b len Z.1))]) (st := []) rfl rfl (Nat.le_of_ble_eq_true rfl) (Nat.le_refl _) (Nat.le_refl _) (ev_Mo_also (kd := 3) (at9 := (pz_S b len Z.1)) hle hb256 h (by decide) (by decide) (by decide) (rz_S_le hle) ?_)
            intro ν17 hg17 h17
            have ag17 := rz_ag_tr hag hg17
            show fg_wp _ _ _ _ _ _ _ _ _ (ν17, fg_rho R, 304)
            refine fg_aloadn (fg_ft (pc := 37) tb_Mo_unlike 21 rfl) rfl ?_
            refine fg_getV (v := (nI (pz_K b len Z.1))) (fg_ft (pc := 38) tb_Mo_unlike 22 rfl) ff_Mo_84 ly_287 rfl (fg_lt ly_287 (by decide)) h17.2.1.2.2.1 ?_
            refine fg_iconst (fg_ft (pc := 41) tb_Mo_unlike 23 rfl) ic_1 ?_
            refine fg_icmp_neN (tgt := 79) (fg_ft (pc := 42) tb_Mo_unlike 24 rfl) (by decide) (by have := (pz_sp_i b len Z.1).2.2.2.1; omega) (by decide) (fun c42 => ?_) (fun c42 => ?_)
            · have hu : rz_RZ ν17 b len (rz_u1 (pz_K b len) (pz_V b len) (pz_S b len) many set Z) := by
                have e9 : rz_u1 (pz_K b len) (pz_V b len) (pz_S b len) many set Z = (rz_al 3 (pz_S b len Z.1) Z) := by
                  unfold rz_u1
                  rw [if_neg (fun q => by first | exact c42 q.1 | exact c55 ⟨Nat.zero_le _, by have := q.2.1; omega⟩ | exact absurd (c67.symm.trans q.2.2) (by decide))]
                  exact if_pos (by omega)
                rw [e9]; exact h17
              refine fg_aloadn (fg_ft (pc := 79) tb_Mo_unlike 44 rfl) rfl ?_
              refine fg_callV (fg_ft (pc := 80) tb_Mo_unlike 45 rfl) cf_Mo_128 (fg_isOf ly_287 rfl (fg_lt ly_287 (by decide))) (as := []) (st := []) rfl rfl (Nat.le_of_ble_eq_true rfl) (Nat.le_refl _) (Nat.le_refl _) (ev_Mo_factOf hle hb256 hu ?_)
              intro ν18 hg18 h18
              have ag18 := rz_ag_tr ag17 hg18
              show fg_wp _ _ _ _ _ _ _ _ _ (ν18, fg_rho R, 304)
              refine fg_istore (fg_ft (pc := 83) tb_Mo_unlike 46 rfl) (Nat.le_of_ble_eq_true rfl) ?_
              have hfa := rz_fa_hi (K := pz_K b len) (V := pz_V b len) (S := pz_S b len) (Z := rz_u1 (pz_K b len) (pz_V b len) (pz_S b len) many set Z)
              refine fg_iloadn (fg_ft (pc := 85) tb_Mo_unlike 47 rfl) rfl ?_
              refine fg_iload (fg_ft (pc := 86) tb_Mo_unlike 48 rfl) rfl ?_
              refine fg_if_geW (tgt := 95) (fg_ft (pc := 88) tb_Mo_unlike 49 rfl) (by decide) (by have := hfa; omega) (fun c88 => ?_) (fun c88 => ?_)
              · refine fg_iconst (fg_ft (pc := 95) tb_Mo_unlike 52 rfl) ic_1 ?_
                refine fg_iload (fg_ft (pc := 96) tb_Mo_unlike 53 rfl) rfl ?_
                refine fg_ishl1 (fg_ft (pc := 98) tb_Mo_unlike 54 rfl) (by omega) ?_
                refine fg_iorN (fg_ft (pc := 99) tb_Mo_unlike 55 rfl) ?_
                refine fg_istoren (fg_ft (pc := 100) tb_Mo_unlike 56 rfl) (Nat.le_of_ble_eq_true rfl) ?_
                refine fg_iincN (fg_ft (pc := 101) tb_Mo_unlike 57 rfl) rfl ic_1 rfl ?_
                refine fg_goto (tgt := 4) (fg_ft (pc := 104) tb_Mo_unlike 58 rfl) (by decide) ?_
                have hor : set ||| (2 ^ ((rz_fa (pz_K b len) (pz_V b len) (pz_S b len) (rz_u1 (pz_K b len) (pz_V b len) (pz_S b len) many set Z)).1)) = rz_or set (rz_fa (pz_K b len) (pz_V b len) (pz_S b len) (rz_u1 (pz_K b len) (pz_V b len) (pz_S b len) many set Z)).1 := by
                  unfold rz_or
                  first
                  | (rw [if_pos (by omega)]; exact Nat.or_zero set)
                  | rw [if_neg (by omega)]
                rw [hor]
                have hmn : many < len + 2 ∧ many ≤ Z.1 := by
                  first
                  | omega
                  | (have := pz_K_lt (b := b) (len := len) (i := Z.1) (by omega); have := hinv.elim (fun q => absurd q c8) id; omega)
                rw [show len + 2 - many = (len + 2 - (many + 1)) + 1 by omega, rz_ul_s c8 (by first | exact Or.inl c12 | exact Or.inr c20)] at hres
                refine ih (many + 1) _ _ ν18 _ (by omega) (by omega) ?_ hres ag18 h18 (rz_or_lt hset hfa)
                rcases Nat.decEq (rz_fa (pz_K b len) (pz_V b len) (pz_S b len) (rz_u1 (pz_K b len) (pz_V b len) (pz_S b len) many set Z)).2.2.1 1 with q | q
                · refine Or.inr ?_
                  have h9 : (rz_fa (pz_K b len) (pz_V b len) (pz_S b len) (rz_u1 (pz_K b len) (pz_V b len) (pz_S b len) many set Z)).2.1 = Z.1 + 1 := (rz_nu_j (lo := 0) (hi := 10) q).trans (by rw [rz_u1_1])
                  omega
                · exact Or.inl q
              · refine fg_iconst (fg_ft (pc := 91) tb_Mo_unlike 50 rfl) ic_0 ?_
                refine fg_goto (tgt := 99) (fg_ft (pc := 92) tb_Mo_unlike 51 rfl) (by decide) ?_
                refine fg_iorN (fg_ft (pc := 99) tb_Mo_unlike 55 rfl) ?_
                refine fg_istoren (fg_ft (pc := 100) tb_Mo_unlike 56 rfl) (Nat.le_of_ble_eq_true rfl) ?_
                refine fg_iincN (fg_ft (pc := 101) tb_Mo_unlike 57 rfl) rfl ic_1 rfl ?_
                refine fg_goto (tgt := 4) (fg_ft (pc := 104) tb_Mo_unlike 58 rfl) (by decide) ?_
                have hor : set ||| 0 = rz_or set (rz_fa (pz_K b len) (pz_V b len) (pz_S b len) (rz_u1 (pz_K b len) (pz_V b len) (pz_S b len) many set Z)).1 := by
                  unfold rz_or
                  first
                  | (rw [if_pos (by omega)]; exact Nat.or_zero set)
                  | rw [if_neg (by omega)]
                rw [hor]
                have hmn : many < len + 2 ∧ many ≤ Z.1 := by
                  first
                  | omega
                  | (have := pz_K_lt (b := b) (len := len) (i := Z.1) (by omega); have := hinv.elim (fun q => absurd q c8) id; omega)
                rw [show len + 2 - many = (len + 2 - (many + 1)) + 1 by omega, rz_ul_s c8 (by first | exact Or.inl c12 | exact Or.inr c20)] at hres
                refine ih (many + 1) _ _ ν18 _ (by omega) (by omega) ?_ hres ag18 h18 (rz_or_lt hset hfa)
                rcases Nat.decEq (rz_fa (pz_K b len) (pz_V b len) (pz_S b len) (rz_u1 (pz_K b len) (pz_V b len) (pz_S b len) many set Z)).2.2.1 1 with q | q
                · refine Or.inr ?_
                  have h9 : (rz_fa (pz_K b len) (pz_V b len) (pz_S b len) (rz_u1 (pz_K b len) (pz_V b len) (pz_S b len) many set Z)).2.1 = Z.1 + 1 := (rz_nu_j (lo := 0) (hi := 10) q).trans (by rw [rz_u1_1])
                  omega
                · exact Or.inl q
            · have hK1 := c42
              refine fg_aloadn (fg_ft (pc := 45) tb_Mo_unlike 25 rfl) rfl ?_
              refine fg_getV (v := (nI (pz_V b len Z.1))) (fg_ft (pc := 46) tb_Mo_unlike 26 rfl) ff_Mo_100 ly_287 rfl (fg_lt ly_287 (by decide)) (h17.2.1.2.2.2.1 hK1) ?_
              refine fg_iconst (fg_ft (pc := 49) tb_Mo_unlike 27 rfl) ic_0 ?_
              refine fg_bipush (fg_ft (pc := 50) tb_Mo_unlike 28 rfl) ib_9 ?_
              refine fg_callS (fg_ft (pc := 52) tb_Mo_unlike 29 rfl) cf_Mo_110 (as := [.int (nI (pz_V b len Z.1)), .int (nI 0), .int (nI 9)]) (st := []) rfl rfl (Nat.le_of_ble_eq_true rfl) (Nat.le_refl _) (Nat.le_refl _) (ev_Mo_isInC (k := pz_V b len Z.1) (a := 0) (b := 9) (by have := (pz_sp_i b len Z.1).2.2.2.2.2.2.1; omega) (by decide) (by decide) ?_)
              refine fg_ifB_eq (tgt := 79) (fg_ft (pc := 55) tb_Mo_unlike 30 rfl) (by decide) (fun c55 => ?_) (fun c55 => ?_)
              · have hu : rz_RZ ν17 b len (rz_u1 (pz_K b len) (pz_V b len) (pz_S b len) many set Z) := by
                  have e9 : rz_u1 (pz_K b len) (pz_V b len) (pz_S b len) many set Z = (rz_al 3 (pz_S b len Z.1) Z) := by
                    unfold rz_u1
                    rw [if_neg (fun q => by first | exact c42 q.1 | exact c55 ⟨Nat.zero_le _, by have := q.2.1; omega⟩ | exact absurd (c67.symm.trans q.2.2) (by decide))]
                    exact if_pos (by omega)
                  rw [e9]; exact h17
                refine fg_aloadn (fg_ft (pc := 79) tb_Mo_unlike 44 rfl) rfl ?_
                refine fg_callV (fg_ft (pc := 80) tb_Mo_unlike 45 rfl) cf_Mo_128 (fg_isOf ly_287 rfl (fg_lt ly_287 (by decide))) (as := []) (st := []) rfl rfl (Nat.le_of_ble_eq_true rfl) (Nat.le_refl _) (Nat.le_refl _) (ev_Mo_factOf hle hb256 hu ?_)
                intro ν19 hg19 h19
                have ag19 := rz_ag_tr ag17 hg19
                show fg_wp _ _ _ _ _ _ _ _ _ (ν19, fg_rho R, 304)
                refine fg_istore (fg_ft (pc := 83) tb_Mo_unlike 46 rfl) (Nat.le_of_ble_eq_true rfl) ?_
                have hfa := rz_fa_hi (K := pz_K b len) (V := pz_V b len) (S := pz_S b len) (Z := rz_u1 (pz_K b len) (pz_V b len) (pz_S b len) many set Z)
                refine fg_iloadn (fg_ft (pc := 85) tb_Mo_unlike 47 rfl) rfl ?_
                refine fg_iload (fg_ft (pc := 86) tb_Mo_unlike 48 rfl) rfl ?_
                refine fg_if_geW (tgt := 95) (fg_ft (pc := 88) tb_Mo_unlike 49 rfl) (by decide) (by have := hfa; omega) (fun c88 => ?_) (fun c88 => ?_)
                · refine fg_iconst (fg_ft (pc := 95) tb_Mo_unlike 52 rfl) ic_1 ?_
                  refine fg_iload (fg_ft (pc := 96) tb_Mo_unlike 53 rfl) rfl ?_
                  refine fg_ishl1 (fg_ft (pc := 98) tb_Mo_unlike 54 rfl) (by omega) ?_
                  refine fg_iorN (fg_ft (pc := 99) tb_Mo_unlike 55 rfl) ?_
                  refine fg_istoren (fg_ft (pc := 100) tb_Mo_unlike 56 rfl) (Nat.le_of_ble_eq_true rfl) ?_
                  refine fg_iincN (fg_ft (pc := 101) tb_Mo_unlike 57 rfl) rfl ic_1 rfl ?_
                  refine fg_goto (tgt := 4) (fg_ft (pc := 104) tb_Mo_unlike 58 rfl) (by decide) ?_
                  have hor : set ||| (2 ^ ((rz_fa (pz_K b len) (pz_V b len) (pz_S b len) (rz_u1 (pz_K b len) (pz_V b len) (pz_S b len) many set Z)).1)) = rz_or set (rz_fa (pz_K b len) (pz_V b len) (pz_S b len) (rz_u1 (pz_K b len) (pz_V b len) (pz_S b len) many set Z)).1 := by
                    unfold rz_or
                    first
                    | (rw [if_pos (by omega)]; exact Nat.or_zero set)
                    | rw [if_neg (by omega)]
                  rw [hor]
                  have hmn : many < len + 2 ∧ many ≤ Z.1 := by
                    first
                    | omega
                    | (have := pz_K_lt (b := b) (len := len) (i := Z.1) (by omega); have := hinv.elim (fun q => absurd q c8) id; omega)
                  rw [show len + 2 - many = (len + 2 - (many + 1)) + 1 by omega, rz_ul_s c8 (by first | exact Or.inl c12 | exact Or.inr c20)] at hres
                  refine ih (many + 1) _ _ ν19 _ (by omega) (by omega) ?_ hres ag19 h19 (rz_or_lt hset hfa)
                  rcases Nat.decEq (rz_fa (pz_K b len) (pz_V b len) (pz_S b len) (rz_u1 (pz_K b len) (pz_V b len) (pz_S b len) many set Z)).2.2.1 1 with q | q
                  · refine Or.inr ?_
                    have h9 : (rz_fa (pz_K b len) (pz_V b len) (pz_S b len) (rz_u1 (pz_K b len) (pz_V b len) (pz_S b len) many set Z)).2.1 = Z.1 + 1 := (rz_nu_j (lo := 0) (hi := 10) q).trans (by rw [rz_u1_1])
                    omega
                  · exact Or.inl q
                · refine fg_iconst (fg_ft (pc := 91) tb_Mo_unlike 50 rfl) ic_0 ?_
                  refine fg_goto (tgt := 99) (fg_ft (pc := 92) tb_Mo_unlike 51 rfl) (by decide) ?_
                  refine fg_iorN (fg_ft (pc := 99) tb_Mo_unlike 55 rfl) ?_
                  refine fg_istoren (fg_ft (pc := 100) tb_Mo_unlike 56 rfl) (Nat.le_of_ble_eq_true rfl) ?_
                  refine fg_iincN (fg_ft (pc := 101) tb_Mo_unlike 57 rfl) rfl ic_1 rfl ?_
                  refine fg_goto (tgt := 4) (fg_ft (pc := 104) tb_Mo_unlike 58 rfl) (by decide) ?_
                  have hor : set ||| 0 = rz_or set (rz_fa (pz_K b len) (pz_V b len) (pz_S b len) (rz_u1 (pz_K b len) (pz_V b len) (pz_S b len) many set Z)).1 := by
                    unfold rz_or
                    first
                    | (rw [if_pos (by omega)]; exact Nat.or_zero set)
                    | rw [if_neg (by omega)]
                  rw [hor]
                  have hmn : many < len + 2 ∧ many ≤ Z.1 := by
                    first
                    | omega
                    | (have := pz_K_lt (b := b) (len := len) (i := Z.1) (by omega); have := hinv.elim (fun q => absurd q c8) id; omega)
                  rw [show len + 2 - many = (len + 2 - (many + 1)) + 1 by omega, rz_ul_s c8 (by first | exact Or.inl c12 | exact Or.inr c20)] at hres
                  refine ih (many + 1) _ _ ν19 _ (by omega) (by omega) ?_ hres ag19 h19 (rz_or_lt hset hfa)
                  rcases Nat.decEq (rz_fa (pz_K b len) (pz_V b len) (pz_S b len) (rz_u1 (pz_K b len) (pz_V b len) (pz_S b len) many set Z)).2.2.1 1 with q | q
                  · refine Or.inr ?_
                    have h9 : (rz_fa (pz_K b len) (pz_V b len) (pz_S b len) (rz_u1 (pz_K b len) (pz_V b len) (pz_S b len) many set Z)).2.1 = Z.1 + 1 := (rz_nu_j (lo := 0) (hi := 10) q).trans (by rw [rz_u1_1])
                    omega
                  · exact Or.inl q
              · refine fg_iloadn (fg_ft (pc := 58) tb_Mo_unlike 31 rfl) rfl ?_
                refine fg_aloadn (fg_ft (pc := 59) tb_Mo_unlike 32 rfl) rfl ?_
                refine fg_getV (v := (nI (pz_V b len Z.1))) (fg_ft (pc := 60) tb_Mo_unlike 33 rfl) ff_Mo_100 ly_287 rfl (fg_lt ly_287 (by decide)) (h17.2.1.2.2.2.1 hK1) ?_
                refine fg_ishrN (fg_ft (pc := 63) tb_Mo_unlike 34 rfl) (by omega) (by omega) ?_
                refine fg_iconst (fg_ft (pc := 64) tb_Mo_unlike 35 rfl) ic_1 ?_
                refine fg_iandN (fg_ft (pc := 65) tb_Mo_unlike 36 rfl) ?_
                refine fg_iconst (fg_ft (pc := 66) tb_Mo_unlike 37 rfl) ic_1 ?_
                refine fg_icmpbit_ne (tgt := 79) (fg_ft (pc := 67) tb_Mo_unlike 38 rfl) (by decide) (fun c67 => ?_) (fun c67 => ?_)
                · have hu : rz_RZ ν17 b len (rz_u1 (pz_K b len) (pz_V b len) (pz_S b len) many set Z) := by
                    have e9 : rz_u1 (pz_K b len) (pz_V b len) (pz_S b len) many set Z = (rz_al 3 (pz_S b len Z.1) Z) := by
                      unfold rz_u1
                      rw [if_neg (fun q => by first | exact c42 q.1 | exact c55 ⟨Nat.zero_le _, by have := q.2.1; omega⟩ | exact absurd (c67.symm.trans q.2.2) (by decide))]
                      exact if_pos (by omega)
                    rw [e9]; exact h17
                  refine fg_aloadn (fg_ft (pc := 79) tb_Mo_unlike 44 rfl) rfl ?_
                  refine fg_callV (fg_ft (pc := 80) tb_Mo_unlike 45 rfl) cf_Mo_128 (fg_isOf ly_287 rfl (fg_lt ly_287 (by decide))) (as := []) (st := []) rfl rfl (Nat.le_of_ble_eq_true rfl) (Nat.le_refl _) (Nat.le_refl _) (ev_Mo_factOf hle hb256 hu ?_)
                  intro ν20 hg20 h20
                  have ag20 := rz_ag_tr ag17 hg20
                  show fg_wp _ _ _ _ _ _ _ _ _ (ν20, fg_rho R, 304)
                  refine fg_istore (fg_ft (pc := 83) tb_Mo_unlike 46 rfl) (Nat.le_of_ble_eq_true rfl) ?_
                  have hfa := rz_fa_hi (K := pz_K b len) (V := pz_V b len) (S := pz_S b len) (Z := rz_u1 (pz_K b len) (pz_V b len) (pz_S b len) many set Z)
                  refine fg_iloadn (fg_ft (pc := 85) tb_Mo_unlike 47 rfl) rfl ?_
                  refine fg_iload (fg_ft (pc := 86) tb_Mo_unlike 48 rfl) rfl ?_
                  refine fg_if_geW (tgt := 95) (fg_ft (pc := 88) tb_Mo_unlike 49 rfl) (by decide) (by have := hfa; omega) (fun c88 => ?_) (fun c88 => ?_)
                  · refine fg_iconst (fg_ft (pc := 95) tb_Mo_unlike 52 rfl) ic_1 ?_
                    refine fg_iload (fg_ft (pc := 96) tb_Mo_unlike 53 rfl) rfl ?_
                    refine fg_ishl1 (fg_ft (pc := 98) tb_Mo_unlike 54 rfl) (by omega) ?_
                    refine fg_iorN (fg_ft (pc := 99) tb_Mo_unlike 55 rfl) ?_
                    refine fg_istoren (fg_ft (pc := 100) tb_Mo_unlike 56 rfl) (Nat.le_of_ble_eq_true rfl) ?_
                    refine fg_iincN (fg_ft (pc := 101) tb_Mo_unlike 57 rfl) rfl ic_1 rfl ?_
                    refine fg_goto (tgt := 4) (fg_ft (pc := 104) tb_Mo_unlike 58 rfl) (by decide) ?_
                    have hor : set ||| (2 ^ ((rz_fa (pz_K b len) (pz_V b len) (pz_S b len) (rz_u1 (pz_K b len) (pz_V b len) (pz_S b len) many set Z)).1)) = rz_or set (rz_fa (pz_K b len) (pz_V b len) (pz_S b len) (rz_u1 (pz_K b len) (pz_V b len) (pz_S b len) many set Z)).1 := by
                      unfold rz_or
                      first
                      | (rw [if_pos (by omega)]; exact Nat.or_zero set)
                      | rw [if_neg (by omega)]
                    rw [hor]
                    have hmn : many < len + 2 ∧ many ≤ Z.1 := by
                      first
                      | omega
                      | (have := pz_K_lt (b := b) (len := len) (i := Z.1) (by omega); have := hinv.elim (fun q => absurd q c8) id; omega)
                    rw [show len + 2 - many = (len + 2 - (many + 1)) + 1 by omega, rz_ul_s c8 (by first | exact Or.inl c12 | exact Or.inr c20)] at hres
                    refine ih (many + 1) _ _ ν20 _ (by omega) (by omega) ?_ hres ag20 h20 (rz_or_lt hset hfa)
                    rcases Nat.decEq (rz_fa (pz_K b len) (pz_V b len) (pz_S b len) (rz_u1 (pz_K b len) (pz_V b len) (pz_S b len) many set Z)).2.2.1 1 with q | q
                    · refine Or.inr ?_
                      have h9 : (rz_fa (pz_K b len) (pz_V b len) (pz_S b len) (rz_u1 (pz_K b len) (pz_V b len) (pz_S b len) many set Z)).2.1 = Z.1 + 1 := (rz_nu_j (lo := 0) (hi := 10) q).trans (by rw [rz_u1_1])
                      omega
                    · exact Or.inl q
                  · refine fg_iconst (fg_ft (pc := 91) tb_Mo_unlike 50 rfl) ic_0 ?_
                    refine fg_goto (tgt := 99) (fg_ft (pc := 92) tb_Mo_unlike 51 rfl) (by decide) ?_
                    refine fg_iorN (fg_ft (pc := 99) tb_Mo_unlike 55 rfl) ?_
                    refine fg_istoren (fg_ft (pc := 100) tb_Mo_unlike 56 rfl) (Nat.le_of_ble_eq_true rfl) ?_
                    refine fg_iincN (fg_ft (pc := 101) tb_Mo_unlike 57 rfl) rfl ic_1 rfl ?_
                    refine fg_goto (tgt := 4) (fg_ft (pc := 104) tb_Mo_unlike 58 rfl) (by decide) ?_
                    have hor : set ||| 0 = rz_or set (rz_fa (pz_K b len) (pz_V b len) (pz_S b len) (rz_u1 (pz_K b len) (pz_V b len) (pz_S b len) many set Z)).1 := by
                      unfold rz_or
                      first
                      | (rw [if_pos (by omega)]; exact Nat.or_zero set)
                      | rw [if_neg (by omega)]
                    rw [hor]
                    have hmn : many < len + 2 ∧ many ≤ Z.1 := by
                      first
                      | omega
                      | (have := pz_K_lt (b := b) (len := len) (i := Z.1) (by omega); have := hinv.elim (fun q => absurd q c8) id; omega)
                    rw [show len + 2 - many = (len + 2 - (many + 1)) + 1 by omega, rz_ul_s c8 (by first | exact Or.inl c12 | exact Or.inr c20)] at hres
                    refine ih (many + 1) _ _ ν20 _ (by omega) (by omega) ?_ hres ag20 h20 (rz_or_lt hset hfa)
                    rcases Nat.decEq (rz_fa (pz_K b len) (pz_V b len) (pz_S b len) (rz_u1 (pz_K b len) (pz_V b len) (pz_S b len) many set Z)).2.2.1 1 with q | q
                    · refine Or.inr ?_
                      have h9 : (rz_fa (pz_K b len) (pz_V b len) (pz_S b len) (rz_u1 (pz_K b len) (pz_V b len) (pz_S b len) many set Z)).2.1 = Z.1 + 1 := (rz_nu_j (lo := 0) (hi := 10) q).trans (by rw [rz_u1_1])
                      omega
                    · exact Or.inl q
                · refine fg_aloadn (fg_ft (pc := 70) tb_Mo_unlike 39 rfl) rfl ?_
                  refine fg_iconst (fg_ft (pc := 71) tb_Mo_unlike 40 rfl) ic_2 ?_
                  refine fg_aloadn (fg_ft (pc := 72) tb_Mo_unlike 41 rfl) rfl ?_
                  refine fg_getV (v := (nI (pz_S b len Z.1))) (fg_ft (pc := 73) tb_Mo_unlike 42 rfl) ff_Mo_81 ly_287 rfl (fg_lt ly_287 (by decide)) h17.2.1.2.1 ?_
                  refine fg_callV (fg_ft (pc := 76) tb_Mo_unlike 43 rfl) cf_Mo_114 (fg_isOf ly_287 rfl (fg_lt ly_287 (by decide))) (as := [.int (nI 2), .int (nI (pz_S b len Z.1))]) (st := []) rfl rfl (Nat.le_of_ble_eq_true rfl) (Nat.le_refl _) (Nat.le_refl _) (ev_Mo_also (kd := 2) (at9 := (pz_S b len Z.1)) hle hb256 h17 (by decide) (by decide) (by decide) (rz_S_le hle) ?_)
                  intro ν21 hg21 h21
                  have ag21 := rz_ag_tr ag17 hg21
                  show fg_wp _ _ _ _ _ _ _ _ _ (ν21, fg_rho R, 304)
                  have hu : rz_RZ ν21 b len (rz_u1 (pz_K b len) (pz_V b len) (pz_S b len) many set Z) := by
                    have e9 : rz_u1 (pz_K b len) (pz_V b len) (pz_S b len) many set Z = (rz_al 2 (pz_S b len Z.1) (rz_al 3 (pz_S b len Z.1) Z)) := by
                      unfold rz_u1
                      rw [if_pos ⟨c42, by have := c55.2; omega, c67⟩]
                      exact congrArg (rz_al 2 (pz_S b len Z.1)) (if_pos (by omega))
                    rw [e9]; exact h21
                  refine fg_aloadn (fg_ft (pc := 79) tb_Mo_unlike 44 rfl) rfl ?_
                  refine fg_callV (fg_ft (pc := 80) tb_Mo_unlike 45 rfl) cf_Mo_128 (fg_isOf ly_287 rfl (fg_lt ly_287 (by decide))) (as := []) (st := []) rfl rfl (Nat.le_of_ble_eq_true rfl) (Nat.le_refl _) (Nat.le_refl _) (ev_Mo_factOf hle hb256 hu ?_)
                  intro ν22 hg22 h22
                  have ag22 := rz_ag_tr ag21 hg22
                  show fg_wp _ _ _ _ _ _ _ _ _ (ν22, fg_rho R, 304)
                  refine fg_istore (fg_ft (pc := 83) tb_Mo_unlike 46 rfl) (Nat.le_of_ble_eq_true rfl) ?_
                  have hfa := rz_fa_hi (K := pz_K b len) (V := pz_V b len) (S := pz_S b len) (Z := rz_u1 (pz_K b len) (pz_V b len) (pz_S b len) many set Z)
                  refine fg_iloadn (fg_ft (pc := 85) tb_Mo_unlike 47 rfl) rfl ?_
                  refine fg_iload (fg_ft (pc := 86) tb_Mo_unlike 48 rfl) rfl ?_
                  refine fg_if_geW (tgt := 95) (fg_ft (pc := 88) tb_Mo_unlike 49 rfl) (by decide) (by have := hfa; omega) (fun c88 => ?_) (fun c88 => ?_)
                  · refine fg_iconst (fg_ft (pc := 95) tb_Mo_unlike 52 rfl) ic_1 ?_
                    refine fg_iload (fg_ft (pc := 96) tb_Mo_unlike 53 rfl) rfl ?_
                    refine fg_ishl1 (fg_ft (pc := 98) tb_Mo_unlike 54 rfl) (by omega) ?_
                    refine fg_iorN (fg_ft (pc := 99) tb_Mo_unlike 55 rfl) ?_
                    refine fg_istoren (fg_ft (pc := 100) tb_Mo_unlike 56 rfl) (Nat.le_of_ble_eq_true rfl) ?_
                    refine fg_iincN (fg_ft (pc := 101) tb_Mo_unlike 57 rfl) rfl ic_1 rfl ?_
                    refine fg_goto (tgt := 4) (fg_ft (pc := 104) tb_Mo_unlike 58 rfl) (by decide) ?_
                    have hor : set ||| (2 ^ ((rz_fa (pz_K b len) (pz_V b len) (pz_S b len) (rz_u1 (pz_K b len) (pz_V b len) (pz_S b len) many set Z)).1)) = rz_or set (rz_fa (pz_K b len) (pz_V b len) (pz_S b len) (rz_u1 (pz_K b len) (pz_V b len) (pz_S b len) many set Z)).1 := by
                      unfold rz_or
                      first
                      | (rw [if_pos (by omega)]; exact Nat.or_zero set)
                      | rw [if_neg (by omega)]
                    rw [hor]
                    have hmn : many < len + 2 ∧ many ≤ Z.1 := by
                      first
                      | omega
                      | (have := pz_K_lt (b := b) (len := len) (i := Z.1) (by omega); have := hinv.elim (fun q => absurd q c8) id; omega)
                    rw [show len + 2 - many = (len + 2 - (many + 1)) + 1 by omega, rz_ul_s c8 (by first | exact Or.inl c12 | exact Or.inr c20)] at hres
                    refine ih (many + 1) _ _ ν22 _ (by omega) (by omega) ?_ hres ag22 h22 (rz_or_lt hset hfa)
                    rcases Nat.decEq (rz_fa (pz_K b len) (pz_V b len) (pz_S b len) (rz_u1 (pz_K b len) (pz_V b len) (pz_S b len) many set Z)).2.2.1 1 with q | q
                    · refine Or.inr ?_
                      have h9 : (rz_fa (pz_K b len) (pz_V b len) (pz_S b len) (rz_u1 (pz_K b len) (pz_V b len) (pz_S b len) many set Z)).2.1 = Z.1 + 1 := (rz_nu_j (lo := 0) (hi := 10) q).trans (by rw [rz_u1_1])
                      omega
                    · exact Or.inl q
                  · refine fg_iconst (fg_ft (pc := 91) tb_Mo_unlike 50 rfl) ic_0 ?_
                    refine fg_goto (tgt := 99) (fg_ft (pc := 92) tb_Mo_unlike 51 rfl) (by decide) ?_
                    refine fg_iorN (fg_ft (pc := 99) tb_Mo_unlike 55 rfl) ?_
                    refine fg_istoren (fg_ft (pc := 100) tb_Mo_unlike 56 rfl) (Nat.le_of_ble_eq_true rfl) ?_
                    refine fg_iincN (fg_ft (pc := 101) tb_Mo_unlike 57 rfl) rfl ic_1 rfl ?_
                    refine fg_goto (tgt := 4) (fg_ft (pc := 104) tb_Mo_unlike 58 rfl) (by decide) ?_
                    have hor : set ||| 0 = rz_or set (rz_fa (pz_K b len) (pz_V b len) (pz_S b len) (rz_u1 (pz_K b len) (pz_V b len) (pz_S b len) many set Z)).1 := by
                      unfold rz_or
                      first
                      | (rw [if_pos (by omega)]; exact Nat.or_zero set)
                      | rw [if_neg (by omega)]
                    rw [hor]
                    have hmn : many < len + 2 ∧ many ≤ Z.1 := by
                      first
                      | omega
                      | (have := pz_K_lt (b := b) (len := len) (i := Z.1) (by omega); have := hinv.elim (fun q => absurd q c8) id; omega)
                    rw [show len + 2 - many = (len + 2 - (many + 1)) + 1 by omega, rz_ul_s c8 (by first | exact Or.inl c12 | exact Or.inr c20)] at hres
                    refine ih (many + 1) _ _ ν22 _ (by omega) (by omega) ?_ hres ag22 h22 (rz_or_lt hset hfa)
                    rcases Nat.decEq (rz_fa (pz_K b len) (pz_V b len) (pz_S b len) (rz_u1 (pz_K b len) (pz_V b len) (pz_S b len) many set Z)).2.2.1 1 with q | q
                    · refine Or.inr ?_
                      have h9 : (rz_fa (pz_K b len) (pz_V b len) (pz_S b len) (rz_u1 (pz_K b len) (pz_V b len) (pz_S b len) many set Z)).2.1 = Z.1 + 1 := (rz_nu_j (lo := 0) (hi := 10) q).trans (by rw [rz_u1_1])
                      omega
                    · exact Or.inl q
theorem ev_Mo_unlike {E : fg_E} {d : Nat} {μ : Nat → Nat → Int32} {R : fg_T4} {Q : Option Value → fg_M → Prop} {b : Nat → Nat} {len : Nat} {Z : rz_Z} (hle : len ≤ 600) (hb256 : ∀ j, b j < 256) (h : rz_RZ μ b len Z) {ah : Nat} (hah : ah < 1024) (hQ : ∀ μ' : Nat → Nat → Int32, rz_ag μ μ' → rz_RZ μ' b len (rz_un (pz_K b len) (pz_V b len) (pz_S b len) len ah Z).2 → Q (some (.int (nI (rz_un (pz_K b len) (pz_V b len) (pz_S b len) len ah Z).1))) (μ', fg_rho R, 304)) : fg_Ev E yy_Mo_unlike (d + 7) [.ref 287, .int (nI ah)] (μ, fg_rho R, 304) 304 Q := by
  refine fg_intro (by decide +kernel) (Nat.le_of_ble_eq_true rfl) (fg_okAs rfl) (Nat.le_refl _) ?_
  refine fg_iloadn (fg_ft (pc := 0) tb_Mo_unlike 0 rfl) rfl ?_
  refine fg_istoren (fg_ft (pc := 1) tb_Mo_unlike 1 rfl) (Nat.le_of_ble_eq_true rfl) ?_
  refine fg_iconst (fg_ft (pc := 2) tb_Mo_unlike 2 rfl) ic_0 ?_
  refine fg_istoren (fg_ft (pc := 3) tb_Mo_unlike 3 rfl) (Nat.le_of_ble_eq_true rfl) ?_
  refine rz_un_loop hle hb256 hQ (len + 3) 0 ah Z μ _ (by omega) (by omega) (Or.inr (Nat.zero_le _)) rfl (rz_ag_rf μ) h hah
