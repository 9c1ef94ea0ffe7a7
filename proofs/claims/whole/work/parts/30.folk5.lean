theorem ev_Folk_learnsOne {E : fg_E} {d : Nat} {μ : Nat → Nat → Int32} {R : fg_T4} {Q : Option Value → fg_M → Prop} {t : Nat} {T : Nat → Nat} (ht : fg_isT t) (hT : fg_TW μ t T) (hok : fg_ok T) {f h : Nat} {Z : fg_Z} {hv lv : Nat → Nat} {o : Option Nat × Nat × Nat} (hf : fg_isF f) (hft : fg_rho R f 0 = some t) (hF : fg_FZ μ f T h Z hv lv o) (hz : fg_zok T h Z hv) {p k : Nat} (hpT : p < T 2) (hk31 : k < 2 ^ 31) (hQ0 : ¬ k < T 0 → Q (some (.int (nI 0))) (μ, fg_rho R, 304)) (hQ : k < T 0 → ∀ μ' : Nat → Nat → Int32, fg_agF f μ μ' → fg_FZ μ' f T h (fg_lz T h p (2 ^ k) Z) hv lv o → Q (some (.int (nI 1))) (μ', fg_rho R, 304)) : fg_Ev E yy_Folk_learnsOne (d + 4) [.ref f, .int (nI p), .int (nI k)] (μ, fg_rho R, 304) 304 Q := by
  have hb0 := hok.1
  have hb1 := hok.2.1
  have hp := hok.p
  have hq := Nat.two_pow_pos (T 0)
  have hfb := fF_b hf
  have hz9 := hz.1
  refine fg_intro (by decide +kernel) (Nat.le_of_ble_eq_true rfl) (fg_okAs rfl) (Nat.le_refl _) ?_
  refine fg_aloadn (fg_ft (pc := 0) tb_Folk_learnsOne 0 rfl) rfl ?_
  refine fg_getR (fg_ft (pc := 1) tb_Folk_learnsOne 1 rfl) ff_Folk_9 (fF_lay hf) rfl (fg_lt (fF_lay hf) (by decide)) hft ?_
  refine fg_ifnull_r (fg_ft (pc := 4) tb_Folk_learnsOne 2 rfl) ?_
  refine fg_aloadn (fg_ft (pc := 7) tb_Folk_learnsOne 3 rfl) rfl ?_
  refine fg_getR (fg_ft (pc := 8) tb_Folk_learnsOne 4 rfl) ff_Folk_9 (fF_lay hf) rfl (fg_lt (fF_lay hf) (by decide)) hft ?_
  refine fg_iloadn (fg_ft (pc := 11) tb_Folk_learnsOne 5 rfl) rfl ?_
  refine fg_callV (fg_ft (pc := 12) tb_Folk_learnsOne 6 rfl) cf_Folk_147 (fg_isOf (tT_lay ht) rfl (fg_lt (tT_lay ht) (by decide))) (as := [.int (nI k)]) (st := []) rfl rfl (Nat.le_of_ble_eq_true rfl) (Nat.le_refl _) (Nat.le_refl _) (ev_Town_hasFact ht hT hok (k := k) (by omega) ?_)
  refine fg_ifB_ne (tgt := 20) (fg_ft (pc := 15) tb_Folk_learnsOne 7 rfl) (by decide) (fun c15 => ?_) (fun c15 => ?_)
  · refine fg_aloadn (fg_ft (pc := 20) tb_Folk_learnsOne 10 rfl) rfl ?_
    refine fg_iloadn (fg_ft (pc := 21) tb_Folk_learnsOne 11 rfl) rfl ?_
    refine fg_iconst (fg_ft (pc := 22) tb_Folk_learnsOne 12 rfl) ic_1 ?_
    refine fg_iloadn (fg_ft (pc := 23) tb_Folk_learnsOne 13 rfl) rfl ?_
    refine fg_ishl1 (fg_ft (pc := 24) tb_Folk_learnsOne 14 rfl) (by omega) ?_
    refine fg_callV (fg_ft (pc := 25) tb_Folk_learnsOne 15 rfl) cf_Folk_150 (fg_isOf (fF_lay hf) rfl (fg_lt (fF_lay hf) (by decide))) (as := [.int (nI p), .int (nI (2 ^ k))]) (st := []) rfl rfl (Nat.le_of_ble_eq_true rfl) (Nat.le_refl _) (Nat.le_refl _) (ev_Folk_learn ht hT hok hf hft hF hz (p := p) (s := (2 ^ k)) (by omega) (Nat.pow_lt_pow_right (by decide) c15) ?_)
    intro μ' ho hN
    show fg_wp _ _ _ _ _ _ _ _ _ (μ', fg_rho R, 304)
    refine fg_iconst (fg_ft (pc := 28) tb_Folk_learnsOne 16 rfl) ic_1 ?_
    exact fg_zret (fg_ft (pc := 29) tb_Folk_learnsOne 17 rfl) rfl (by decide) rfl (hQ c15 μ' ho hN)
  · refine fg_iconst (fg_ft (pc := 18) tb_Folk_learnsOne 8 rfl) ic_0 ?_
    exact fg_zret (fg_ft (pc := 19) tb_Folk_learnsOne 9 rfl) rfl (by decide) rfl (hQ0 c15)
theorem fg_zok.eat {T : Nat → Nat} (hok : fg_ok T) {h p k kd : Nat} {Z : fg_Z} {hv : Nat → Nat} (H : fg_zok T h Z hv) : fg_zok T h (fg_up1 Z.1 p (fg_fgt T (Z.1 p) k kd), Z.2) hv := by
  refine ⟨H.1, fun q hq => ?_, H.2.2⟩
  show fg_up1 Z.1 p _ q < _ ∧ fg_clsd T (fg_up1 Z.1 p _ q)
  rcases Nat.decEq q p with e | e
  · rw [fg_up1_ne e]; exact H.2.1 q hq
  · subst e
    rw [fg_up1_eq]
    exact ⟨fg_fgt_lt hok (H.2.1 q hq).1, fg_fgt_clsd hok (H.2.1 q hq).1 (H.2.1 q hq).2⟩
theorem fg_zok.half {T : Nat → Nat} {h p m : Nat} {Z : fg_Z} {hv : Nat → Nat} (H : fg_zok T h Z hv) (hm : m < 2 ^ T 0) : fg_zok T h Z (fg_up1 hv p m) := by
  refine ⟨H.1, H.2.1, fun q hq => ?_⟩
  rcases Nat.decEq q p with e | e
  · rw [fg_up1_ne e]; exact H.2.2 q hq
  · rw [e, fg_up1_eq]; exact hm
theorem ev_Folk_eat {E : fg_E} {d : Nat} {μ : Nat → Nat → Int32} {R : fg_T4} {Q : Option Value → fg_M → Prop} {t : Nat} {T : Nat → Nat} (ht : fg_isT t) (hT : fg_TW μ t T) (hok : fg_ok T) {f h : Nat} {Z : fg_Z} {hv lv : Nat → Nat} {o : Option Nat × Nat × Nat} (hf : fg_isF f) (hft : fg_rho R f 0 = some t) (hF : fg_FZ μ f T h Z hv lv o) (hz : fg_zok T h Z hv) {p k kd : Nat} (hpT : p < T 2) (hk31 : k < 2 ^ 31) (hkd : kd < 2 ^ 31) (hQ : ∀ μ' : Nat → Nat → Int32, fg_agF f μ μ' → fg_FZ μ' f T h (fg_up1 Z.1 p (fg_fgt T (Z.1 p) k kd), Z.2) hv (fg_up1 lv p (lv p + 1)) o → Q (some (.int (nI (fg_df (Z.1 p) (fg_fgt T (Z.1 p) k kd))))) (μ', fg_rho R, 304)) : fg_Ev E yy_Folk_eat (d + 5) [.ref f, .int (nI p), .int (nI k), .int (nI kd)] (μ, fg_rho R, 304) 304 Q := by
  have hb0 := hok.1
  have hb1 := hok.2.1
  have hp := hok.p
  have hq := Nat.two_pow_pos (T 0)
  have hfb := fF_b hf
  have hz9 := hz.1
  refine fg_intro (by decide +kernel) (Nat.le_of_ble_eq_true rfl) (fg_okAs rfl) (Nat.le_refl _) ?_
  refine fg_aloadn (fg_ft (pc := 0) tb_Folk_eat 0 rfl) rfl ?_
  refine fg_iloadn (fg_ft (pc := 1) tb_Folk_eat 1 rfl) rfl ?_
  refine fg_callV (fg_ft (pc := 2) tb_Folk_eat 2 rfl) cf_Folk_80 (fg_isOf (fF_lay hf) rfl (fg_lt (fF_lay hf) (by decide))) (as := [.int (nI p)]) (st := []) rfl rfl (Nat.le_of_ble_eq_true rfl) (Nat.le_refl _) (Nat.le_refl _) (ev_Folk_isThere ht hT hok hf hft hF hz (p := p) (by omega) ?_)
  refine fg_ifB_ne (tgt := 10) (fg_ft (pc := 5) tb_Folk_eat 3 rfl) (by decide) (fun c5 => ?_) (fun c5 => (absurd hpT c5))
  refine fg_aloadn (fg_ft (pc := 10) tb_Folk_eat 6 rfl) rfl ?_
  refine fg_getR (fg_ft (pc := 11) tb_Folk_eat 7 rfl) ff_Folk_15 (fF_lay hf) rfl (fg_lt (fF_lay hf) (by decide)) (fF_r1 hf) ?_
  refine fg_iloadn (fg_ft (pc := 14) tb_Folk_eat 8 rfl) rfl ?_
  refine fg_ialdV (v := (nI (Z.1 p))) (fg_ft (pc := 15) tb_Folk_eat 9 rfl) (fF_l1 hf) (fg_lt (fF_l1 hf) (by decide)) (by omega) (hF.2.2.1 _ (by omega)) ?_
  refine fg_istore (fg_ft (pc := 16) tb_Folk_eat 10 rfl) (Nat.le_of_ble_eq_true rfl) ?_
  refine fg_aloadn (fg_ft (pc := 18) tb_Folk_eat 11 rfl) rfl ?_
  refine fg_getR (fg_ft (pc := 19) tb_Folk_eat 12 rfl) ff_Folk_15 (fF_lay hf) rfl (fg_lt (fF_lay hf) (by decide)) (fF_r1 hf) ?_
  refine fg_iloadn (fg_ft (pc := 22) tb_Folk_eat 13 rfl) rfl ?_
  refine fg_aloadn (fg_ft (pc := 23) tb_Folk_eat 14 rfl) rfl ?_
  refine fg_getR (fg_ft (pc := 24) tb_Folk_eat 15 rfl) ff_Folk_9 (fF_lay hf) rfl (fg_lt (fF_lay hf) (by decide)) hft ?_
  refine fg_iload (fg_ft (pc := 27) tb_Folk_eat 16 rfl) rfl ?_
  refine fg_iloadn (fg_ft (pc := 29) tb_Folk_eat 17 rfl) rfl ?_
  refine fg_iloadn (fg_ft (pc := 30) tb_Folk_eat 18 rfl) rfl ?_
  refine fg_callV (fg_ft (pc := 31) tb_Folk_eat 19 rfl) cf_Folk_116 (fg_isOf (tT_lay ht) rfl (fg_lt (tT_lay ht) (by decide))) (as := [.int (nI (Z.1 p)), .int (nI k), .int (nI kd)]) (st := [.int (nI p), .ref (f + 1)]) rfl rfl (Nat.le_of_ble_eq_true rfl) (Nat.le_refl _) (Nat.le_refl _) (ev_Town_forget ht hT hok (m := (Z.1 p)) (f := k) (kd := kd) ((hz.2.1 p hpT).1) (hk31) (hkd) ?_)
  refine fg_iastN (fg_ft (pc := 34) tb_Folk_eat 20 rfl) (fF_l1 hf) (fg_lt (fF_l1 hf) (by decide)) (by omega) ?_
  show fg_wp _ _ _ _ _ _ _ _ _ (fg_u2 μ (f + 1) p (nI (fg_fgt T (Z.1 p) k kd)), fg_rho R, 304)
  refine fg_aloadn (fg_ft (pc := 35) tb_Folk_eat 21 rfl) rfl ?_
  refine fg_getR (fg_ft (pc := 36) tb_Folk_eat 22 rfl) ff_Folk_22 (fF_lay hf) rfl (fg_lt (fF_lay hf) (by decide)) (fF_r3 hf) ?_
  refine fg_iloadn (fg_ft (pc := 39) tb_Folk_eat 23 rfl) rfl ?_
  refine fg_dup2 (fg_ft (pc := 40) tb_Folk_eat 24 rfl) rfl rfl ?_
  refine fg_ialdV (v := (nI (lv p))) (fg_ft (pc := 41) tb_Folk_eat 25 rfl) (fF_l3 hf) (fg_lt (fF_l3 hf) (by decide)) (by omega) ((fg_u2ne (by first | decide | omega)).trans (hF.2.2.2.2.1 _ (by omega))) ?_
  refine fg_iconst (fg_ft (pc := 42) tb_Folk_eat 26 rfl) ic_1 ?_
  refine fg_iaddN (fg_ft (pc := 43) tb_Folk_eat 27 rfl) ?_
  refine fg_iastN (fg_ft (pc := 44) tb_Folk_eat 28 rfl) (fF_l3 hf) (fg_lt (fF_l3 hf) (by decide)) (by omega) ?_
  show fg_wp _ _ _ _ _ _ _ _ _ (fg_u2 (fg_u2 μ (f + 1) p (nI (fg_fgt T (Z.1 p) k kd))) (f + 3) p (nI ((lv p) + 1)), fg_rho R, 304)
  refine fg_iload (fg_ft (pc := 45) tb_Folk_eat 29 rfl) rfl ?_
  refine fg_aloadn (fg_ft (pc := 47) tb_Folk_eat 30 rfl) rfl ?_
  refine fg_getR (fg_ft (pc := 48) tb_Folk_eat 31 rfl) ff_Folk_15 (fF_lay hf) rfl (fg_lt (fF_lay hf) (by decide)) (fF_r1 hf) ?_
  refine fg_iloadn (fg_ft (pc := 51) tb_Folk_eat 32 rfl) rfl ?_
  refine fg_ialdV (v := (nI (fg_fgt T (Z.1 p) k kd))) (fg_ft (pc := 52) tb_Folk_eat 33 rfl) (fF_l1 hf) (fg_lt (fF_l1 hf) (by decide)) (by omega) ((fg_u2ne (by omega)).trans fg_u2eq) ?_
  refine fg_iconst (fg_ft (pc := 53) tb_Folk_eat 34 rfl) ic_m1 ?_
  refine fg_ixor (fg_ft (pc := 54) tb_Folk_eat 35 rfl) ?_
  refine fg_iandD (fg_ft (pc := 55) tb_Folk_eat 36 rfl) ?_
  exact fg_iret (fg_ft (pc := 56) tb_Folk_eat 37 rfl) rfl rfl (hQ _ (fg_agF_tr (fg_agF_u (by omega) (by omega)) (fg_agF_u (by omega) (by omega))) (hF.setMind.setLoaf))
theorem ev_Folk_eatOut {E : fg_E} {d : Nat} {μ : Nat → Nat → Int32} {R : fg_T4} {Q : Option Value → fg_M → Prop} {t : Nat} {T : Nat → Nat} (ht : fg_isT t) (hT : fg_TW μ t T) (hok : fg_ok T) {f h : Nat} {Z : fg_Z} {hv lv : Nat → Nat} {o : Option Nat × Nat × Nat} (hf : fg_isF f) (hft : fg_rho R f 0 = some t) (hF : fg_FZ μ f T h Z hv lv o) (hz : fg_zok T h Z hv) {p k kd : Nat} (hp31 : p < 2 ^ 31) (hpT : ¬ p < T 2) (hQ : Q (some (.int (nI 0))) (μ, fg_rho R, 304)) : fg_Ev E yy_Folk_eat (d + 5) [.ref f, .int (nI p), .int (nI k), .int (nI kd)] (μ, fg_rho R, 304) 304 Q := by
  have hb0 := hok.1
  have hb1 := hok.2.1
  have hp := hok.p
  have hq := Nat.two_pow_pos (T 0)
  have hfb := fF_b hf
  have hz9 := hz.1
  refine fg_intro (by decide +kernel) (Nat.le_of_ble_eq_true rfl) (fg_okAs rfl) (Nat.le_refl _) ?_
  refine fg_aloadn (fg_ft (pc := 0) tb_Folk_eat 0 rfl) rfl ?_
  refine fg_iloadn (fg_ft (pc := 1) tb_Folk_eat 1 rfl) rfl ?_
  refine fg_callV (fg_ft (pc := 2) tb_Folk_eat 2 rfl) cf_Folk_80 (fg_isOf (fF_lay hf) rfl (fg_lt (fF_lay hf) (by decide))) (as := [.int (nI p)]) (st := []) rfl rfl (Nat.le_of_ble_eq_true rfl) (Nat.le_refl _) (Nat.le_refl _) (ev_Folk_isThere ht hT hok hf hft hF hz (p := p) (hp31) ?_)
  refine fg_ifB_ne (tgt := 10) (fg_ft (pc := 5) tb_Folk_eat 3 rfl) (by decide) (fun c5 => (absurd c5 hpT)) (fun c5 => ?_)
  refine fg_iconst (fg_ft (pc := 8) tb_Folk_eat 4 rfl) ic_0 ?_
  exact fg_iret (fg_ft (pc := 9) tb_Folk_eat 5 rfl) rfl rfl (hQ)
/-! days -/
def fg_isD (r : Nat) : Prop := r = 133 ∨ r = 135 ∨ r = 137
theorem fD_w {r : Nat} {R : fg_T4} (h : fg_isD r) : fg_rows R r (r + 1) 120 := by
  rcases h with rfl | rfl | rfl
  · exact ⟨ly_133, rh_133_1 R, ly_134⟩
  · exact ⟨ly_135, rh_135_1 R, ly_136⟩
  · exact ⟨ly_137, rh_137_1 R, ly_138⟩
def fg_DW (μ : Nat → Nat → Int32) (r : Nat) (D : Nat → Int32) (nd : Nat) : Prop := μ r 0 = nI 4 ∧ μ r 2 = nI nd ∧ nd ≤ 30 ∧ ∀ i, i < nd * 4 → μ (r + 1) i = D (1 + i)
theorem fg_DW.cell {μ : Nat → Nat → Int32} {r nd k j : Nat} {D : Nat → Int32} (H : fg_DW μ r D nd) (hk : k < nd) (hj : j < 4) : μ (r + 1) (k * 4 + j) = D (1 + (k * 4 + j)) := H.2.2.2 _ (by omega)
theorem fg_DW.lo {μ μ' : Nat → Nat → Int32} {r nd : Nat} {D : Nat → Int32} (h : fg_isD r) (H : fg_DW μ r D nd) (hag : ∀ a, a < 139 → ∀ j, μ' a j = μ a j) : fg_DW μ' r D nd := by
  have hr : r ≤ 137 := by rcases h with rfl | rfl | rfl <;> decide
  exact ⟨(hag r (by omega) 0).trans H.1, (hag r (by omega) 2).trans H.2.1, H.2.2.1, fun i hi => (hag (r + 1) (by omega) i).trans (H.2.2.2 i hi)⟩
/-- what an act is: its kind, who, whom or what, what -/
def fg_ac (D : Nat → Int32) (k kd a b c : Nat) : Prop := kd ≤ 6 ∧ D (1 + (k * 4 + 0)) = nI kd ∧ (kd ≠ 6 → D (1 + (k * 4 + 1)) = nI a ∧ D (1 + (k * 4 + 2)) = nI b ∧ a < 5 ∧ b < 10) ∧ (kd = 5 → D (1 + (k * 4 + 3)) = nI c ∧ b < 5 ∧ c < 10)
noncomputable def fg_do (T : Nat → Nat) (o : Option Nat × Nat × Nat) (kd a b c : Nat) (S : fg_H3) (lv : Nat → Nat) : Option (fg_H3 × (Nat → Nat)) :=
  if kd = 6 then (if S.1 < 9 then some (fg_ph T o S, lv) else none)
  else if a < T 2 then
    (if kd = 5 then (if (b < T 2 ∧ (S.2.1.1 b).testBit c = true) ∧ c < T 0 then some ((S.1, fg_lz T S.1 a (2 ^ c) S.2.1, S.2.2), lv) else none)
    else if kd = 4 then (if b < T 0 then some ((S.1, fg_lz T S.1 a (2 ^ b) S.2.1, S.2.2), lv) else none)
    else if (S.2.1.1 a).testBit b = true then some ((S.1, (fg_up1 S.2.1.1 a (fg_fgt T (S.2.1.1 a) b (if kd = 3 then 1 else kd)), S.2.1.2), fg_up1 S.2.2 a (S.2.2 a ||| (if kd = 3 then fg_df (S.2.1.1 a) (fg_fgt T (S.2.1.1 a) b (if kd = 3 then 1 else kd)) else 0))), fg_up1 lv a (lv a + 1))
    else none)
  else none
theorem fg_nIm1 {n : Nat} (h : n < 2 ^ 31) : ¬ nI n = -1 := fun he => by
  have h1 : (nI n).toBitVec = (-1 : Int32).toBitVec := by rw [he]
  have h2 : ((nI n).toBitVec).toNat = 4294967295 := by rw [h1]; decide
  rw [nI_bv, BitVec.toNat_ofNat] at h2
  omega
theorem fg_do_ok {T : Nat → Nat} (hok : fg_ok T) {o : Option Nat × Nat × Nat} {kd a b c : Nat} {S : fg_H3} {lv : Nat → Nat} {S' : fg_H3} {lv' : Nat → Nat} (H : fg_zok T S.1 S.2.1 S.2.2) (he : fg_do T o kd a b c S lv = some (S', lv')) : fg_zok T S'.1 S'.2.1 S'.2.2 := by
  unfold fg_do at he
  by_cases h6 : kd = 6
  · rw [if_pos h6] at he
    by_cases h9 : S.1 < 9
    · rw [if_pos h9] at he; cases he; exact fg_zok.ph hok H
    · rw [if_neg h9] at he; cases he
  · rw [if_neg h6] at he
    by_cases ha : a < T 2
    · rw [if_pos ha] at he
      by_cases h5 : kd = 5
      · rw [if_pos h5] at he
        by_cases hb : (b < T 2 ∧ (S.2.1.1 b).testBit c = true) ∧ c < T 0
        · rw [if_pos hb] at he; cases he; exact fg_zok.lz hok H ha (Nat.pow_lt_pow_right (by decide) hb.2)
        · rw [if_neg hb] at he; cases he
      · rw [if_neg h5] at he
        by_cases h4 : kd = 4
        · rw [if_pos h4] at he
          by_cases hb : b < T 0
          · rw [if_pos hb] at he; cases he; exact fg_zok.lz hok H ha (Nat.pow_lt_pow_right (by decide) hb)
          · rw [if_neg hb] at he; cases he
        · rw [if_neg h4] at he
          by_cases hb : (S.2.1.1 a).testBit b = true
          · rw [if_pos hb] at he; cases he
            refine fg_zok.half (fg_zok.eat hok H) (fg_or_lt (H.2.2 a ha) ?_)
            by_cases h3 : kd = 3
            · rw [if_pos h3]; exact fg_df_lt (H.2.1 a ha).1
            · rw [if_neg h3]; exact Nat.two_pow_pos _
          · rw [if_neg hb] at he; cases he
    · rw [if_neg ha] at he; cases he
theorem fk_Folk_126_16 : fg_KF "ForgetBread$Folk" 126 16 (.int (nI 6)) := ⟨_, List.mem_of_getElem? (l := fg_ofld) (i := 96) rfl, rfl, rfl, fg_tblIn 1733 (by decide +kernel) (by decide +kernel)⟩
theorem fk_Folk_126_15 : fg_KF "ForgetBread$Folk" 126 15 (.int (nI 5)) := ⟨_, List.mem_of_getElem? (l := fg_ofld) (i := 90) rfl, rfl, rfl, fg_tblIn 1733 (by decide +kernel) (by decide +kernel)⟩
theorem fk_Folk_126_14 : fg_KF "ForgetBread$Folk" 126 14 (.int (nI 4)) := ⟨_, List.mem_of_getElem? (l := fg_ofld) (i := 84) rfl, rfl, rfl, fg_tblIn 1733 (by decide +kernel) (by decide +kernel)⟩
theorem fk_Folk_126_13 : fg_KF "ForgetBread$Folk" 126 13 (.int (nI 3)) := ⟨_, List.mem_of_getElem? (l := fg_ofld) (i := 78) rfl, rfl, rfl, fg_tblIn 1733 (by decide +kernel) (by decide +kernel)⟩
theorem ev_Folk_doAct {E : fg_E} {d : Nat} {μ : Nat → Nat → Int32} {R : fg_T4} {Q : Option Value → fg_M → Prop} {t : Nat} {T : Nat → Nat} (ht : fg_isT t) (hT : fg_TW μ t T) (hok : fg_ok T) {f h : Nat} {Z : fg_Z} {hv lv : Nat → Nat} {o : Option Nat × Nat × Nat} (hf : fg_isF f) (hft : fg_rho R f 0 = some t) (hF : fg_FZ μ f T h Z hv lv o) (hz : fg_zok T h Z hv) {r nd k kd a b c : Nat} {D : Nat → Int32} (hr : fg_isD r) (hD : fg_DW μ r D nd) (hk : k < nd) (hac : fg_ac D k kd a b c) (hsh : o.2.2 < 2 ^ 31) (hQ0 : fg_do T o kd a b c (h, Z, hv) lv = none → ∀ μ' : Nat → Nat → Int32, fg_agF f μ μ' → fg_FS μ' f T (h, Z, hv) lv o → Q (some (.int (nI 0))) (μ', fg_rho R, 304)) (hQ : ∀ (S' : fg_H3) (lv' : Nat → Nat), fg_do T o kd a b c (h, Z, hv) lv = some (S', lv') → ∀ μ' : Nat → Nat → Int32, fg_agF f μ μ' → fg_FS μ' f T S' lv' o → Q (some (.int (nI 1))) (μ', fg_rho R, 304)) : fg_Ev E yy_Folk_doAct (d + 6) [.ref f, .ref r, .int (nI k)] (μ, fg_rho R, 304) 304 Q := by
  have hb0 := hok.1
  have hb1 := hok.2.1
  have hp := hok.p
  have hq := Nat.two_pow_pos (T 0)
  have hfb := fF_b hf
  have hz9 := hz.1
  have hkd6 := hac.1
  have hnd := hD.2.2.1
  refine fg_intro (by decide +kernel) (Nat.le_of_ble_eq_true rfl) (fg_okAs rfl) (Nat.le_refl _) ?_
  refine fg_aloadn (fg_ft (pc := 0) tb_Folk_doAct 0 rfl) rfl ?_
  refine fg_ifnonnull (tgt := 8) (fg_ft (pc := 1) tb_Folk_doAct 1 rfl) (by decide) ?_
  refine fg_aloadn (fg_ft (pc := 8) tb_Folk_doAct 4 rfl) rfl ?_
  refine fg_iloadn (fg_ft (pc := 9) tb_Folk_doAct 5 rfl) rfl ?_
  refine fg_iconst (fg_ft (pc := 10) tb_Folk_doAct 6 rfl) ic_0 ?_
  refine fg_callV (fg_ft (pc := 11) tb_Folk_doAct 7 rfl) cf_Folk_84 (fg_isOf ((fD_w (R := R) hr).1) rfl (fg_lt ((fD_w (R := R) hr).1) (by decide))) (as := [.int (nI k), .int (nI 0)]) (st := []) rfl rfl (Nat.le_of_ble_eq_true rfl) (Nat.le_refl _) (Nat.le_refl _) (ev_Rows_cell (fD_w (R := R) hr) hD.1 hD.2.1 (by have := hD.2.2.1; omega) (by decide) (by have := hD.2.2.1; omega) (i := k) (j := 0) (by omega) (by decide) ((hD.cell hk (by decide)).trans hac.2.1) ?_)
  refine fg_istoren (fg_ft (pc := 14) tb_Folk_doAct 8 rfl) (Nat.le_of_ble_eq_true rfl) ?_
  refine fg_iloadn (fg_ft (pc := 15) tb_Folk_doAct 9 rfl) rfl ?_
  refine fg_gets (fg_ft (pc := 16) tb_Folk_doAct 10 rfl) fs_Folk_120 ?_
  refine fg_getK (fg_ft (pc := 19) tb_Folk_doAct 11 rfl) fk_Folk_126_16 ?_
  refine fg_icmp_neN (tgt := 48) (fg_ft (pc := 22) tb_Folk_doAct 12 rfl) (by decide) (by omega) (by decide) (fun c22 => ?_) (fun c22 => ?_)
  · refine fg_iloadn (fg_ft (pc := 48) tb_Folk_doAct 25 rfl) rfl ?_
    refine fg_iconst (fg_ft (pc := 49) tb_Folk_doAct 26 rfl) ic_m1 ?_
    refine fg_icmp_ne (tgt := 57) (fg_ft (pc := 50) tb_Folk_doAct 27 rfl) (by decide) (fun c50 => ?_) (fun c50 => (absurd c50 (fg_nIm1 (by omega))))
    refine fg_aloadn (fg_ft (pc := 57) tb_Folk_doAct 30 rfl) rfl ?_
    refine fg_iloadn (fg_ft (pc := 58) tb_Folk_doAct 31 rfl) rfl ?_
    refine fg_iconst (fg_ft (pc := 59) tb_Folk_doAct 32 rfl) ic_1 ?_
    refine fg_callV (fg_ft (pc := 60) tb_Folk_doAct 33 rfl) cf_Folk_84 (fg_isOf ((fD_w (R := R) hr).1) rfl (fg_lt ((fD_w (R := R) hr).1) (by decide))) (as := [.int (nI k), .int (nI 1)]) (st := []) rfl rfl (Nat.le_of_ble_eq_true rfl) (Nat.le_refl _) (Nat.le_refl _) (ev_Rows_cell (fD_w (R := R) hr) hD.1 hD.2.1 (by have := hD.2.2.1; omega) (by decide) (by have := hD.2.2.1; omega) (i := k) (j := 1) (by omega) (by decide) ((hD.cell hk (by decide)).trans (hac.2.2.1 c22).1) ?_)
    refine fg_istore (fg_ft (pc := 63) tb_Folk_doAct 34 rfl) (Nat.le_of_ble_eq_true rfl) ?_
    refine fg_aloadn (fg_ft (pc := 65) tb_Folk_doAct 35 rfl) rfl ?_
    refine fg_iload (fg_ft (pc := 66) tb_Folk_doAct 36 rfl) rfl ?_
    refine fg_callV (fg_ft (pc := 68) tb_Folk_doAct 37 rfl) cf_Folk_80 (fg_isOf (fF_lay hf) rfl (fg_lt (fF_lay hf) (by decide))) (as := [.int (nI a)]) (st := []) rfl rfl (Nat.le_of_ble_eq_true rfl) (Nat.le_refl _) (Nat.le_refl _) (ev_Folk_isThere ht hT hok hf hft hF hz (p := a) (by have := (hac.2.2.1 c22).2.2.1; omega) ?_)
    refine fg_ifB_ne (tgt := 76) (fg_ft (pc := 71) tb_Folk_doAct 38 rfl) (by decide) (fun c71 => ?_) (fun c71 => ?_)
    · refine fg_aloadn (fg_ft (pc := 76) tb_Folk_doAct 41 rfl) rfl ?_
      refine fg_iloadn (fg_ft (pc := 77) tb_Folk_doAct 42 rfl) rfl ?_
      refine fg_iconst (fg_ft (pc := 78) tb_Folk_doAct 43 rfl) ic_2 ?_
      refine fg_callV (fg_ft (pc := 79) tb_Folk_doAct 44 rfl) cf_Folk_84 (fg_isOf ((fD_w (R := R) hr).1) rfl (fg_lt ((fD_w (R := R) hr).1) (by decide))) (as := [.int (nI k), .int (nI 2)]) (st := []) rfl rfl (Nat.le_of_ble_eq_true rfl) (Nat.le_refl _) (Nat.le_refl _) (ev_Rows_cell (fD_w (R := R) hr) hD.1 hD.2.1 (by have := hD.2.2.1; omega) (by decide) (by have := hD.2.2.1; omega) (i := k) (j := 2) (by omega) (by decide) ((hD.cell hk (by decide)).trans (hac.2.2.1 c22).2.1) ?_)
      refine fg_istore (fg_ft (pc := 82) tb_Folk_doAct 45 rfl) (Nat.le_of_ble_eq_true rfl) ?_
      refine fg_iloadn (fg_ft (pc := 84) tb_Folk_doAct 46 rfl) rfl ?_
      refine fg_gets (fg_ft (pc := 85) tb_Folk_doAct 47 rfl) fs_Folk_132 ?_
      refine fg_getK (fg_ft (pc := 88) tb_Folk_doAct 48 rfl) fk_Folk_126_15 ?_
      refine fg_icmp_neN (tgt := 130) (fg_ft (pc := 91) tb_Folk_doAct 49 rfl) (by decide) (by omega) (by decide) (fun c91 => ?_) (fun c91 => ?_)
      · refine fg_iloadn (fg_ft (pc := 130) tb_Folk_doAct 69 rfl) rfl ?_
        refine fg_gets (fg_ft (pc := 131) tb_Folk_doAct 70 rfl) fs_Folk_138 ?_
        refine fg_getK (fg_ft (pc := 134) tb_Folk_doAct 71 rfl) fk_Folk_126_14 ?_
        refine fg_icmp_neN (tgt := 149) (fg_ft (pc := 137) tb_Folk_doAct 72 rfl) (by decide) (by omega) (by decide) (fun c137 => ?_) (fun c137 => ?_)
        · refine fg_aloadn (fg_ft (pc := 149) tb_Folk_doAct 78 rfl) rfl ?_
          refine fg_iload (fg_ft (pc := 150) tb_Folk_doAct 79 rfl) rfl ?_
          refine fg_iload (fg_ft (pc := 152) tb_Folk_doAct 80 rfl) rfl ?_
          refine fg_callV (fg_ft (pc := 154) tb_Folk_doAct 81 rfl) cf_Folk_110 (fg_isOf (fF_lay hf) rfl (fg_lt (fF_lay hf) (by decide))) (as := [.int (nI a), .int (nI b)]) (st := []) rfl rfl (Nat.le_of_ble_eq_true rfl) (Nat.le_refl _) (Nat.le_refl _) (ev_Folk_has ht hT hok hf hft hF hz (p := a) (k := b) (by have := (hac.2.2.1 c22).2.2.1; omega) (by have := (hac.2.2.1 c22).2.2.2; omega) ?_)
          refine fg_ifB_ne (tgt := 162) (fg_ft (pc := 157) tb_Folk_doAct 82 rfl) (by decide) (fun c157 => ?_) (fun c157 => ?_)
          · refine fg_aloadn (fg_ft (pc := 162) tb_Folk_doAct 85 rfl) rfl ?_
            refine fg_iload (fg_ft (pc := 163) tb_Folk_doAct 86 rfl) rfl ?_
            refine fg_iload (fg_ft (pc := 165) tb_Folk_doAct 87 rfl) rfl ?_
            refine fg_iloadn (fg_ft (pc := 167) tb_Folk_doAct 88 rfl) rfl ?_
            refine fg_gets (fg_ft (pc := 168) tb_Folk_doAct 89 rfl) fs_Folk_141 ?_
            refine fg_getK (fg_ft (pc := 171) tb_Folk_doAct 90 rfl) fk_Folk_126_13 ?_
            refine fg_icmp_neN (tgt := 181) (fg_ft (pc := 174) tb_Folk_doAct 91 rfl) (by decide) (by omega) (by decide) (fun c174 => ?_) (fun c174 => ?_)
            · refine fg_iloadn (fg_ft (pc := 181) tb_Folk_doAct 94 rfl) rfl ?_
              refine fg_callV (fg_ft (pc := 182) tb_Folk_doAct 95 rfl) cf_Folk_144 (fg_isOf (fF_lay hf) rfl (fg_lt (fF_lay hf) (by decide))) (as := [.int (nI a), .int (nI b), .int (nI kd)]) (st := []) rfl rfl (Nat.le_of_ble_eq_true rfl) (Nat.le_refl _) (Nat.le_refl _) (ev_Folk_eat ht hT hok hf hft hF hz (p := a) (k := b) (kd := kd) (c71) (by have := (hac.2.2.1 c22).2.2.2; omega) (by omega) ?_)
              intro ν2 ho2 hN2
              show fg_wp _ _ _ _ _ _ _ _ _ (ν2, fg_rho R, 304)
              refine fg_istore (fg_ft (pc := 185) tb_Folk_doAct 96 rfl) (Nat.le_of_ble_eq_true rfl) ?_
              refine fg_aloadn (fg_ft (pc := 187) tb_Folk_doAct 97 rfl) rfl ?_
              refine fg_getR (fg_ft (pc := 188) tb_Folk_doAct 98 rfl) ff_Folk_19 (fF_lay hf) rfl (fg_lt (fF_lay hf) (by decide)) (fF_r2 hf) ?_
              refine fg_iload (fg_ft (pc := 191) tb_Folk_doAct 99 rfl) rfl ?_
              refine fg_dup2 (fg_ft (pc := 193) tb_Folk_doAct 100 rfl) rfl rfl ?_
              refine fg_ialdV (v := (nI (hv a))) (fg_ft (pc := 194) tb_Folk_doAct 101 rfl) (fF_l2 hf) (fg_lt (fF_l2 hf) (by decide)) (by omega) (hN2.2.2.2.1 a c71) ?_
              refine fg_iloadn (fg_ft (pc := 195) tb_Folk_doAct 102 rfl) rfl ?_
              refine fg_gets (fg_ft (pc := 196) tb_Folk_doAct 103 rfl) fs_Folk_141 ?_
              refine fg_getK (fg_ft (pc := 199) tb_Folk_doAct 104 rfl) fk_Folk_126_13 ?_
              refine fg_icmp_neN (tgt := 210) (fg_ft (pc := 202) tb_Folk_doAct 105 rfl) (by decide) (by omega) (by decide) (fun c202 => ?_) (fun c202 => ?_)
              · refine fg_iconst (fg_ft (pc := 210) tb_Folk_doAct 108 rfl) ic_0 ?_
                refine fg_iorN (fg_ft (pc := 211) tb_Folk_doAct 109 rfl) ?_
                refine fg_iastN (fg_ft (pc := 212) tb_Folk_doAct 110 rfl) (fF_l2 hf) (fg_lt (fF_l2 hf) (by decide)) (by omega) ?_
                show fg_wp _ _ _ _ _ _ _ _ _ (fg_u2 ν2 (f + 2) a (nI ((hv a) ||| 0)), fg_rho R, 304)
                refine fg_iconst (fg_ft (pc := 213) tb_Folk_doAct 111 rfl) ic_1 ?_
                exact fg_zret (fg_ft (pc := 214) tb_Folk_doAct 112 rfl) rfl (by decide) rfl (by first | exact absurd c202 c174 | exact absurd c174 c202 | exact hQ _ _ (by unfold fg_do; rw [if_neg c22, if_pos c71, if_neg c91, if_neg c137, if_pos c157.2]) _ (fg_agF_tr ho2 (fg_agF_u (by omega) (by omega))) (by rw [if_pos c174, if_pos c174]; exact hN2.setHalf) | exact hQ _ _ (by unfold fg_do; rw [if_neg c22, if_pos c71, if_neg c91, if_neg c137, if_pos c157.2]) _ (fg_agF_tr ho2 (fg_agF_u (by omega) (by omega))) (by rw [if_neg c174, if_neg c174]; exact hN2.setHalf))
              · refine fg_iload (fg_ft (pc := 205) tb_Folk_doAct 106 rfl) rfl ?_
                refine fg_goto (tgt := 211) (fg_ft (pc := 207) tb_Folk_doAct 107 rfl) (by decide) ?_
                refine fg_iorN (fg_ft (pc := 211) tb_Folk_doAct 109 rfl) ?_
                refine fg_iastN (fg_ft (pc := 212) tb_Folk_doAct 110 rfl) (fF_l2 hf) (fg_lt (fF_l2 hf) (by decide)) (by omega) ?_
                show fg_wp _ _ _ _ _ _ _ _ _ (fg_u2 ν2 (f + 2) a (nI ((hv a) ||| (fg_df (Z.1 a) (fg_fgt T (Z.1 a) b kd)))), fg_rho R, 304)
                refine fg_iconst (fg_ft (pc := 213) tb_Folk_doAct 111 rfl) ic_1 ?_
                exact fg_zret (fg_ft (pc := 214) tb_Folk_doAct 112 rfl) rfl (by decide) rfl (by first | exact absurd c202 c174 | exact absurd c174 c202 | exact hQ _ _ (by unfold fg_do; rw [if_neg c22, if_pos c71, if_neg c91, if_neg c137, if_pos c157.2]) _ (fg_agF_tr ho2 (fg_agF_u (by omega) (by omega))) (by rw [if_pos c174, if_pos c174]; exact hN2.setHalf) | exact hQ _ _ (by unfold fg_do; rw [if_neg c22, if_pos c71, if_neg c91, if_neg c137, if_pos c157.2]) _ (fg_agF_tr ho2 (fg_agF_u (by omega) (by omega))) (by rw [if_neg c174, if_neg c174]; exact hN2.setHalf))
            · refine fg_iconst (fg_ft (pc := 177) tb_Folk_doAct 92 rfl) ic_1 ?_
              refine fg_goto (tgt := 182) (fg_ft (pc := 178) tb_Folk_doAct 93 rfl) (by decide) ?_
              refine fg_callV (fg_ft (pc := 182) tb_Folk_doAct 95 rfl) cf_Folk_144 (fg_isOf (fF_lay hf) rfl (fg_lt (fF_lay hf) (by decide))) (as := [.int (nI a), .int (nI b), .int (nI 1)]) (st := []) rfl rfl (Nat.le_of_ble_eq_true rfl) (Nat.le_refl _) (Nat.le_refl _) (ev_Folk_eat ht hT hok hf hft hF hz (p := a) (k := b) (kd := 1) (c71) (by have := (hac.2.2.1 c22).2.2.2; omega) (by decide) ?_)
              intro ν2 ho2 hN2
              show fg_wp _ _ _ _ _ _ _ _ _ (ν2, fg_rho R, 304)
              refine fg_istore (fg_ft (pc := 185) tb_Folk_doAct 96 rfl) (Nat.le_of_ble_eq_true rfl) ?_
              refine fg_aloadn (fg_ft (pc := 187) tb_Folk_doAct 97 rfl) rfl ?_
              refine fg_getR (fg_ft (pc := 188) tb_Folk_doAct 98 rfl) ff_Folk_19 (fF_lay hf) rfl (fg_lt (fF_lay hf) (by decide)) (fF_r2 hf) ?_
              refine fg_iload (fg_ft (pc := 191) tb_Folk_doAct 99 rfl) rfl ?_
              refine fg_dup2 (fg_ft (pc := 193) tb_Folk_doAct 100 rfl) rfl rfl ?_
              refine fg_ialdV (v := (nI (hv a))) (fg_ft (pc := 194) tb_Folk_doAct 101 rfl) (fF_l2 hf) (fg_lt (fF_l2 hf) (by decide)) (by omega) (hN2.2.2.2.1 a c71) ?_
              refine fg_iloadn (fg_ft (pc := 195) tb_Folk_doAct 102 rfl) rfl ?_
              refine fg_gets (fg_ft (pc := 196) tb_Folk_doAct 103 rfl) fs_Folk_141 ?_
              refine fg_getK (fg_ft (pc := 199) tb_Folk_doAct 104 rfl) fk_Folk_126_13 ?_
              refine fg_icmp_neN (tgt := 210) (fg_ft (pc := 202) tb_Folk_doAct 105 rfl) (by decide) (by omega) (by decide) (fun c202 => ?_) (fun c202 => ?_)
              · refine fg_iconst (fg_ft (pc := 210) tb_Folk_doAct 108 rfl) ic_0 ?_
                refine fg_iorN (fg_ft (pc := 211) tb_Folk_doAct 109 rfl) ?_
                refine fg_iastN (fg_ft (pc := 212) tb_Folk_doAct 110 rfl) (fF_l2 hf) (fg_lt (fF_l2 hf) (by decide)) (by omega) ?_
                show fg_wp _ _ _ _ _ _ _ _ _ (fg_u2 ν2 (f + 2) a (nI ((hv a) ||| 0)), fg_rho R, 304)
                refine fg_iconst (fg_ft (pc := 213) tb_Folk_doAct 111 rfl) ic_1 ?_
                exact fg_zret (fg_ft (pc := 214) tb_Folk_doAct 112 rfl) rfl (by decide) rfl (by first | exact absurd c202 c174 | exact absurd c174 c202 | exact hQ _ _ (by unfold fg_do; rw [if_neg c22, if_pos c71, if_neg c91, if_neg c137, if_pos c157.2]) _ (fg_agF_tr ho2 (fg_agF_u (by omega) (by omega))) (by rw [if_pos c174, if_pos c174]; exact hN2.setHalf) | exact hQ _ _ (by unfold fg_do; rw [if_neg c22, if_pos c71, if_neg c91, if_neg c137, if_pos c157.2]) _ (fg_agF_tr ho2 (fg_agF_u (by omega) (by omega))) (by rw [if_neg c174, if_neg c174]; exact hN2.setHalf))
              · refine fg_iload (fg_ft (pc := 205) tb_Folk_doAct 106 rfl) rfl ?_
                refine fg_goto (tgt := 211) (fg_ft (pc := 207) tb_Folk_doAct 107 rfl) (by decide) ?_
                refine fg_iorN (fg_ft (pc := 211) tb_Folk_doAct 109 rfl) ?_
                refine fg_iastN (fg_ft (pc := 212) tb_Folk_doAct 110 rfl) (fF_l2 hf) (fg_lt (fF_l2 hf) (by decide)) (by omega) ?_
                show fg_wp _ _ _ _ _ _ _ _ _ (fg_u2 ν2 (f + 2) a (nI ((hv a) ||| (fg_df (Z.1 a) (fg_fgt T (Z.1 a) b 1)))), fg_rho R, 304)
                refine fg_iconst (fg_ft (pc := 213) tb_Folk_doAct 111 rfl) ic_1 ?_
                exact fg_zret (fg_ft (pc := 214) tb_Folk_doAct 112 rfl) rfl (by decide) rfl (by first | exact absurd c202 c174 | exact absurd c174 c202 | exact hQ _ _ (by unfold fg_do; rw [if_neg c22, if_pos c71, if_neg c91, if_neg c137, if_pos c157.2]) _ (fg_agF_tr ho2 (fg_agF_u (by omega) (by omega))) (by rw [if_pos c174, if_pos c174]; exact hN2.setHalf) | exact hQ _ _ (by unfold fg_do; rw [if_neg c22, if_pos c71, if_neg c91, if_neg c137, if_pos c157.2]) _ (fg_agF_tr ho2 (fg_agF_u (by omega) (by omega))) (by rw [if_neg c174, if_neg c174]; exact hN2.setHalf))
          · refine fg_iconst (fg_ft (pc := 160) tb_Folk_doAct 83 rfl) ic_0 ?_
            exact fg_zret (fg_ft (pc := 161) tb_Folk_doAct 84 rfl) rfl (by decide) rfl (hQ0 (by unfold fg_do; rw [if_neg c22, if_pos c71, if_neg c91, if_neg c137, if_neg (fun hh => c157 ⟨c71, hh⟩)]) μ (fg_agF_rf f μ) hF)
        · refine fg_aloadn (fg_ft (pc := 140) tb_Folk_doAct 73 rfl) rfl ?_
          refine fg_iload (fg_ft (pc := 141) tb_Folk_doAct 74 rfl) rfl ?_
          refine fg_iload (fg_ft (pc := 143) tb_Folk_doAct 75 rfl) rfl ?_
          refine fg_callV (fg_ft (pc := 145) tb_Folk_doAct 76 rfl) cf_Folk_135 (fg_isOf (fF_lay hf) rfl (fg_lt (fF_lay hf) (by decide))) (as := [.int (nI a), .int (nI b)]) (st := []) rfl rfl (Nat.le_of_ble_eq_true rfl) (Nat.le_refl _) (Nat.le_refl _) (ev_Folk_learnsOne ht hT hok hf hft hF hz (p := a) (k := b) c71 (by have := (hac.2.2.1 c22).2.2.2; omega) (fun k0 => ?_) (fun k1 ν2 ho2 hN2 => ?_))
          · exact fg_zret (fg_ft (pc := 148) tb_Folk_doAct 77 rfl) rfl (by decide) rfl (hQ0 (by unfold fg_do; rw [if_neg c22, if_pos c71, if_neg c91, if_pos c137, if_neg k0]) μ (fg_agF_rf f μ) hF)
          · exact fg_zret (fg_ft (pc := 148) tb_Folk_doAct 77 rfl) rfl (by decide) rfl (hQ _ _ (by unfold fg_do; rw [if_neg c22, if_pos c71, if_neg c91, if_pos c137, if_pos k1]) ν2 ho2 hN2)
      · refine fg_aloadn (fg_ft (pc := 94) tb_Folk_doAct 50 rfl) rfl ?_
        refine fg_iloadn (fg_ft (pc := 95) tb_Folk_doAct 51 rfl) rfl ?_
        refine fg_iconst (fg_ft (pc := 96) tb_Folk_doAct 52 rfl) ic_3 ?_
        refine fg_callV (fg_ft (pc := 97) tb_Folk_doAct 53 rfl) cf_Folk_84 (fg_isOf ((fD_w (R := R) hr).1) rfl (fg_lt ((fD_w (R := R) hr).1) (by decide))) (as := [.int (nI k), .int (nI 3)]) (st := []) rfl rfl (Nat.le_of_ble_eq_true rfl) (Nat.le_refl _) (Nat.le_refl _) (ev_Rows_cell (fD_w (R := R) hr) hD.1 hD.2.1 (by have := hD.2.2.1; omega) (by decide) (by have := hD.2.2.1; omega) (i := k) (j := 3) (by omega) (by decide) ((hD.cell hk (by decide)).trans (hac.2.2.2 c91).1) ?_)
        refine fg_istore (fg_ft (pc := 100) tb_Folk_doAct 54 rfl) (Nat.le_of_ble_eq_true rfl) ?_
        refine fg_aloadn (fg_ft (pc := 102) tb_Folk_doAct 55 rfl) rfl ?_
        refine fg_iload (fg_ft (pc := 103) tb_Folk_doAct 56 rfl) rfl ?_
        refine fg_iload (fg_ft (pc := 105) tb_Folk_doAct 57 rfl) rfl ?_
        refine fg_callV (fg_ft (pc := 107) tb_Folk_doAct 58 rfl) cf_Folk_110 (fg_isOf (fF_lay hf) rfl (fg_lt (fF_lay hf) (by decide))) (as := [.int (nI b), .int (nI c)]) (st := []) rfl rfl (Nat.le_of_ble_eq_true rfl) (Nat.le_refl _) (Nat.le_refl _) (ev_Folk_has ht hT hok hf hft hF hz (p := b) (k := c) (by have := (hac.2.2.1 c22).2.2.2; omega) (by have := (hac.2.2.2 c91).2.2; omega) ?_)
        refine fg_ifB_eq (tgt := 128) (fg_ft (pc := 110) tb_Folk_doAct 59 rfl) (by decide) (fun c110 => ?_) (fun c110 => ?_)
        · refine fg_iconst (fg_ft (pc := 128) tb_Folk_doAct 67 rfl) ic_0 ?_
          exact fg_zret (fg_ft (pc := 129) tb_Folk_doAct 68 rfl) rfl (by decide) rfl (hQ0 (by unfold fg_do; rw [if_neg c22, if_pos c71, if_pos c91, if_neg (fun hh => c110 hh.1)]) μ (fg_agF_rf f μ) hF)
        · refine fg_aloadn (fg_ft (pc := 113) tb_Folk_doAct 60 rfl) rfl ?_
          refine fg_iload (fg_ft (pc := 114) tb_Folk_doAct 61 rfl) rfl ?_
          refine fg_iload (fg_ft (pc := 116) tb_Folk_doAct 62 rfl) rfl ?_
          refine fg_callV (fg_ft (pc := 118) tb_Folk_doAct 63 rfl) cf_Folk_135 (fg_isOf (fF_lay hf) rfl (fg_lt (fF_lay hf) (by decide))) (as := [.int (nI a), .int (nI c)]) (st := []) rfl rfl (Nat.le_of_ble_eq_true rfl) (Nat.le_refl _) (Nat.le_refl _) (ev_Folk_learnsOne ht hT hok hf hft hF hz (p := a) (k := c) c71 (by have := (hac.2.2.2 c91).2.2; omega) (fun k0 => ?_) (fun k1 ν2 ho2 hN2 => ?_))
          · refine fg_if_eq (tgt := 128) (fg_ft (pc := 121) tb_Folk_doAct 64 rfl) (by decide) (fun _ => ?_) (fun h => absurd h (by decide))
            refine fg_iconst (fg_ft (pc := 128) tb_Folk_doAct 67 rfl) ic_0 ?_
            exact fg_zret (fg_ft (pc := 129) tb_Folk_doAct 68 rfl) rfl (by decide) rfl (hQ0 (by unfold fg_do; rw [if_neg c22, if_pos c71, if_pos c91, if_neg (fun hh => k0 hh.2)]) μ (fg_agF_rf f μ) hF)
          · refine fg_if_eq (tgt := 128) (fg_ft (pc := 121) tb_Folk_doAct 64 rfl) (by decide) (fun h => absurd h (by decide)) (fun _ => ?_)
            refine fg_iconst (fg_ft (pc := 124) tb_Folk_doAct 65 rfl) ic_1 ?_
            refine fg_goto (tgt := 129) (fg_ft (pc := 125) tb_Folk_doAct 66 rfl) (by decide) ?_
            exact fg_zret (fg_ft (pc := 129) tb_Folk_doAct 68 rfl) rfl (by decide) rfl (hQ _ _ (by unfold fg_do; rw [if_neg c22, if_pos c71, if_pos c91, if_pos ⟨c110, k1⟩]) ν2 ho2 hN2)
    · refine fg_iconst (fg_ft (pc := 74) tb_Folk_doAct 39 rfl) ic_0 ?_
      exact fg_zret (fg_ft (pc := 75) tb_Folk_doAct 40 rfl) rfl (by decide) rfl (hQ0 (by unfold fg_do; rw [if_neg c22, if_neg c71]) μ (fg_agF_rf f μ) hF)
  · refine fg_aloadn (fg_ft (pc := 25) tb_Folk_doAct 13 rfl) rfl ?_
    refine fg_getV (v := (nI h)) (fg_ft (pc := 26) tb_Folk_doAct 14 rfl) ff_Folk_49 (fF_lay hf) rfl (fg_lt (fF_lay hf) (by decide)) hF.2.1 ?_
    refine fg_bipush (fg_ft (pc := 29) tb_Folk_doAct 15 rfl) ib_9 ?_
    refine fg_icmp_geN (tgt := 38) (fg_ft (pc := 31) tb_Folk_doAct 16 rfl) (by decide) (by omega) (by decide) (fun c31 => ?_) (fun c31 => ?_)
    · refine fg_iconst (fg_ft (pc := 38) tb_Folk_doAct 19 rfl) ic_0 ?_
      refine fg_istore (fg_ft (pc := 39) tb_Folk_doAct 20 rfl) (Nat.le_of_ble_eq_true rfl) ?_
      refine fg_aloadn (fg_ft (pc := 41) tb_Folk_doAct 21 rfl) rfl ?_
      refine fg_callV (fg_ft (pc := 42) tb_Folk_doAct 22 rfl) cf_Folk_129 (fg_isOf (fF_lay hf) rfl (fg_lt (fF_lay hf) (by decide))) (as := []) (st := []) rfl rfl (Nat.le_of_ble_eq_true rfl) (Nat.le_refl _) (Nat.le_refl _) (ev_Folk_passHour ht hT hok hf hft hF hz (hsh) ?_)
      intro ν2 ho2 hN2
      show fg_wp _ _ _ _ _ _ _ _ _ (ν2, fg_rho R, 304)
      refine fg_iload (fg_ft (pc := 45) tb_Folk_doAct 23 rfl) rfl ?_
      exact fg_zret (fg_ft (pc := 47) tb_Folk_doAct 24 rfl) rfl (by decide) rfl (hQ0 (by unfold fg_do; rw [if_pos c22, if_neg (show ¬ h < 9 by omega)]) ν2 ho2 (by have hN3 : fg_FS ν2 f T (fg_ph T o (h, Z, hv)) lv o := hN2; rw [fg_ph_ge (by omega)] at hN3; exact hN3))
    · refine fg_iconst (fg_ft (pc := 34) tb_Folk_doAct 17 rfl) ic_1 ?_
      refine fg_goto (tgt := 39) (fg_ft (pc := 35) tb_Folk_doAct 18 rfl) (by decide) ?_
      refine fg_istore (fg_ft (pc := 39) tb_Folk_doAct 20 rfl) (Nat.le_of_ble_eq_true rfl) ?_
      refine fg_aloadn (fg_ft (pc := 41) tb_Folk_doAct 21 rfl) rfl ?_
      refine fg_callV (fg_ft (pc := 42) tb_Folk_doAct 22 rfl) cf_Folk_129 (fg_isOf (fF_lay hf) rfl (fg_lt (fF_lay hf) (by decide))) (as := []) (st := []) rfl rfl (Nat.le_of_ble_eq_true rfl) (Nat.le_refl _) (Nat.le_refl _) (ev_Folk_passHour ht hT hok hf hft hF hz (hsh) ?_)
      intro ν2 ho2 hN2
      show fg_wp _ _ _ _ _ _ _ _ _ (ν2, fg_rho R, 304)
      refine fg_iload (fg_ft (pc := 45) tb_Folk_doAct 23 rfl) rfl ?_
      exact fg_zret (fg_ft (pc := 47) tb_Folk_doAct 24 rfl) rfl (by decide) rfl (hQ _ _ (by unfold fg_do; rw [if_pos c22, if_pos (show h < 9 by omega)]) ν2 ho2 hN2)
