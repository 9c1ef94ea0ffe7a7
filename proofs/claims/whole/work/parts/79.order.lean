/-! the first good order -/
def fg_fs (F : Nat → Option (Nat → Nat)) : Nat → Nat → Option (Nat → Nat)
  | 0, _ => none
  | j + 1, n => match F n with
    | some g => some g
    | none => fg_fs F j (n + 1)
theorem fg_fs_0 {F : Nat → Option (Nat → Nat)} {j n : Nat} (h : F n = none) : fg_fs F (j + 1) n = fg_fs F j (n + 1) := by
  simp only [fg_fs, h]
theorem fg_fs_1 {F : Nat → Option (Nat → Nat)} {j n : Nat} {g : Nat → Nat} (h : F n = some g) : fg_fs F (j + 1) n = some g := by
  simp only [fg_fs, h]
noncomputable def fg_oF (T : Nat → Nat) (kd : Nat) (rec : Nat → Nat → Option (Nat → Nat)) (m set n : Nat) : Option (Nat → Nat) :=
  if set.testBit n = true then (if fg_w T (fg_fgt T m n kd) < fg_w T m then none else (match rec (fg_fgt T m n kd) (fg_df set (2 ^ n)) with
    | none => none
    | some g => some (fun i => if i = 0 then n else g (i - 1)))) else none
noncomputable def fg_or (T : Nat → Nat) (kd : Nat) : Nat → Nat → Nat → Option (Nat → Nat)
  | 0, _, set => if set = 0 then some (fun _ => 0) else none
  | k + 1, m, set => if set = 0 then some (fun _ => 0) else fg_fs (fg_oF T kd (fg_or T kd k) m set) (T 0) 0
theorem fg_oF_b {T : Nat → Nat} {kd m set n : Nat} {rec : Nat → Nat → Option (Nat → Nat)} (h : ¬ set.testBit n = true) : fg_oF T kd rec m set n = none := if_neg h
theorem fg_oF_w {T : Nat → Nat} {kd m set n : Nat} {rec : Nat → Nat → Option (Nat → Nat)} (h : fg_w T (fg_fgt T m n kd) < fg_w T m) : fg_oF T kd rec m set n = none := by
  unfold fg_oF
  rw [if_pos h]
  split <;> rfl
theorem fg_oF_n {T : Nat → Nat} {kd m set n : Nat} {rec : Nat → Nat → Option (Nat → Nat)} (h : rec (fg_fgt T m n kd) (fg_df set (2 ^ n)) = none) : fg_oF T kd rec m set n = none := by
  unfold fg_oF
  rw [h]
  split
  · split <;> rfl
  · rfl
theorem fg_oF_s {T : Nat → Nat} {kd m set n : Nat} {rec : Nat → Nat → Option (Nat → Nat)} {g : Nat → Nat} (h1 : set.testBit n = true) (h2 : ¬ fg_w T (fg_fgt T m n kd) < fg_w T m) (h : rec (fg_fgt T m n kd) (fg_df set (2 ^ n)) = some g) : fg_oF T kd rec m set n = some (fun i => if i = 0 then n else g (i - 1)) := by
  unfold fg_oF
  rw [if_pos h1, if_neg h2, h]
def fg_agI (w : Nat) (μ μ' : Nat → Nat → Int32) : Prop := (∀ a, a ≠ 286 → ∀ j, μ' a j = μ a j) ∧ ∀ j, j < w → μ' 286 j = μ 286 j
theorem fg_agI_rf (w : Nat) (μ : Nat → Nat → Int32) : fg_agI w μ μ := ⟨fun _ _ _ => rfl, fun _ _ => rfl⟩
theorem fg_agI_tr {w : Nat} {μ μ' μ'' : Nat → Nat → Int32} (h1 : fg_agI w μ μ') (h2 : fg_agI w μ' μ'') : fg_agI w μ μ'' := ⟨fun a ha j => (h2.1 a ha j).trans (h1.1 a ha j), fun j hj => (h2.2 j hj).trans (h1.2 j hj)⟩
theorem fg_agI_u {w : Nat} {μ : Nat → Nat → Int32} {x : Int32} : fg_agI w μ (fg_u2 μ 286 w x) := ⟨fun _ ha _ => fg_u2ne ha, fun j hj => fg_u2ns (by omega)⟩
theorem fg_agI_lt {w : Nat} {μ μ' : Nat → Nat → Int32} (h : fg_agI (w + 1) μ μ') : fg_agI w μ μ' := ⟨h.1, fun j hj => h.2 j (by omega)⟩
theorem fg_TWp.agI {μ μ' : Nat → Nat → Int32} {t w : Nat} {T : Nat → Nat} (ht : fg_isT t) (h : fg_TW μ t T) (e : fg_agI w μ μ') : fg_TW μ' t T := fg_TWp.lo ht h (fun a ha j => e.1 a (by omega) j)
theorem fg_pc_df1 {s n : Nat} (h : s.testBit n = true) : fg_pc (fg_df s (2 ^ n)) + 1 ≥ fg_pc s := by
  have hle : fg_le (2 ^ n) s := fg_bit_le.mpr h
  have h1 : ∀ w, fg_pcw w (fg_df s (2 ^ n)) + 1 ≥ fg_pcw w s ∧ (w ≤ n → fg_pcw w (fg_df s (2 ^ n)) = fg_pcw w s) := by
    intro w
    induction w with
    | zero => exact ⟨Nat.zero_le _, fun _ => rfl⟩
    | succ w ih =>
      have e : ∀ x, fg_pcw (w + 1) x = fg_pcw w x + (x.testBit w).toNat := fun _ => rfl
      rw [e, e, fg_df_bit]
      rcases Nat.decEq n w with q | q
      · rw [Nat.testBit_two_pow_of_ne q]
        cases s.testBit w
        · exact ⟨by simpa using ih.1, fun hw => by simpa using ih.2 (by omega)⟩
        · refine ⟨?_, fun hw => ?_⟩
          · have := ih.1; simp; omega
          · have := ih.2 (by omega); simp; omega
      · subst q
        rw [Nat.testBit_two_pow_self, h]
        have := ih.2 (Nat.le_refl _)
        refine ⟨by simp; omega, fun hw => absurd hw (by omega)⟩
  exact (h1 12).1
theorem ev_Fb_orderFrom {E : fg_E} {R : fg_T4} {t : Nat} {T : Nat → Nat} (ht : fg_isT t) (hok : fg_ok T) {kd : Nat} (hkd : kd < 3) : ∀ (k : Nat) {d : Nat} {μ : Nat → Nat → Int32} {Q : Option Value → fg_M → Prop} {m set w : Nat}, w + k = 5 → fg_TW μ t T → m < 2 ^ T 0 → set < 2 ^ T 0 → (fg_or T kd k m set = none → ∀ μ' : Nat → Nat → Int32, fg_agI w μ μ' → Q (some (.int (nI 0))) (μ', fg_rho R, 304)) → (∀ g, fg_or T kd k m set = some g → ∀ μ' : Nat → Nat → Int32, fg_agI w μ μ' → (∀ i, i < fg_pc set → μ' 286 (w + i) = nI (g i)) → Q (some (.int (nI 1))) (μ', fg_rho R, 304)) → fg_Ev E yy_Fb_orderFrom (d + k + 4) [.ref t, .int (nI m), .int (nI set), .int (nI kd), .int (nI w), .ref 286] (μ, fg_rho R, 304) 304 Q := by
  have hb0 := hok.1
  have hb1 := hok.2.1
  have hp := hok.p
  intro k
  induction k with
  | zero =>
    intro d μ Q m set w hw5 hT hm hset hN hY
    have hml := fg_p10 hm hok.1.2
    have hsl := fg_p10 hset hok.1.2
    refine fg_intro (by decide +kernel) (Nat.le_of_ble_eq_true rfl) (fg_okAs rfl) (Nat.le_refl _) ?_
    refine fg_iloadn (fg_ft (pc := 0) tb_Fb_orderFrom 0 rfl) rfl ?_
    refine fg_if_eqN (tgt := 12) (fg_ft (pc := 1) tb_Fb_orderFrom 1 rfl) (by decide) (by omega) (fun c1 => ?_) (fun c1 => ?_)
    · refine fg_iloadn (fg_ft (pc := 12) tb_Fb_orderFrom 6 rfl) rfl ?_
      refine fg_if_neN (tgt := 20) (fg_ft (pc := 13) tb_Fb_orderFrom 7 rfl) (by decide) (by omega) (fun c13 => ?_) (fun c13 => ?_)
      · refine fg_iconst (fg_ft (pc := 20) tb_Fb_orderFrom 10 rfl) ic_0 ?_
        exact fg_zret (fg_ft (pc := 21) tb_Fb_orderFrom 11 rfl) rfl (by decide) rfl (by first | exact absurd c1 c13 | exact hN (if_neg c1) μ (fg_agI_rf _ _))
      · refine fg_iconst (fg_ft (pc := 16) tb_Fb_orderFrom 8 rfl) ic_1 ?_
        refine fg_goto (tgt := 21) (fg_ft (pc := 17) tb_Fb_orderFrom 9 rfl) (by decide) ?_
        exact fg_zret (fg_ft (pc := 21) tb_Fb_orderFrom 11 rfl) rfl (by decide) rfl (by first | exact absurd c13 c1 | exact hY _ (if_pos c1) μ (fg_agI_rf _ _) (fun i hi => by rw [c1] at hi; exact absurd hi (by decide +revert)))
    · refine fg_iload (fg_ft (pc := 4) tb_Fb_orderFrom 2 rfl) rfl ?_
      refine fg_aload (fg_ft (pc := 6) tb_Fb_orderFrom 3 rfl) rfl ?_
      refine fg_alen (fg_ft (pc := 8) tb_Fb_orderFrom 4 rfl) ly_286 (by decide) (fg_lt ly_286 (by decide)) ?_
      refine fg_icmp_ltN (tgt := 22) (fg_ft (pc := 9) tb_Fb_orderFrom 5 rfl) (by decide) (by omega) (by decide) (fun c9 => (absurd c9 (by omega))) (fun c9 => ?_)
      refine fg_iloadn (fg_ft (pc := 12) tb_Fb_orderFrom 6 rfl) rfl ?_
      refine fg_if_neN (tgt := 20) (fg_ft (pc := 13) tb_Fb_orderFrom 7 rfl) (by decide) (by omega) (fun c13 => ?_) (fun c13 => ?_)
      · refine fg_iconst (fg_ft (pc := 20) tb_Fb_orderFrom 10 rfl) ic_0 ?_
        exact fg_zret (fg_ft (pc := 21) tb_Fb_orderFrom 11 rfl) rfl (by decide) rfl (by first | exact absurd c1 c13 | exact hN (if_neg c1) μ (fg_agI_rf _ _))
      · refine fg_iconst (fg_ft (pc := 16) tb_Fb_orderFrom 8 rfl) ic_1 ?_
        refine fg_goto (tgt := 21) (fg_ft (pc := 17) tb_Fb_orderFrom 9 rfl) (by decide) ?_
        exact fg_zret (fg_ft (pc := 21) tb_Fb_orderFrom 11 rfl) rfl (by decide) rfl (by first | exact absurd c13 c1 | exact hY _ (if_pos c1) μ (fg_agI_rf _ _) (fun i hi => by rw [c1] at hi; exact absurd hi (by decide +revert)))
  | succ k ih =>
    intro d μ Q m set w hw5 hT hm hset hN hY
    have hml := fg_p10 hm hok.1.2
    have hsl := fg_p10 hset hok.1.2
    have loop : ∀ (j n : Nat) (ν : Nat → Nat → Int32) (v7 : Value), n + j = T 0 → fg_agI w μ ν → fg_fs (fg_oF T kd (fg_or T kd k) m set) j n = fg_or T kd (k + 1) m set → fg_wp E yy_Fb_orderFrom (d + (k + 1) + 4) 304 304 Q 25 [.ref t, .int (nI m), .int (nI set), .int (nI kd), .int (nI w), .ref 286, .int (nI n), v7] [] (ν, fg_rho R, 304) := by
      intro j
      induction j with
      | zero =>
        intro n ν v7 hn hag hI
        have hTn := fg_TWp.agI ht hT hag
        refine fg_iload (fg_ft (pc := 25) tb_Fb_orderFrom 14 rfl) rfl ?_
        refine fg_aloadn (fg_ft (pc := 27) tb_Fb_orderFrom 15 rfl) rfl ?_
        refine fg_getV (v := (nI (T 0))) (fg_ft (pc := 28) tb_Fb_orderFrom 16 rfl) ff_Fb_100 (tT_lay ht) rfl (fg_lt (tT_lay ht) (by decide)) hTn.1.1 ?_
        refine fg_icmp_geN (tgt := 106) (fg_ft (pc := 31) tb_Fb_orderFrom 17 rfl) (by decide) (by omega) (by omega) (fun c31 => ?_) (fun c31 => (absurd c31 (by omega)))
        refine fg_iconst (fg_ft (pc := 106) tb_Fb_orderFrom 59 rfl) ic_0 ?_
        exact fg_zret (fg_ft (pc := 107) tb_Fb_orderFrom 60 rfl) rfl (by decide) rfl (hN hI.symm ν hag)
      | succ j jh =>
        intro n ν v7 hn hag hI
        have hTn := fg_TWp.agI ht hT hag
        refine fg_iload (fg_ft (pc := 25) tb_Fb_orderFrom 14 rfl) rfl ?_
        refine fg_aloadn (fg_ft (pc := 27) tb_Fb_orderFrom 15 rfl) rfl ?_
        refine fg_getV (v := (nI (T 0))) (fg_ft (pc := 28) tb_Fb_orderFrom 16 rfl) ff_Fb_100 (tT_lay ht) rfl (fg_lt (tT_lay ht) (by decide)) hTn.1.1 ?_
        refine fg_icmp_geN (tgt := 106) (fg_ft (pc := 31) tb_Fb_orderFrom 17 rfl) (by decide) (by omega) (by omega) (fun c31 => (absurd c31 (by omega))) (fun c31 => ?_)
        refine fg_iloadn (fg_ft (pc := 34) tb_Fb_orderFrom 18 rfl) rfl ?_
        refine fg_iload (fg_ft (pc := 35) tb_Fb_orderFrom 19 rfl) rfl ?_
        refine fg_callS (fg_ft (pc := 37) tb_Fb_orderFrom 20 rfl) cf_Fb_167 (as := [.int (nI set), .int (nI n)]) (st := []) rfl rfl (Nat.le_of_ble_eq_true rfl) (Nat.le_refl _) (Nat.le_refl _) (ev_Fb_isIn (s := set) (k := n) (by omega) (by omega) ?_)
        refine fg_ifB_eq (tgt := 100) (fg_ft (pc := 40) tb_Fb_orderFrom 21 rfl) (by decide) (fun c40 => ?_) (fun c40 => ?_)
        · refine fg_iincN (fg_ft (pc := 100) tb_Fb_orderFrom 57 rfl) rfl ic_1 rfl ?_
          refine fg_goto (tgt := 25) (fg_ft (pc := 103) tb_Fb_orderFrom 58 rfl) (by decide) ?_
          exact jh (n + 1) ν _ (by omega) hag (by rw [← hI]; exact (fg_fs_0 (fg_oF_b c40)).symm)
        · have hfF : fg_fgt T m n kd < 2 ^ T 0 := fg_fgt_lt hok hm
          have hfl : fg_fgt T m n kd < 2 ^ 10 := fg_p10 hfF hok.1.2
          have hml : m < 2 ^ 10 := fg_p10 hm hok.1.2
          refine fg_aloadn (fg_ft (pc := 43) tb_Fb_orderFrom 22 rfl) rfl ?_
          refine fg_iloadn (fg_ft (pc := 44) tb_Fb_orderFrom 23 rfl) rfl ?_
          refine fg_iload (fg_ft (pc := 45) tb_Fb_orderFrom 24 rfl) rfl ?_
          refine fg_iloadn (fg_ft (pc := 47) tb_Fb_orderFrom 25 rfl) rfl ?_
          refine fg_callV (fg_ft (pc := 48) tb_Fb_orderFrom 26 rfl) cf_Fb_257 (fg_isOf (tT_lay ht) rfl (fg_lt (tT_lay ht) (by decide))) (as := [.int (nI m), .int (nI n), .int (nI kd)]) (st := []) rfl rfl (Nat.le_of_ble_eq_true rfl) (Nat.le_refl _) (Nat.le_refl _) (ev_Town_forget ht hTn hok (m := m) (f := n) (kd := kd) (hm) (by omega) (by omega) ?_)
          refine fg_istore (fg_ft (pc := 51) tb_Fb_orderFrom 27 rfl) (Nat.le_of_ble_eq_true rfl) ?_
          refine fg_aload (fg_ft (pc := 53) tb_Fb_orderFrom 28 rfl) rfl ?_
          refine fg_iload (fg_ft (pc := 55) tb_Fb_orderFrom 29 rfl) rfl ?_
          refine fg_iload (fg_ft (pc := 57) tb_Fb_orderFrom 30 rfl) rfl ?_
          refine fg_iastN (fg_ft (pc := 59) tb_Fb_orderFrom 31 rfl) ly_286 (fg_lt ly_286 (by decide)) (by omega) ?_
          show fg_wp _ _ _ _ _ _ _ _ _ (fg_u2 ν 286 w (nI n), fg_rho R, 304)
          have hT3 : fg_TW (fg_u2 ν 286 w (nI n)) t T := fg_TWp.agI ht hTn (fg_agI_u (w := w))
          refine fg_aloadn (fg_ft (pc := 60) tb_Fb_orderFrom 32 rfl) rfl ?_
          refine fg_iload (fg_ft (pc := 61) tb_Fb_orderFrom 33 rfl) rfl ?_
          refine fg_callV (fg_ft (pc := 63) tb_Fb_orderFrom 34 rfl) cf_Fb_226 (fg_isOf (tT_lay ht) rfl (fg_lt (tT_lay ht) (by decide))) (as := [.int (nI (fg_fgt T m n kd))]) (st := []) rfl rfl (Nat.le_of_ble_eq_true rfl) (Nat.le_refl _) (Nat.le_refl _) (ev_Town_worthOf ht hT3 hok (m := (fg_fgt T m n kd)) (hfl) ?_)
          refine fg_aloadn (fg_ft (pc := 66) tb_Fb_orderFrom 35 rfl) rfl ?_
          refine fg_iloadn (fg_ft (pc := 67) tb_Fb_orderFrom 36 rfl) rfl ?_
          refine fg_callV (fg_ft (pc := 68) tb_Fb_orderFrom 37 rfl) cf_Fb_226 (fg_isOf (tT_lay ht) rfl (fg_lt (tT_lay ht) (by decide))) (as := [.int (nI m)]) (st := [.int (fg_w T (fg_fgt T m n kd))]) rfl rfl (Nat.le_of_ble_eq_true rfl) (Nat.le_refl _) (Nat.le_refl _) (ev_Town_worthOf ht hT3 hok (m := m) (hml) ?_)
          refine fg_icmp_lt (tgt := 100) (fg_ft (pc := 71) tb_Fb_orderFrom 38 rfl) (by decide) (fun c71 => ?_) (fun c71 => ?_)
          · refine fg_iincN (fg_ft (pc := 100) tb_Fb_orderFrom 57 rfl) rfl ic_1 rfl ?_
            refine fg_goto (tgt := 25) (fg_ft (pc := 103) tb_Fb_orderFrom 58 rfl) (by decide) ?_
            exact jh (n + 1) _ _ (by omega) (fg_agI_tr hag fg_agI_u) (by rw [← hI]; exact (fg_fs_0 (fg_oF_w c71)).symm)
          · refine fg_aloadn (fg_ft (pc := 74) tb_Fb_orderFrom 39 rfl) rfl ?_
            refine fg_iload (fg_ft (pc := 75) tb_Fb_orderFrom 40 rfl) rfl ?_
            refine fg_iloadn (fg_ft (pc := 77) tb_Fb_orderFrom 41 rfl) rfl ?_
            refine fg_iconst (fg_ft (pc := 78) tb_Fb_orderFrom 42 rfl) ic_1 ?_
            refine fg_iload (fg_ft (pc := 79) tb_Fb_orderFrom 43 rfl) rfl ?_
            refine fg_ishl1 (fg_ft (pc := 81) tb_Fb_orderFrom 44 rfl) (by omega) ?_
            refine fg_iconst (fg_ft (pc := 82) tb_Fb_orderFrom 45 rfl) ic_m1 ?_
            refine fg_ixor (fg_ft (pc := 83) tb_Fb_orderFrom 46 rfl) ?_
            refine fg_iandD (fg_ft (pc := 84) tb_Fb_orderFrom 47 rfl) ?_
            refine fg_iloadn (fg_ft (pc := 85) tb_Fb_orderFrom 48 rfl) rfl ?_
            refine fg_iload (fg_ft (pc := 86) tb_Fb_orderFrom 49 rfl) rfl ?_
            refine fg_iconst (fg_ft (pc := 88) tb_Fb_orderFrom 50 rfl) ic_1 ?_
            refine fg_iaddN (fg_ft (pc := 89) tb_Fb_orderFrom 51 rfl) ?_
            refine fg_aload (fg_ft (pc := 90) tb_Fb_orderFrom 52 rfl) rfl ?_
            refine fg_callS (fg_ft (pc := 92) tb_Fb_orderFrom 53 rfl) cf_Fb_297 (as := [.ref t, .int (nI (fg_fgt T m n kd)), .int (nI (fg_df set (2 ^ n))), .int (nI kd), .int (nI (w + 1)), .ref 286]) (st := []) rfl rfl (Nat.le_of_ble_eq_true rfl) (Nat.le_refl _) (Nat.le_refl _) (ih (w := w + 1) (by omega) hT3 hfF (fg_df_lt hset) (fun e5 μ5 ho5 => ?_) (fun g5 e5 μ5 ho5 hg5 => ?_))
            · refine fg_if_eq (tgt := 100) (fg_ft (pc := 95) tb_Fb_orderFrom 54 rfl) (by decide) (fun _ => ?_) (fun h => absurd h (by decide))
              refine fg_iincN (fg_ft (pc := 100) tb_Fb_orderFrom 57 rfl) rfl ic_1 rfl ?_
              refine fg_goto (tgt := 25) (fg_ft (pc := 103) tb_Fb_orderFrom 58 rfl) (by decide) ?_
              exact jh (n + 1) μ5 _ (by omega) (fg_agI_tr hag (fg_agI_tr fg_agI_u (fg_agI_lt ho5))) (by rw [← hI]; exact (fg_fs_0 (fg_oF_n e5)).symm)
            · refine fg_if_eq (tgt := 100) (fg_ft (pc := 95) tb_Fb_orderFrom 54 rfl) (by decide) (fun h => absurd h (by decide)) (fun _ => ?_)
              refine fg_iconst (fg_ft (pc := 98) tb_Fb_orderFrom 55 rfl) ic_1 ?_
              exact fg_zret (fg_ft (pc := 99) tb_Fb_orderFrom 56 rfl) rfl (by decide) rfl (hY _ (hI.symm.trans (fg_fs_1 (fg_oF_s c40 (by first | exact c71 | exact Int32.not_lt.mpr c71) e5))) μ5 (fg_agI_tr hag (fg_agI_tr fg_agI_u (fg_agI_lt ho5))) (fun i hi => by
  show μ5 286 (w + i) = nI (if i = 0 then n else g5 (i - 1))
  rcases Nat.eq_zero_or_pos i with z | z
  · rw [if_pos z, z]
    exact (ho5.2 w (Nat.lt_succ_self _)).trans fg_u2eq
  · rw [if_neg (by omega), show w + i = w + 1 + (i - 1) by omega]
    refine hg5 (i - 1) ?_
    have := fg_pc_df1 c40
    omega))
    refine fg_intro (by decide +kernel) (Nat.le_of_ble_eq_true rfl) (fg_okAs rfl) (Nat.le_refl _) ?_
    refine fg_iloadn (fg_ft (pc := 0) tb_Fb_orderFrom 0 rfl) rfl ?_
    refine fg_if_eqN (tgt := 12) (fg_ft (pc := 1) tb_Fb_orderFrom 1 rfl) (by decide) (by omega) (fun c1 => ?_) (fun c1 => ?_)
    · refine fg_iloadn (fg_ft (pc := 12) tb_Fb_orderFrom 6 rfl) rfl ?_
      refine fg_if_neN (tgt := 20) (fg_ft (pc := 13) tb_Fb_orderFrom 7 rfl) (by decide) (by omega) (fun c13 => ?_) (fun c13 => ?_)
      · refine fg_iconst (fg_ft (pc := 20) tb_Fb_orderFrom 10 rfl) ic_0 ?_
        exact fg_zret (fg_ft (pc := 21) tb_Fb_orderFrom 11 rfl) rfl (by decide) rfl (by first | exact absurd c1 c13 | exact absurd c13 c1 | exact hY _ (if_pos c1) μ (fg_agI_rf _ _) (fun i hi => by rw [c1] at hi; exact absurd hi (by decide +revert)))
      · refine fg_iconst (fg_ft (pc := 16) tb_Fb_orderFrom 8 rfl) ic_1 ?_
        refine fg_goto (tgt := 21) (fg_ft (pc := 17) tb_Fb_orderFrom 9 rfl) (by decide) ?_
        exact fg_zret (fg_ft (pc := 21) tb_Fb_orderFrom 11 rfl) rfl (by decide) rfl (by first | exact absurd c1 c13 | exact absurd c13 c1 | exact hY _ (if_pos c1) μ (fg_agI_rf _ _) (fun i hi => by rw [c1] at hi; exact absurd hi (by decide +revert)))
    · refine fg_iload (fg_ft (pc := 4) tb_Fb_orderFrom 2 rfl) rfl ?_
      refine fg_aload (fg_ft (pc := 6) tb_Fb_orderFrom 3 rfl) rfl ?_
      refine fg_alen (fg_ft (pc := 8) tb_Fb_orderFrom 4 rfl) ly_286 (by decide) (fg_lt ly_286 (by decide)) ?_
      refine fg_icmp_ltN (tgt := 22) (fg_ft (pc := 9) tb_Fb_orderFrom 5 rfl) (by decide) (by omega) (by decide) (fun c9 => ?_) (fun c9 => (absurd c9 (by omega)))
      refine fg_iconst (fg_ft (pc := 22) tb_Fb_orderFrom 12 rfl) ic_0 ?_
      refine fg_istore (fg_ft (pc := 23) tb_Fb_orderFrom 13 rfl) (Nat.le_of_ble_eq_true rfl) ?_
      exact loop (T 0) 0 μ _ (by omega) (fg_agI_rf _ _) (if_neg c1).symm
