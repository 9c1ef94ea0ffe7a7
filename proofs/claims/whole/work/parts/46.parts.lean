theorem fg_rl_skip2 {T : Nat → Nat} {m f : Nat} (h : ¬ m.testBit f = true) : ∀ b, b ≤ 3 → fg_rl T m (3 * f + b) = fg_rl T m (3 * f) := by
  have e : ∀ j, j < 3 → fg_rl T m (3 * f + j + 1) = fg_rl T m (3 * f + j) := fun j hj => by
    show (if m.testBit ((3 * f + j) / 3) = true ∧ _ then _ else _) = _
    rw [if_neg (fun hh => h (by rw [show (3 * f + j) / 3 = f by omega] at hh; exact hh.1))]
  intro b hb
  induction b with
  | zero => rfl
  | succ b ih =>
    rw [← ih (by omega)]
    exact e b (by omega)
theorem ev_Fb_relief0 {E : fg_E} {d : Nat} {μ : Nat → Nat → Int32} {R : fg_T4} {Q : Option Value → fg_M → Prop} {A : fg_Tl} (hA : fg_TL μ 101 A) {town day n person : Nat} (htown : town < 2 ^ 32) (hday : day < 2 ^ 32) (hn : n < 2 ^ 32) (hperson : person < 2 ^ 32) (hQ : ∀ (μ' : Nat → Nat → Int32) (R' : fg_T4), fg_agQ μ μ' → Q (some (.int (an_relief A town day n person 0))) (μ', fg_rho R', 304)) : fg_Ev E yy_Fb_relief (d + 12) [.ref 100, .int (nI town), .int (nI day), .int (nI n), .int (nI person), .int (nI 0)] (μ, fg_rho R, 304) 304 Q := by
  have ht2 := hA.2.2.2.1.2
  have hd3 := hA.2.2.2.2.1.2
  refine fg_intro (by decide +kernel) (Nat.le_of_ble_eq_true rfl) (fg_okAs rfl) (Nat.le_refl _) ?_
  refine fg_aloadn (fg_ft (pc := 0) tb_Fb_relief 0 rfl) rfl ?_
  refine fg_iloadn (fg_ft (pc := 1) tb_Fb_relief 1 rfl) rfl ?_
  refine fg_iloadn (fg_ft (pc := 2) tb_Fb_relief 2 rfl) rfl ?_
  refine fg_iloadn (fg_ft (pc := 3) tb_Fb_relief 3 rfl) rfl ?_
  refine fg_iload (fg_ft (pc := 4) tb_Fb_relief 4 rfl) rfl ?_
  refine fg_callV (fg_ft (pc := 6) tb_Fb_relief 5 rfl) cf_Fb_221 (fg_isOf ly_100 rfl (fg_lt ly_100 (by decide))) (as := [.int (nI town), .int (nI day), .int (nI n), .int (nI person)]) (st := []) rfl rfl (Nat.le_of_ble_eq_true rfl) (Nat.le_refl _) (Nat.le_refl _) (ev_Fb_findOne hA htown hday hn hperson (fun n4 μ1 R1 ho1 hR1 => ?_) (fun S lv y4 y5 μ1 ho1 hF1 => ?_))
  · refine fg_astoreN (fg_ft (pc := 9) tb_Fb_relief 6 rfl) (Nat.le_of_ble_eq_true rfl) ?_
    refine fg_aloadN (fg_ft (pc := 11) tb_Fb_relief 7 rfl) rfl ?_
    refine fg_ifnonnull_n (fg_ft (pc := 13) tb_Fb_relief 8 rfl) ?_
    refine fg_iconst (fg_ft (pc := 16) tb_Fb_relief 9 rfl) ic_m1 ?_
    exact fg_iret (fg_ft (pc := 17) tb_Fb_relief 10 rfl) rfl rfl (fg_q (hQ _ R1 (fg_agQ_F (Or.inl rfl) ho1)) (by unfold an_relief; rw [fg_g1_none n4]))
  · have ytc := fg_fnd_t y4
    have hok := (hA.2.2.2.2.2.1 town ytc).2
    have ht : fg_isT (104 + 14 * town) := fg_isT_told (by omega)
    have hT1 := fg_TL.town hA (Or.inl rfl) ytc ho1
    have hz := fg_fnd_ok hA y4
    have hb0 := hok.1
    have hb1 := hok.2.1
    have hp := hok.p
    have hm2 := hz.2.1 person y5
    have hm0 : S.2.1.1 person < 2 ^ A.ts town 0 := hm2.1
    have hmc : fg_clsd (A.ts town) (S.2.1.1 person) := hm2.2
    have hm10 : S.2.1.1 person < 1024 := by omega
    refine fg_astore (fg_ft (pc := 9) tb_Fb_relief 6 rfl) (Nat.le_of_ble_eq_true rfl) ?_
    refine fg_aload (fg_ft (pc := 11) tb_Fb_relief 7 rfl) rfl ?_
    refine fg_ifnonnull (tgt := 18) (fg_ft (pc := 13) tb_Fb_relief 8 rfl) (by decide) ?_
    refine fg_aload (fg_ft (pc := 18) tb_Fb_relief 11 rfl) rfl ?_
    refine fg_iload (fg_ft (pc := 20) tb_Fb_relief 12 rfl) rfl ?_
    refine fg_callV (fg_ft (pc := 22) tb_Fb_relief 13 rfl) cf_Fb_181 (fg_isOf ly_273 rfl (fg_lt ly_273 (by decide))) (as := [.int (nI person)]) (st := []) rfl rfl (Nat.le_of_ble_eq_true rfl) (Nat.le_refl _) (Nat.le_refl _) (ev_Folk_mind ht hT1 hok (Or.inl rfl) rfl hF1 hz (p := person) (by omega) ?_)
    refine fg_istore (fg_ft (pc := 25) tb_Fb_relief 14 rfl) (Nat.le_of_ble_eq_true rfl) ?_
    refine fg_iconst (fg_ft (pc := 27) tb_Fb_relief 15 rfl) ic_0 ?_
    refine fg_istore (fg_ft (pc := 28) tb_Fb_relief 16 rfl) (Nat.le_of_ble_eq_true rfl) ?_
    refine fg_iconst (fg_ft (pc := 30) tb_Fb_relief 17 rfl) ic_m1 ?_
    refine fg_istore (fg_ft (pc := 31) tb_Fb_relief 18 rfl) (Nat.le_of_ble_eq_true rfl) ?_
    refine fg_iconst (fg_ft (pc := 33) tb_Fb_relief 19 rfl) ic_0 ?_
    refine fg_istore (fg_ft (pc := 34) tb_Fb_relief 20 rfl) (Nat.le_of_ble_eq_true rfl) ?_
    refine fg_iload (fg_ft (pc := 36) tb_Fb_relief 21 rfl) rfl ?_
    refine fg_aload (fg_ft (pc := 38) tb_Fb_relief 22 rfl) rfl ?_
    refine fg_getR (fg_ft (pc := 40) tb_Fb_relief 23 rfl) ff_Fb_194 ly_273 rfl (fg_lt ly_273 (by decide)) rfl ?_
    refine fg_getV (v := (nI ((A.ts town) 0))) (fg_ft (pc := 43) tb_Fb_relief 24 rfl) ff_Fb_100 (tT_lay ht) rfl (fg_lt (tT_lay ht) (by decide)) hT1.1.1 ?_
    refine fg_icmp_geN (tgt := 121) (fg_ft (pc := 46) tb_Fb_relief 25 rfl) (by decide) (by decide) (by omega) (fun c46 => (absurd c46 (by omega))) (fun c46 => ?_)
    refine fg_iconst (fg_ft (pc := 49) tb_Fb_relief 26 rfl) ic_0 ?_
    refine fg_istore (fg_ft (pc := 50) tb_Fb_relief 27 rfl) (Nat.le_of_ble_eq_true rfl) ?_
    have loop : ∀ (m f b : Nat) (o : Option (Nat × Nat)) (x ans : Int32) (v12 : Value), 4 * (A.ts town 0 - f) + (3 - b) < m → f < A.ts town 0 → b ≤ 3 → fg_rl (A.ts town) (S.2.1.1 person) (3 * f + b) = (x, o) → fg_rlA 0 o = ans → fg_wp E yy_Fb_relief (d + 12) 304 304 Q 52 [.ref 100, .int (nI town), .int (nI day), .int (nI n), .int (nI person), .int (nI 0), .ref 273, .int (nI (S.2.1.1 person)), .int x, .int ans, .int (nI f), .int (nI b), v12] [] (μ1, fg_rho (some (104 + 14 * town), R.2.1, R.2.2.1, R.2.2.2), 304) := by
      intro m
      induction m with
      | zero => intro f b o x ans v12 h; exact absurd h (Nat.not_lt_zero _)
      | succ m ih =>
        intro f b o x ans v12 hm hf hb hx ha
        refine fg_iload (fg_ft (pc := 52) tb_Fb_relief 28 rfl) rfl ?_
        refine fg_iconst (fg_ft (pc := 54) tb_Fb_relief 29 rfl) ic_2 ?_
        refine fg_icmp_gtN (tgt := 115) (fg_ft (pc := 55) tb_Fb_relief 30 rfl) (by decide) (by omega) (by decide) (fun c55 => ?_) (fun c55 => ?_)
        · refine fg_iincN (fg_ft (pc := 115) tb_Fb_relief 55 rfl) rfl ic_1 rfl ?_
          refine fg_goto (tgt := 36) (fg_ft (pc := 118) tb_Fb_relief 56 rfl) (by decide) ?_
          refine fg_iload (fg_ft (pc := 36) tb_Fb_relief 21 rfl) rfl ?_
          refine fg_aload (fg_ft (pc := 38) tb_Fb_relief 22 rfl) rfl ?_
          refine fg_getR (fg_ft (pc := 40) tb_Fb_relief 23 rfl) ff_Fb_194 ly_273 rfl (fg_lt ly_273 (by decide)) rfl ?_
          refine fg_getV (v := (nI ((A.ts town) 0))) (fg_ft (pc := 43) tb_Fb_relief 24 rfl) ff_Fb_100 (tT_lay ht) rfl (fg_lt (tT_lay ht) (by decide)) hT1.1.1 ?_
          refine fg_icmp_geN (tgt := 121) (fg_ft (pc := 46) tb_Fb_relief 25 rfl) (by decide) (by omega) (by omega) (fun c46 => ?_) (fun c46 => ?_)
          · refine fg_iload (fg_ft (pc := 121) tb_Fb_relief 57 rfl) rfl ?_
            exact fg_iret (fg_ft (pc := 123) tb_Fb_relief 58 rfl) rfl rfl (fg_q (hQ _ (some (104 + 14 * town), R.2.1, R.2.2.1, R.2.2.2) (fg_agQ_F (Or.inl rfl) ho1)) (by unfold an_relief; rw [fg_g1_some y4 y5]; first | (rw [show 3 * A.ts town 0 = 3 * f + b by omega, hx]; exact ha) | (rw [show 3 * A.ts town 0 = 3 * f + 3 by omega, fg_rl_skip2 c65 3 (by decide), ← fg_rl_skip2 c65 b hb, hx]; exact ha)))
          · refine fg_iconst (fg_ft (pc := 49) tb_Fb_relief 26 rfl) ic_0 ?_
            refine fg_istore (fg_ft (pc := 50) tb_Fb_relief 27 rfl) (Nat.le_of_ble_eq_true rfl) ?_
            exact ih (f + 1) 0 o _ _ _ (by omega) (by omega) (by omega) (by first | (rw [show 3 * (f + 1) + 0 = 3 * f + b by omega]; exact hx) | (rw [show 3 * (f + 1) + 0 = 3 * f + 3 by omega, fg_rl_skip2 c65 3 (by decide), ← fg_rl_skip2 c65 b hb]; exact hx)) ha
        · refine fg_iload (fg_ft (pc := 58) tb_Fb_relief 31 rfl) rfl ?_
          refine fg_iload (fg_ft (pc := 60) tb_Fb_relief 32 rfl) rfl ?_
          refine fg_callS (fg_ft (pc := 62) tb_Fb_relief 33 rfl) cf_Fb_167 (as := [.int (nI (S.2.1.1 person)), .int (nI f)]) (st := []) rfl rfl (Nat.le_of_ble_eq_true rfl) (Nat.le_refl _) (Nat.le_refl _) (ev_Fb_isIn (s := (S.2.1.1 person)) (k := f) (by omega) (by omega) ?_)
          refine fg_ifB_eq (tgt := 115) (fg_ft (pc := 65) tb_Fb_relief 34 rfl) (by decide) (fun c65 => ?_) (fun c65 => ?_)
          · refine fg_iincN (fg_ft (pc := 115) tb_Fb_relief 55 rfl) rfl ic_1 rfl ?_
            refine fg_goto (tgt := 36) (fg_ft (pc := 118) tb_Fb_relief 56 rfl) (by decide) ?_
            refine fg_iload (fg_ft (pc := 36) tb_Fb_relief 21 rfl) rfl ?_
            refine fg_aload (fg_ft (pc := 38) tb_Fb_relief 22 rfl) rfl ?_
            refine fg_getR (fg_ft (pc := 40) tb_Fb_relief 23 rfl) ff_Fb_194 ly_273 rfl (fg_lt ly_273 (by decide)) rfl ?_
            refine fg_getV (v := (nI ((A.ts town) 0))) (fg_ft (pc := 43) tb_Fb_relief 24 rfl) ff_Fb_100 (tT_lay ht) rfl (fg_lt (tT_lay ht) (by decide)) hT1.1.1 ?_
            refine fg_icmp_geN (tgt := 121) (fg_ft (pc := 46) tb_Fb_relief 25 rfl) (by decide) (by omega) (by omega) (fun c46 => ?_) (fun c46 => ?_)
            · refine fg_iload (fg_ft (pc := 121) tb_Fb_relief 57 rfl) rfl ?_
              exact fg_iret (fg_ft (pc := 123) tb_Fb_relief 58 rfl) rfl rfl (fg_q (hQ _ (some (104 + 14 * town), R.2.1, R.2.2.1, R.2.2.2) (fg_agQ_F (Or.inl rfl) ho1)) (by unfold an_relief; rw [fg_g1_some y4 y5]; first | (rw [show 3 * A.ts town 0 = 3 * f + b by omega, hx]; exact ha) | (rw [show 3 * A.ts town 0 = 3 * f + 3 by omega, fg_rl_skip2 c65 3 (by decide), ← fg_rl_skip2 c65 b hb, hx]; exact ha)))
            · refine fg_iconst (fg_ft (pc := 49) tb_Fb_relief 26 rfl) ic_0 ?_
              refine fg_istore (fg_ft (pc := 50) tb_Fb_relief 27 rfl) (Nat.le_of_ble_eq_true rfl) ?_
              exact ih (f + 1) 0 o _ _ _ (by omega) (by omega) (by omega) (by first | (rw [show 3 * (f + 1) + 0 = 3 * f + b by omega]; exact hx) | (rw [show 3 * (f + 1) + 0 = 3 * f + 3 by omega, fg_rl_skip2 c65 3 (by decide), ← fg_rl_skip2 c65 b hb]; exact hx)) ha
          · refine fg_aload (fg_ft (pc := 68) tb_Fb_relief 35 rfl) rfl ?_
            refine fg_getR (fg_ft (pc := 70) tb_Fb_relief 36 rfl) ff_Fb_194 ly_273 rfl (fg_lt ly_273 (by decide)) rfl ?_
            refine fg_iload (fg_ft (pc := 73) tb_Fb_relief 37 rfl) rfl ?_
            refine fg_iload (fg_ft (pc := 75) tb_Fb_relief 38 rfl) rfl ?_
            refine fg_iload (fg_ft (pc := 77) tb_Fb_relief 39 rfl) rfl ?_
            refine fg_callV (fg_ft (pc := 79) tb_Fb_relief 40 rfl) cf_Fb_261 (fg_isOf (tT_lay ht) rfl (fg_lt (tT_lay ht) (by decide))) (as := [.int (nI (S.2.1.1 person)), .int (nI f), .int (nI b)]) (st := []) rfl rfl (Nat.le_of_ble_eq_true rfl) (Nat.le_refl _) (Nat.le_refl _) (ev_Town_gainOf ht hT1 hok (m := (S.2.1.1 person)) (f := f) (kd := b) (hm0) (by omega) (by omega) ?_)
            refine fg_istore (fg_ft (pc := 82) tb_Fb_relief 41 rfl) (Nat.le_of_ble_eq_true rfl) ?_
            refine fg_iload (fg_ft (pc := 84) tb_Fb_relief 42 rfl) rfl ?_
            refine fg_iload (fg_ft (pc := 86) tb_Fb_relief 43 rfl) rfl ?_
            refine fg_icmp_le (tgt := 109) (fg_ft (pc := 88) tb_Fb_relief 44 rfl) (by decide) (fun c88 => ?_) (fun c88 => ?_)
            · refine fg_iincN (fg_ft (pc := 109) tb_Fb_relief 53 rfl) rfl ic_1 rfl ?_
              refine fg_goto (tgt := 52) (fg_ft (pc := 112) tb_Fb_relief 54 rfl) (by decide) ?_
              exact ih f (b + 1) o _ _ _ (by omega) hf (by omega) (by rw [show 3 * f + (b + 1) = 3 * f + b + 1 from rfl]; unfold fg_rl; rw [show (3 * f + b) / 3 = f by omega, show (3 * f + b) % 3 = b by omega, hx]; rw [if_neg (fun hh => absurd c88 (Int32.not_le.mpr hh.2))]) ha
            · refine fg_iload (fg_ft (pc := 91) tb_Fb_relief 45 rfl) rfl ?_
              refine fg_istore (fg_ft (pc := 93) tb_Fb_relief 46 rfl) (Nat.le_of_ble_eq_true rfl) ?_
              refine fg_iload (fg_ft (pc := 95) tb_Fb_relief 47 rfl) rfl ?_
              refine fg_if_eq (tgt := 105) (fg_ft (pc := 97) tb_Fb_relief 48 rfl) (by decide) (fun _ => ?_) (fun h => absurd h (by decide))
              refine fg_iload (fg_ft (pc := 105) tb_Fb_relief 51 rfl) rfl ?_
              refine fg_istore (fg_ft (pc := 107) tb_Fb_relief 52 rfl) (Nat.le_of_ble_eq_true rfl) ?_
              refine fg_iincN (fg_ft (pc := 109) tb_Fb_relief 53 rfl) rfl ic_1 rfl ?_
              refine fg_goto (tgt := 52) (fg_ft (pc := 112) tb_Fb_relief 54 rfl) (by decide) ?_
              exact ih f (b + 1) (some (f, b)) _ _ _ (by omega) hf (by omega) (by rw [show 3 * f + (b + 1) = 3 * f + b + 1 from rfl]; unfold fg_rl; rw [show (3 * f + b) / 3 = f by omega, show (3 * f + b) % 3 = b by omega, hx]; rw [if_pos ⟨c65, Int32.not_le.mp c88⟩]) rfl
    exact loop (4 * A.ts town 0 + 4) 0 0 none _ _ _ (by omega) (by omega) (by omega) rfl rfl
theorem ev_Fb_relief1 {E : fg_E} {d : Nat} {μ : Nat → Nat → Int32} {R : fg_T4} {Q : Option Value → fg_M → Prop} {A : fg_Tl} (hA : fg_TL μ 101 A) {town day n person : Nat} (htown : town < 2 ^ 32) (hday : day < 2 ^ 32) (hn : n < 2 ^ 32) (hperson : person < 2 ^ 32) (hQ : ∀ (μ' : Nat → Nat → Int32) (R' : fg_T4), fg_agQ μ μ' → Q (some (.int (an_relief A town day n person 1))) (μ', fg_rho R', 304)) : fg_Ev E yy_Fb_relief (d + 12) [.ref 100, .int (nI town), .int (nI day), .int (nI n), .int (nI person), .int (nI 1)] (μ, fg_rho R, 304) 304 Q := by
  have ht2 := hA.2.2.2.1.2
  have hd3 := hA.2.2.2.2.1.2
  refine fg_intro (by decide +kernel) (Nat.le_of_ble_eq_true rfl) (fg_okAs rfl) (Nat.le_refl _) ?_
  refine fg_aloadn (fg_ft (pc := 0) tb_Fb_relief 0 rfl) rfl ?_
  refine fg_iloadn (fg_ft (pc := 1) tb_Fb_relief 1 rfl) rfl ?_
  refine fg_iloadn (fg_ft (pc := 2) tb_Fb_relief 2 rfl) rfl ?_
  refine fg_iloadn (fg_ft (pc := 3) tb_Fb_relief 3 rfl) rfl ?_
  refine fg_iload (fg_ft (pc := 4) tb_Fb_relief 4 rfl) rfl ?_
  refine fg_callV (fg_ft (pc := 6) tb_Fb_relief 5 rfl) cf_Fb_221 (fg_isOf ly_100 rfl (fg_lt ly_100 (by decide))) (as := [.int (nI town), .int (nI day), .int (nI n), .int (nI person)]) (st := []) rfl rfl (Nat.le_of_ble_eq_true rfl) (Nat.le_refl _) (Nat.le_refl _) (ev_Fb_findOne hA htown hday hn hperson (fun n4 μ1 R1 ho1 hR1 => ?_) (fun S lv y4 y5 μ1 ho1 hF1 => ?_))
  · refine fg_astoreN (fg_ft (pc := 9) tb_Fb_relief 6 rfl) (Nat.le_of_ble_eq_true rfl) ?_
    refine fg_aloadN (fg_ft (pc := 11) tb_Fb_relief 7 rfl) rfl ?_
    refine fg_ifnonnull_n (fg_ft (pc := 13) tb_Fb_relief 8 rfl) ?_
    refine fg_iconst (fg_ft (pc := 16) tb_Fb_relief 9 rfl) ic_m1 ?_
    exact fg_iret (fg_ft (pc := 17) tb_Fb_relief 10 rfl) rfl rfl (fg_q (hQ _ R1 (fg_agQ_F (Or.inl rfl) ho1)) (by unfold an_relief; rw [fg_g1_none n4]))
  · have ytc := fg_fnd_t y4
    have hok := (hA.2.2.2.2.2.1 town ytc).2
    have ht : fg_isT (104 + 14 * town) := fg_isT_told (by omega)
    have hT1 := fg_TL.town hA (Or.inl rfl) ytc ho1
    have hz := fg_fnd_ok hA y4
    have hb0 := hok.1
    have hb1 := hok.2.1
    have hp := hok.p
    have hm2 := hz.2.1 person y5
    have hm0 : S.2.1.1 person < 2 ^ A.ts town 0 := hm2.1
    have hmc : fg_clsd (A.ts town) (S.2.1.1 person) := hm2.2
    have hm10 : S.2.1.1 person < 1024 := by omega
    refine fg_astore (fg_ft (pc := 9) tb_Fb_relief 6 rfl) (Nat.le_of_ble_eq_true rfl) ?_
    refine fg_aload (fg_ft (pc := 11) tb_Fb_relief 7 rfl) rfl ?_
    refine fg_ifnonnull (tgt := 18) (fg_ft (pc := 13) tb_Fb_relief 8 rfl) (by decide) ?_
    refine fg_aload (fg_ft (pc := 18) tb_Fb_relief 11 rfl) rfl ?_
    refine fg_iload (fg_ft (pc := 20) tb_Fb_relief 12 rfl) rfl ?_
    refine fg_callV (fg_ft (pc := 22) tb_Fb_relief 13 rfl) cf_Fb_181 (fg_isOf ly_273 rfl (fg_lt ly_273 (by decide))) (as := [.int (nI person)]) (st := []) rfl rfl (Nat.le_of_ble_eq_true rfl) (Nat.le_refl _) (Nat.le_refl _) (ev_Folk_mind ht hT1 hok (Or.inl rfl) rfl hF1 hz (p := person) (by omega) ?_)
    refine fg_istore (fg_ft (pc := 25) tb_Fb_relief 14 rfl) (Nat.le_of_ble_eq_true rfl) ?_
    refine fg_iconst (fg_ft (pc := 27) tb_Fb_relief 15 rfl) ic_0 ?_
    refine fg_istore (fg_ft (pc := 28) tb_Fb_relief 16 rfl) (Nat.le_of_ble_eq_true rfl) ?_
    refine fg_iconst (fg_ft (pc := 30) tb_Fb_relief 17 rfl) ic_m1 ?_
    refine fg_istore (fg_ft (pc := 31) tb_Fb_relief 18 rfl) (Nat.le_of_ble_eq_true rfl) ?_
    refine fg_iconst (fg_ft (pc := 33) tb_Fb_relief 19 rfl) ic_0 ?_
    refine fg_istore (fg_ft (pc := 34) tb_Fb_relief 20 rfl) (Nat.le_of_ble_eq_true rfl) ?_
    refine fg_iload (fg_ft (pc := 36) tb_Fb_relief 21 rfl) rfl ?_
    refine fg_aload (fg_ft (pc := 38) tb_Fb_relief 22 rfl) rfl ?_
    refine fg_getR (fg_ft (pc := 40) tb_Fb_relief 23 rfl) ff_Fb_194 ly_273 rfl (fg_lt ly_273 (by decide)) rfl ?_
    refine fg_getV (v := (nI ((A.ts town) 0))) (fg_ft (pc := 43) tb_Fb_relief 24 rfl) ff_Fb_100 (tT_lay ht) rfl (fg_lt (tT_lay ht) (by decide)) hT1.1.1 ?_
    refine fg_icmp_geN (tgt := 121) (fg_ft (pc := 46) tb_Fb_relief 25 rfl) (by decide) (by decide) (by omega) (fun c46 => (absurd c46 (by omega))) (fun c46 => ?_)
    refine fg_iconst (fg_ft (pc := 49) tb_Fb_relief 26 rfl) ic_0 ?_
    refine fg_istore (fg_ft (pc := 50) tb_Fb_relief 27 rfl) (Nat.le_of_ble_eq_true rfl) ?_
    have loop : ∀ (m f b : Nat) (o : Option (Nat × Nat)) (x ans : Int32) (v12 : Value), 4 * (A.ts town 0 - f) + (3 - b) < m → f < A.ts town 0 → b ≤ 3 → fg_rl (A.ts town) (S.2.1.1 person) (3 * f + b) = (x, o) → fg_rlA 1 o = ans → fg_wp E yy_Fb_relief (d + 12) 304 304 Q 52 [.ref 100, .int (nI town), .int (nI day), .int (nI n), .int (nI person), .int (nI 1), .ref 273, .int (nI (S.2.1.1 person)), .int x, .int ans, .int (nI f), .int (nI b), v12] [] (μ1, fg_rho (some (104 + 14 * town), R.2.1, R.2.2.1, R.2.2.2), 304) := by
      intro m
      induction m with
      | zero => intro f b o x ans v12 h; exact absurd h (Nat.not_lt_zero _)
      | succ m ih =>
        intro f b o x ans v12 hm hf hb hx ha
        refine fg_iload (fg_ft (pc := 52) tb_Fb_relief 28 rfl) rfl ?_
        refine fg_iconst (fg_ft (pc := 54) tb_Fb_relief 29 rfl) ic_2 ?_
        refine fg_icmp_gtN (tgt := 115) (fg_ft (pc := 55) tb_Fb_relief 30 rfl) (by decide) (by omega) (by decide) (fun c55 => ?_) (fun c55 => ?_)
        · refine fg_iincN (fg_ft (pc := 115) tb_Fb_relief 55 rfl) rfl ic_1 rfl ?_
          refine fg_goto (tgt := 36) (fg_ft (pc := 118) tb_Fb_relief 56 rfl) (by decide) ?_
          refine fg_iload (fg_ft (pc := 36) tb_Fb_relief 21 rfl) rfl ?_
          refine fg_aload (fg_ft (pc := 38) tb_Fb_relief 22 rfl) rfl ?_
          refine fg_getR (fg_ft (pc := 40) tb_Fb_relief 23 rfl) ff_Fb_194 ly_273 rfl (fg_lt ly_273 (by decide)) rfl ?_
          refine fg_getV (v := (nI ((A.ts town) 0))) (fg_ft (pc := 43) tb_Fb_relief 24 rfl) ff_Fb_100 (tT_lay ht) rfl (fg_lt (tT_lay ht) (by decide)) hT1.1.1 ?_
          refine fg_icmp_geN (tgt := 121) (fg_ft (pc := 46) tb_Fb_relief 25 rfl) (by decide) (by omega) (by omega) (fun c46 => ?_) (fun c46 => ?_)
          · refine fg_iload (fg_ft (pc := 121) tb_Fb_relief 57 rfl) rfl ?_
            exact fg_iret (fg_ft (pc := 123) tb_Fb_relief 58 rfl) rfl rfl (fg_q (hQ _ (some (104 + 14 * town), R.2.1, R.2.2.1, R.2.2.2) (fg_agQ_F (Or.inl rfl) ho1)) (by unfold an_relief; rw [fg_g1_some y4 y5]; first | (rw [show 3 * A.ts town 0 = 3 * f + b by omega, hx]; exact ha) | (rw [show 3 * A.ts town 0 = 3 * f + 3 by omega, fg_rl_skip2 c65 3 (by decide), ← fg_rl_skip2 c65 b hb, hx]; exact ha)))
          · refine fg_iconst (fg_ft (pc := 49) tb_Fb_relief 26 rfl) ic_0 ?_
            refine fg_istore (fg_ft (pc := 50) tb_Fb_relief 27 rfl) (Nat.le_of_ble_eq_true rfl) ?_
            exact ih (f + 1) 0 o _ _ _ (by omega) (by omega) (by omega) (by first | (rw [show 3 * (f + 1) + 0 = 3 * f + b by omega]; exact hx) | (rw [show 3 * (f + 1) + 0 = 3 * f + 3 by omega, fg_rl_skip2 c65 3 (by decide), ← fg_rl_skip2 c65 b hb]; exact hx)) ha
        · refine fg_iload (fg_ft (pc := 58) tb_Fb_relief 31 rfl) rfl ?_
          refine fg_iload (fg_ft (pc := 60) tb_Fb_relief 32 rfl) rfl ?_
          refine fg_callS (fg_ft (pc := 62) tb_Fb_relief 33 rfl) cf_Fb_167 (as := [.int (nI (S.2.1.1 person)), .int (nI f)]) (st := []) rfl rfl (Nat.le_of_ble_eq_true rfl) (Nat.le_refl _) (Nat.le_refl _) (ev_Fb_isIn (s := (S.2.1.1 person)) (k := f) (by omega) (by omega) ?_)
          refine fg_ifB_eq (tgt := 115) (fg_ft (pc := 65) tb_Fb_relief 34 rfl) (by decide) (fun c65 => ?_) (fun c65 => ?_)
          · refine fg_iincN (fg_ft (pc := 115) tb_Fb_relief 55 rfl) rfl ic_1 rfl ?_
            refine fg_goto (tgt := 36) (fg_ft (pc := 118) tb_Fb_relief 56 rfl) (by decide) ?_
            refine fg_iload (fg_ft (pc := 36) tb_Fb_relief 21 rfl) rfl ?_
            refine fg_aload (fg_ft (pc := 38) tb_Fb_relief 22 rfl) rfl ?_
            refine fg_getR (fg_ft (pc := 40) tb_Fb_relief 23 rfl) ff_Fb_194 ly_273 rfl (fg_lt ly_273 (by decide)) rfl ?_
            refine fg_getV (v := (nI ((A.ts town) 0))) (fg_ft (pc := 43) tb_Fb_relief 24 rfl) ff_Fb_100 (tT_lay ht) rfl (fg_lt (tT_lay ht) (by decide)) hT1.1.1 ?_
            refine fg_icmp_geN (tgt := 121) (fg_ft (pc := 46) tb_Fb_relief 25 rfl) (by decide) (by omega) (by omega) (fun c46 => ?_) (fun c46 => ?_)
            · refine fg_iload (fg_ft (pc := 121) tb_Fb_relief 57 rfl) rfl ?_
              exact fg_iret (fg_ft (pc := 123) tb_Fb_relief 58 rfl) rfl rfl (fg_q (hQ _ (some (104 + 14 * town), R.2.1, R.2.2.1, R.2.2.2) (fg_agQ_F (Or.inl rfl) ho1)) (by unfold an_relief; rw [fg_g1_some y4 y5]; first | (rw [show 3 * A.ts town 0 = 3 * f + b by omega, hx]; exact ha) | (rw [show 3 * A.ts town 0 = 3 * f + 3 by omega, fg_rl_skip2 c65 3 (by decide), ← fg_rl_skip2 c65 b hb, hx]; exact ha)))
            · refine fg_iconst (fg_ft (pc := 49) tb_Fb_relief 26 rfl) ic_0 ?_
              refine fg_istore (fg_ft (pc := 50) tb_Fb_relief 27 rfl) (Nat.le_of_ble_eq_true rfl) ?_
              exact ih (f + 1) 0 o _ _ _ (by omega) (by omega) (by omega) (by first | (rw [show 3 * (f + 1) + 0 = 3 * f + b by omega]; exact hx) | (rw [show 3 * (f + 1) + 0 = 3 * f + 3 by omega, fg_rl_skip2 c65 3 (by decide), ← fg_rl_skip2 c65 b hb]; exact hx)) ha
          · refine fg_aload (fg_ft (pc := 68) tb_Fb_relief 35 rfl) rfl ?_
            refine fg_getR (fg_ft (pc := 70) tb_Fb_relief 36 rfl) ff_Fb_194 ly_273 rfl (fg_lt ly_273 (by decide)) rfl ?_
            refine fg_iload (fg_ft (pc := 73) tb_Fb_relief 37 rfl) rfl ?_
            refine fg_iload (fg_ft (pc := 75) tb_Fb_relief 38 rfl) rfl ?_
            refine fg_iload (fg_ft (pc := 77) tb_Fb_relief 39 rfl) rfl ?_
            refine fg_callV (fg_ft (pc := 79) tb_Fb_relief 40 rfl) cf_Fb_261 (fg_isOf (tT_lay ht) rfl (fg_lt (tT_lay ht) (by decide))) (as := [.int (nI (S.2.1.1 person)), .int (nI f), .int (nI b)]) (st := []) rfl rfl (Nat.le_of_ble_eq_true rfl) (Nat.le_refl _) (Nat.le_refl _) (ev_Town_gainOf ht hT1 hok (m := (S.2.1.1 person)) (f := f) (kd := b) (hm0) (by omega) (by omega) ?_)
            refine fg_istore (fg_ft (pc := 82) tb_Fb_relief 41 rfl) (Nat.le_of_ble_eq_true rfl) ?_
            refine fg_iload (fg_ft (pc := 84) tb_Fb_relief 42 rfl) rfl ?_
            refine fg_iload (fg_ft (pc := 86) tb_Fb_relief 43 rfl) rfl ?_
            refine fg_icmp_le (tgt := 109) (fg_ft (pc := 88) tb_Fb_relief 44 rfl) (by decide) (fun c88 => ?_) (fun c88 => ?_)
            · refine fg_iincN (fg_ft (pc := 109) tb_Fb_relief 53 rfl) rfl ic_1 rfl ?_
              refine fg_goto (tgt := 52) (fg_ft (pc := 112) tb_Fb_relief 54 rfl) (by decide) ?_
              exact ih f (b + 1) o _ _ _ (by omega) hf (by omega) (by rw [show 3 * f + (b + 1) = 3 * f + b + 1 from rfl]; unfold fg_rl; rw [show (3 * f + b) / 3 = f by omega, show (3 * f + b) % 3 = b by omega, hx]; rw [if_neg (fun hh => absurd c88 (Int32.not_le.mpr hh.2))]) ha
            · refine fg_iload (fg_ft (pc := 91) tb_Fb_relief 45 rfl) rfl ?_
              refine fg_istore (fg_ft (pc := 93) tb_Fb_relief 46 rfl) (Nat.le_of_ble_eq_true rfl) ?_
              refine fg_iload (fg_ft (pc := 95) tb_Fb_relief 47 rfl) rfl ?_
              refine fg_if_eq (tgt := 105) (fg_ft (pc := 97) tb_Fb_relief 48 rfl) (by decide) (fun h => absurd h (by decide)) (fun _ => ?_)
              refine fg_iload (fg_ft (pc := 100) tb_Fb_relief 49 rfl) rfl ?_
              refine fg_goto (tgt := 107) (fg_ft (pc := 102) tb_Fb_relief 50 rfl) (by decide) ?_
              refine fg_istore (fg_ft (pc := 107) tb_Fb_relief 52 rfl) (Nat.le_of_ble_eq_true rfl) ?_
              refine fg_iincN (fg_ft (pc := 109) tb_Fb_relief 53 rfl) rfl ic_1 rfl ?_
              refine fg_goto (tgt := 52) (fg_ft (pc := 112) tb_Fb_relief 54 rfl) (by decide) ?_
              exact ih f (b + 1) (some (f, b)) _ _ _ (by omega) hf (by omega) (by rw [show 3 * f + (b + 1) = 3 * f + b + 1 from rfl]; unfold fg_rl; rw [show (3 * f + b) / 3 = f by omega, show (3 * f + b) % 3 = b by omega, hx]; rw [if_pos ⟨c65, Int32.not_le.mp c88⟩]) rfl
    exact loop (4 * A.ts town 0 + 4) 0 0 none _ _ _ (by omega) (by omega) (by omega) rfl rfl
theorem ev_Fb_trial {E : fg_E} {d : Nat} {μ : Nat → Nat → Int32} {R : fg_T4} {Q : Option Value → fg_M → Prop} {A : fg_Tl} (hA : fg_TL μ 101 A) {town day n person facts fact : Nat} (htown : town < 2 ^ 32) (hday : day < 2 ^ 32) (hn : n < 2 ^ 32) (hperson : person < 2 ^ 32) (hfacts : facts < 2 ^ 32) (hfact : fact < 2 ^ 32) (hQ : ∀ (μ' : Nat → Nat → Int32) (R' : fg_T4), fg_agQ μ μ' → Q (some (.int (an_trial A town day n person facts fact))) (μ', fg_rho R', 304)) : fg_Ev E yy_Fb_trial (d + 12) [.ref 100, .int (nI town), .int (nI day), .int (nI n), .int (nI person), .int (nI facts), .int (nI fact)] (μ, fg_rho R, 304) 304 Q := by
  have ht2 := hA.2.2.2.1.2
  have hd3 := hA.2.2.2.2.1.2
  refine fg_intro (by decide +kernel) (Nat.le_of_ble_eq_true rfl) (fg_okAs rfl) (Nat.le_refl _) ?_
  refine fg_aloadn (fg_ft (pc := 0) tb_Fb_trial 0 rfl) rfl ?_
  refine fg_iloadn (fg_ft (pc := 1) tb_Fb_trial 1 rfl) rfl ?_
  refine fg_iloadn (fg_ft (pc := 2) tb_Fb_trial 2 rfl) rfl ?_
  refine fg_iloadn (fg_ft (pc := 3) tb_Fb_trial 3 rfl) rfl ?_
  refine fg_iload (fg_ft (pc := 4) tb_Fb_trial 4 rfl) rfl ?_
  refine fg_callV (fg_ft (pc := 6) tb_Fb_trial 5 rfl) cf_Fb_221 (fg_isOf ly_100 rfl (fg_lt ly_100 (by decide))) (as := [.int (nI town), .int (nI day), .int (nI n), .int (nI person)]) (st := []) rfl rfl (Nat.le_of_ble_eq_true rfl) (Nat.le_refl _) (Nat.le_refl _) (ev_Fb_findOne hA htown hday hn hperson (fun n4 μ1 R1 ho1 hR1 => ?_) (fun S lv y4 y5 μ1 ho1 hF1 => ?_))
  · refine fg_astoreN (fg_ft (pc := 9) tb_Fb_trial 6 rfl) (Nat.le_of_ble_eq_true rfl) ?_
    refine fg_aloadN (fg_ft (pc := 11) tb_Fb_trial 7 rfl) rfl ?_
    refine fg_ifnull (tgt := 42) (fg_ft (pc := 13) tb_Fb_trial 8 rfl) (by decide) ?_
    refine fg_iconst (fg_ft (pc := 42) tb_Fb_trial 19 rfl) ic_m1 ?_
    exact fg_iret (fg_ft (pc := 43) tb_Fb_trial 20 rfl) rfl rfl (fg_q (hQ _ R1 (fg_agQ_F (Or.inl rfl) ho1)) (by unfold an_trial; rw [fg_g1_none n4] <;> ((repeat (first | rw [if_pos (by assumption)] | rw [if_neg (by assumption)] | rw [if_pos (by omega)] | rw [if_neg (by omega)] | rw [if_pos (by constructor <;> assumption)] | rw [if_neg (by intro hh; exact absurd hh.1 (by assumption))] | rw [if_neg (by intro hh; exact absurd hh.2 (by assumption))])); (try rfl))))
  · have ytc := fg_fnd_t y4
    have hok := (hA.2.2.2.2.2.1 town ytc).2
    have ht : fg_isT (104 + 14 * town) := fg_isT_told (by omega)
    have hT1 := fg_TL.town hA (Or.inl rfl) ytc ho1
    have hz := fg_fnd_ok hA y4
    have hb0 := hok.1
    have hb1 := hok.2.1
    have hp := hok.p
    have hm2 := hz.2.1 person y5
    have hm0 : S.2.1.1 person < 2 ^ A.ts town 0 := hm2.1
    have hmc : fg_clsd (A.ts town) (S.2.1.1 person) := hm2.2
    have hm10 : S.2.1.1 person < 1024 := by omega
    refine fg_astore (fg_ft (pc := 9) tb_Fb_trial 6 rfl) (Nat.le_of_ble_eq_true rfl) ?_
    refine fg_aload (fg_ft (pc := 11) tb_Fb_trial 7 rfl) rfl ?_
    refine fg_ifnull_r (fg_ft (pc := 13) tb_Fb_trial 8 rfl) ?_
    refine fg_aload (fg_ft (pc := 16) tb_Fb_trial 9 rfl) rfl ?_
    refine fg_getR (fg_ft (pc := 18) tb_Fb_trial 10 rfl) ff_Fb_194 ly_273 rfl (fg_lt ly_273 (by decide)) rfl ?_
    refine fg_iload (fg_ft (pc := 21) tb_Fb_trial 11 rfl) rfl ?_
    refine fg_callV (fg_ft (pc := 23) tb_Fb_trial 12 rfl) cf_Fb_156 (fg_isOf (tT_lay ht) rfl (fg_lt (tT_lay ht) (by decide))) (as := [.int (nI facts)]) (st := []) rfl rfl (Nat.le_of_ble_eq_true rfl) (Nat.le_refl _) (Nat.le_refl _) (ev_Town_hasFactsX ht hT1 hok (k := facts) hfacts ?_)
    refine fg_ifB_eq (tgt := 42) (fg_ft (pc := 26) tb_Fb_trial 13 rfl) (by decide) (fun c26 => ?_) (fun c26 => ?_)
    · refine fg_iconst (fg_ft (pc := 42) tb_Fb_trial 19 rfl) ic_m1 ?_
      exact fg_iret (fg_ft (pc := 43) tb_Fb_trial 20 rfl) rfl rfl (fg_q (hQ _ (some (104 + 14 * town), R.2.1, R.2.2.1, R.2.2.2) (fg_agQ_F (Or.inl rfl) ho1)) (by unfold an_trial; rw [fg_g1_some y4 y5] <;> ((repeat (first | rw [if_pos (by assumption)] | rw [if_neg (by assumption)] | rw [if_pos (by omega)] | rw [if_neg (by omega)] | rw [if_pos (by constructor <;> assumption)] | rw [if_neg (by intro hh; exact absurd hh.1 (by assumption))] | rw [if_neg (by intro hh; exact absurd hh.2 (by assumption))])); (try rfl))))
    · refine fg_aload (fg_ft (pc := 29) tb_Fb_trial 14 rfl) rfl ?_
      refine fg_getR (fg_ft (pc := 31) tb_Fb_trial 15 rfl) ff_Fb_194 ly_273 rfl (fg_lt ly_273 (by decide)) rfl ?_
      refine fg_iload (fg_ft (pc := 34) tb_Fb_trial 16 rfl) rfl ?_
      refine fg_callV (fg_ft (pc := 36) tb_Fb_trial 17 rfl) cf_Fb_164 (fg_isOf (tT_lay ht) rfl (fg_lt (tT_lay ht) (by decide))) (as := [.int (nI fact)]) (st := []) rfl rfl (Nat.le_of_ble_eq_true rfl) (Nat.le_refl _) (Nat.le_refl _) (ev_Town_hasFactX ht hT1 hok (k := fact) hfact ?_)
      refine fg_ifB_ne (tgt := 44) (fg_ft (pc := 39) tb_Fb_trial 18 rfl) (by decide) (fun c39 => ?_) (fun c39 => ?_)
      · refine fg_aload (fg_ft (pc := 44) tb_Fb_trial 21 rfl) rfl ?_
        refine fg_iload (fg_ft (pc := 46) tb_Fb_trial 22 rfl) rfl ?_
        refine fg_callV (fg_ft (pc := 48) tb_Fb_trial 23 rfl) cf_Fb_181 (fg_isOf ly_273 rfl (fg_lt ly_273 (by decide))) (as := [.int (nI person)]) (st := []) rfl rfl (Nat.le_of_ble_eq_true rfl) (Nat.le_refl _) (Nat.le_refl _) (ev_Folk_mind ht hT1 hok (Or.inl rfl) rfl hF1 hz (p := person) (by omega) ?_)
        refine fg_istore (fg_ft (pc := 51) tb_Fb_trial 24 rfl) (Nat.le_of_ble_eq_true rfl) ?_
        refine fg_iconst (fg_ft (pc := 53) tb_Fb_trial 25 rfl) ic_0 ?_
        refine fg_istore (fg_ft (pc := 54) tb_Fb_trial 26 rfl) (Nat.le_of_ble_eq_true rfl) ?_
        refine fg_iconst (fg_ft (pc := 56) tb_Fb_trial 27 rfl) ic_0 ?_
        refine fg_istore (fg_ft (pc := 57) tb_Fb_trial 28 rfl) (Nat.le_of_ble_eq_true rfl) ?_
        have loop : ∀ (m k a c : Nat), A.ts town 0 - k < m → k ≤ A.ts town 0 → fg_tr (A.ts town) facts fact (S.2.1.1 person) k = (a, c) → fg_wp E yy_Fb_trial (d + 12) 304 304 Q 59 [.ref 100, .int (nI town), .int (nI day), .int (nI n), .int (nI person), .int (nI facts), .int (nI fact), .ref 273, .int (nI a), .int (nI c), .int (nI k)] [] (μ1, fg_rho (some (104 + 14 * town), R.2.1, R.2.2.1, R.2.2.2), 304) := by
          intro m
          induction m with
          | zero => intro k a c h; exact absurd h (Nat.not_lt_zero _)
          | succ m ih =>
            intro k a c hm hk hab
            have ha0 : a < 2 ^ A.ts town 0 := by have := fg_tr_lt hok hm0 (facts := facts) (fact := fact) k hk; rw [hab] at this; exact this
            refine fg_iload (fg_ft (pc := 59) tb_Fb_trial 29 rfl) rfl ?_
            refine fg_aload (fg_ft (pc := 61) tb_Fb_trial 30 rfl) rfl ?_
            refine fg_getR (fg_ft (pc := 63) tb_Fb_trial 31 rfl) ff_Fb_194 ly_273 rfl (fg_lt ly_273 (by decide)) rfl ?_
            refine fg_getV (v := (nI ((A.ts town) 0))) (fg_ft (pc := 66) tb_Fb_trial 32 rfl) ff_Fb_100 (tT_lay ht) rfl (fg_lt (tT_lay ht) (by decide)) hT1.1.1 ?_
            refine fg_icmp_geN (tgt := 118) (fg_ft (pc := 69) tb_Fb_trial 33 rfl) (by decide) (by omega) (by omega) (fun c69 => ?_) (fun c69 => ?_)
            · have hend : fg_tr (A.ts town) facts fact (S.2.1.1 person) (A.ts town 0) = (a, c) := by
                first
                  | (rw [show A.ts town 0 = k by omega]; exact hab)
                  | (have e := fg_tr_keep (T := A.ts town) (facts := facts) (fact := fact) (m := (S.2.1.1 person)) (n := k) (by rw [hab]; exact c79) (A.ts town 0 - k); rw [show k + (A.ts town 0 - k) = A.ts town 0 by omega] at e; rw [e]; exact hab)
              refine fg_iload (fg_ft (pc := 118) tb_Fb_trial 54 rfl) rfl ?_
              refine fg_iload (fg_ft (pc := 120) tb_Fb_trial 55 rfl) rfl ?_
              refine fg_callS (fg_ft (pc := 122) tb_Fb_trial 56 rfl) cf_Fb_167 (as := [.int (nI a), .int (nI fact)]) (st := []) rfl rfl (Nat.le_of_ble_eq_true rfl) (Nat.le_refl _) (Nat.le_refl _) (ev_Fb_isIn (s := a) (k := fact) (by omega) (by omega) ?_)
              refine fg_ifB_eq (tgt := 133) (fg_ft (pc := 125) tb_Fb_trial 57 rfl) (by decide) (fun c125 => ?_) (fun c125 => ?_)
              · refine fg_iconst (fg_ft (pc := 133) tb_Fb_trial 60 rfl) ic_m1 ?_
                exact fg_iret (fg_ft (pc := 134) tb_Fb_trial 61 rfl) rfl rfl (fg_q (hQ _ (some (104 + 14 * town), R.2.1, R.2.2.1, R.2.2.2) (fg_agQ_F (Or.inl rfl) ho1)) (by unfold an_trial; rw [fg_g1_some y4 y5]; rw [if_pos c26, if_pos c39, hend]; rw [if_neg c125]))
              · refine fg_iload (fg_ft (pc := 128) tb_Fb_trial 58 rfl) rfl ?_
                refine fg_goto (tgt := 134) (fg_ft (pc := 130) tb_Fb_trial 59 rfl) (by decide) ?_
                exact fg_iret (fg_ft (pc := 134) tb_Fb_trial 61 rfl) rfl rfl (fg_q (hQ _ (some (104 + 14 * town), R.2.1, R.2.2.1, R.2.2.2) (fg_agQ_F (Or.inl rfl) ho1)) (by unfold an_trial; rw [fg_g1_some y4 y5]; rw [if_pos c26, if_pos c39, hend]; rw [if_pos c125]))
            · refine fg_iload (fg_ft (pc := 72) tb_Fb_trial 34 rfl) rfl ?_
              refine fg_iload (fg_ft (pc := 74) tb_Fb_trial 35 rfl) rfl ?_
              refine fg_callS (fg_ft (pc := 76) tb_Fb_trial 36 rfl) cf_Fb_167 (as := [.int (nI a), .int (nI fact)]) (st := []) rfl rfl (Nat.le_of_ble_eq_true rfl) (Nat.le_refl _) (Nat.le_refl _) (ev_Fb_isIn (s := a) (k := fact) (by omega) (by omega) ?_)
              refine fg_ifB_ne (tgt := 118) (fg_ft (pc := 79) tb_Fb_trial 37 rfl) (by decide) (fun c79 => ?_) (fun c79 => ?_)
              · have hend : fg_tr (A.ts town) facts fact (S.2.1.1 person) (A.ts town 0) = (a, c) := by
                  first
                    | (rw [show A.ts town 0 = k by omega]; exact hab)
                    | (have e := fg_tr_keep (T := A.ts town) (facts := facts) (fact := fact) (m := (S.2.1.1 person)) (n := k) (by rw [hab]; exact c79) (A.ts town 0 - k); rw [show k + (A.ts town 0 - k) = A.ts town 0 by omega] at e; rw [e]; exact hab)
                refine fg_iload (fg_ft (pc := 118) tb_Fb_trial 54 rfl) rfl ?_
                refine fg_iload (fg_ft (pc := 120) tb_Fb_trial 55 rfl) rfl ?_
                refine fg_callS (fg_ft (pc := 122) tb_Fb_trial 56 rfl) cf_Fb_167 (as := [.int (nI a), .int (nI fact)]) (st := []) rfl rfl (Nat.le_of_ble_eq_true rfl) (Nat.le_refl _) (Nat.le_refl _) (ev_Fb_isIn (s := a) (k := fact) (by omega) (by omega) ?_)
                refine fg_ifB_eq (tgt := 133) (fg_ft (pc := 125) tb_Fb_trial 57 rfl) (by decide) (fun c125 => ?_) (fun c125 => ?_)
                · refine fg_iconst (fg_ft (pc := 133) tb_Fb_trial 60 rfl) ic_m1 ?_
                  exact fg_iret (fg_ft (pc := 134) tb_Fb_trial 61 rfl) rfl rfl (fg_q (hQ _ (some (104 + 14 * town), R.2.1, R.2.2.1, R.2.2.2) (fg_agQ_F (Or.inl rfl) ho1)) (by unfold an_trial; rw [fg_g1_some y4 y5]; rw [if_pos c26, if_pos c39, hend]; rw [if_neg c125]))
                · refine fg_iload (fg_ft (pc := 128) tb_Fb_trial 58 rfl) rfl ?_
                  refine fg_goto (tgt := 134) (fg_ft (pc := 130) tb_Fb_trial 59 rfl) (by decide) ?_
                  exact fg_iret (fg_ft (pc := 134) tb_Fb_trial 61 rfl) rfl rfl (fg_q (hQ _ (some (104 + 14 * town), R.2.1, R.2.2.1, R.2.2.2) (fg_agQ_F (Or.inl rfl) ho1)) (by unfold an_trial; rw [fg_g1_some y4 y5]; rw [if_pos c26, if_pos c39, hend]; rw [if_pos c125]))
              · refine fg_iload (fg_ft (pc := 82) tb_Fb_trial 38 rfl) rfl ?_
                refine fg_iload (fg_ft (pc := 84) tb_Fb_trial 39 rfl) rfl ?_
                refine fg_callS (fg_ft (pc := 86) tb_Fb_trial 40 rfl) cf_Fb_167 (as := [.int (nI facts), .int (nI k)]) (st := []) rfl rfl (Nat.le_of_ble_eq_true rfl) (Nat.le_refl _) (Nat.le_refl _) (ev_Fb_isIn (s := facts) (k := k) (by omega) (by omega) ?_)
                refine fg_ifB_eq (tgt := 112) (fg_ft (pc := 89) tb_Fb_trial 41 rfl) (by decide) (fun c89 => ?_) (fun c89 => ?_)
                · refine fg_iincN (fg_ft (pc := 112) tb_Fb_trial 52 rfl) rfl ic_1 rfl ?_
                  refine fg_goto (tgt := 59) (fg_ft (pc := 115) tb_Fb_trial 53 rfl) (by decide) ?_
                  exact ih (k + 1) _ _ (by omega) (by omega) (by unfold fg_tr; rw [hab]; rw [if_neg c79, if_neg c89])
                · have hak : a ||| 2 ^ k < 2 ^ A.ts town 0 := fg_or_lt ha0 (Nat.pow_lt_pow_right (by decide) (by omega))
                  refine fg_aload (fg_ft (pc := 92) tb_Fb_trial 42 rfl) rfl ?_
                  refine fg_getR (fg_ft (pc := 94) tb_Fb_trial 43 rfl) ff_Fb_194 ly_273 rfl (fg_lt ly_273 (by decide)) rfl ?_
                  refine fg_iload (fg_ft (pc := 97) tb_Fb_trial 44 rfl) rfl ?_
                  refine fg_iconst (fg_ft (pc := 99) tb_Fb_trial 45 rfl) ic_1 ?_
                  refine fg_iload (fg_ft (pc := 100) tb_Fb_trial 46 rfl) rfl ?_
                  refine fg_ishl1 (fg_ft (pc := 102) tb_Fb_trial 47 rfl) (by omega) ?_
                  refine fg_iorN (fg_ft (pc := 103) tb_Fb_trial 48 rfl) ?_
                  refine fg_callV (fg_ft (pc := 104) tb_Fb_trial 49 rfl) cf_Fb_160 (fg_isOf (tT_lay ht) rfl (fg_lt (tT_lay ht) (by decide))) (as := [.int (nI (a ||| (2 ^ k)))]) (st := []) rfl rfl (Nat.le_of_ble_eq_true rfl) (Nat.le_refl _) (Nat.le_refl _) (ev_Town_close ht hT1 hok (s := (a ||| (2 ^ k))) (hak) ?_)
                  refine fg_istore (fg_ft (pc := 107) tb_Fb_trial 50 rfl) (Nat.le_of_ble_eq_true rfl) ?_
                  refine fg_iincN (fg_ft (pc := 109) tb_Fb_trial 51 rfl) rfl ic_1 rfl ?_
                  refine fg_iincN (fg_ft (pc := 112) tb_Fb_trial 52 rfl) rfl ic_1 rfl ?_
                  refine fg_goto (tgt := 59) (fg_ft (pc := 115) tb_Fb_trial 53 rfl) (by decide) ?_
                  exact ih (k + 1) _ _ (by omega) (by omega) (by unfold fg_tr; rw [hab]; rw [if_neg c79, if_pos c89])
        exact loop (A.ts town 0 + 1) 0 _ _ (by omega) (by omega) rfl
      · refine fg_iconst (fg_ft (pc := 42) tb_Fb_trial 19 rfl) ic_m1 ?_
        exact fg_iret (fg_ft (pc := 43) tb_Fb_trial 20 rfl) rfl rfl (fg_q (hQ _ (some (104 + 14 * town), R.2.1, R.2.2.1, R.2.2.2) (fg_agQ_F (Or.inl rfl) ho1)) (by unfold an_trial; rw [fg_g1_some y4 y5] <;> ((repeat (first | rw [if_pos (by assumption)] | rw [if_neg (by assumption)] | rw [if_pos (by omega)] | rw [if_neg (by omega)] | rw [if_pos (by constructor <;> assumption)] | rw [if_neg (by intro hh; exact absurd hh.1 (by assumption))] | rw [if_neg (by intro hh; exact absurd hh.2 (by assumption))])); (try rfl))))
theorem ev_Fb_ways {E : fg_E} {d : Nat} {μ : Nat → Nat → Int32} {R : fg_T4} {Q : Option Value → fg_M → Prop} {A : fg_Tl} (hA : fg_TL μ 101 A) {town day n person fact : Nat} (htown : town < 2 ^ 32) (hday : day < 2 ^ 32) (hn : n < 2 ^ 32) (hperson : person < 2 ^ 32) (hfact : fact < 2 ^ 32) (hQ : ∀ (μ' : Nat → Nat → Int32) (R' : fg_T4), fg_agQ μ μ' → Q (some (.int (an_ways A town day n person fact))) (μ', fg_rho R', 304)) : fg_Ev E yy_Fb_ways (d + 12) [.ref 100, .int (nI town), .int (nI day), .int (nI n), .int (nI person), .int (nI fact)] (μ, fg_rho R, 304) 304 Q := by
  have ht2 := hA.2.2.2.1.2
  have hd3 := hA.2.2.2.2.1.2
  refine fg_intro (by decide +kernel) (Nat.le_of_ble_eq_true rfl) (fg_okAs rfl) (Nat.le_refl _) ?_
  refine fg_aloadn (fg_ft (pc := 0) tb_Fb_ways 0 rfl) rfl ?_
  refine fg_iloadn (fg_ft (pc := 1) tb_Fb_ways 1 rfl) rfl ?_
  refine fg_iloadn (fg_ft (pc := 2) tb_Fb_ways 2 rfl) rfl ?_
  refine fg_iloadn (fg_ft (pc := 3) tb_Fb_ways 3 rfl) rfl ?_
  refine fg_iload (fg_ft (pc := 4) tb_Fb_ways 4 rfl) rfl ?_
  refine fg_callV (fg_ft (pc := 6) tb_Fb_ways 5 rfl) cf_Fb_221 (fg_isOf ly_100 rfl (fg_lt ly_100 (by decide))) (as := [.int (nI town), .int (nI day), .int (nI n), .int (nI person)]) (st := []) rfl rfl (Nat.le_of_ble_eq_true rfl) (Nat.le_refl _) (Nat.le_refl _) (ev_Fb_findOne hA htown hday hn hperson (fun n4 μ1 R1 ho1 hR1 => ?_) (fun S lv y4 y5 μ1 ho1 hF1 => ?_))
  · refine fg_astoreN (fg_ft (pc := 9) tb_Fb_ways 6 rfl) (Nat.le_of_ble_eq_true rfl) ?_
    refine fg_aloadN (fg_ft (pc := 11) tb_Fb_ways 7 rfl) rfl ?_
    refine fg_ifnull (tgt := 31) (fg_ft (pc := 13) tb_Fb_ways 8 rfl) (by decide) ?_
    refine fg_iconst (fg_ft (pc := 31) tb_Fb_ways 15 rfl) ic_m1 ?_
    exact fg_iret (fg_ft (pc := 32) tb_Fb_ways 16 rfl) rfl rfl (fg_q (hQ _ R1 (fg_agQ_F (Or.inl rfl) ho1)) (by unfold an_ways; rw [fg_g1_none n4] <;> ((repeat (first | rw [if_pos (by assumption)] | rw [if_neg (by assumption)] | rw [if_pos (by omega)] | rw [if_neg (by omega)] | rw [if_pos (by constructor <;> assumption)] | rw [if_neg (by intro hh; exact absurd hh.1 (by assumption))] | rw [if_neg (by intro hh; exact absurd hh.2 (by assumption))])); (try rfl))))
  · have ytc := fg_fnd_t y4
    have hok := (hA.2.2.2.2.2.1 town ytc).2
    have ht : fg_isT (104 + 14 * town) := fg_isT_told (by omega)
    have hT1 := fg_TL.town hA (Or.inl rfl) ytc ho1
    have hz := fg_fnd_ok hA y4
    have hb0 := hok.1
    have hb1 := hok.2.1
    have hp := hok.p
    have hm2 := hz.2.1 person y5
    have hm0 : S.2.1.1 person < 2 ^ A.ts town 0 := hm2.1
    have hmc : fg_clsd (A.ts town) (S.2.1.1 person) := hm2.2
    have hm10 : S.2.1.1 person < 1024 := by omega
    refine fg_astore (fg_ft (pc := 9) tb_Fb_ways 6 rfl) (Nat.le_of_ble_eq_true rfl) ?_
    refine fg_aload (fg_ft (pc := 11) tb_Fb_ways 7 rfl) rfl ?_
    refine fg_ifnull_r (fg_ft (pc := 13) tb_Fb_ways 8 rfl) ?_
    refine fg_aload (fg_ft (pc := 16) tb_Fb_ways 9 rfl) rfl ?_
    refine fg_iload (fg_ft (pc := 18) tb_Fb_ways 10 rfl) rfl ?_
    refine fg_callV (fg_ft (pc := 20) tb_Fb_ways 11 rfl) cf_Fb_181 (fg_isOf ly_273 rfl (fg_lt ly_273 (by decide))) (as := [.int (nI person)]) (st := []) rfl rfl (Nat.le_of_ble_eq_true rfl) (Nat.le_refl _) (Nat.le_refl _) (ev_Folk_mind ht hT1 hok (Or.inl rfl) rfl hF1 hz (p := person) (by omega) ?_)
    refine fg_iload (fg_ft (pc := 23) tb_Fb_ways 12 rfl) rfl ?_
    refine fg_callS (fg_ft (pc := 25) tb_Fb_ways 13 rfl) cf_Fb_167 (as := [.int (nI (S.2.1.1 person)), .int (nI fact)]) (st := []) rfl rfl (Nat.le_of_ble_eq_true rfl) (Nat.le_refl _) (Nat.le_refl _) (ev_Fb_isInX (s := (S.2.1.1 person)) (k := fact) (by omega) hfact ?_)
    refine fg_ifB_ne (tgt := 33) (fg_ft (pc := 28) tb_Fb_ways 14 rfl) (by decide) (fun c28 => ?_) (fun c28 => ?_)
    · have hfT := fg_bit_lt hm0 c28
      have hrl : (fg_df (S.2.1.1 person) (2 ^ fact)) < 2 ^ A.ts town 0 := fg_df_lt hm0
      have hr10 : (fg_df (S.2.1.1 person) (2 ^ fact)) < 1024 := by omega
      have hpcr := fg_pc_le (fg_df (S.2.1.1 person) (2 ^ fact))
      refine fg_aload (fg_ft (pc := 33) tb_Fb_ways 17 rfl) rfl ?_
      refine fg_iload (fg_ft (pc := 35) tb_Fb_ways 18 rfl) rfl ?_
      refine fg_callV (fg_ft (pc := 37) tb_Fb_ways 19 rfl) cf_Fb_181 (fg_isOf ly_273 rfl (fg_lt ly_273 (by decide))) (as := [.int (nI person)]) (st := []) rfl rfl (Nat.le_of_ble_eq_true rfl) (Nat.le_refl _) (Nat.le_refl _) (ev_Folk_mind ht hT1 hok (Or.inl rfl) rfl hF1 hz (p := person) (by omega) ?_)
      refine fg_iconst (fg_ft (pc := 40) tb_Fb_ways 20 rfl) ic_1 ?_
      refine fg_iload (fg_ft (pc := 41) tb_Fb_ways 21 rfl) rfl ?_
      refine fg_ishl1 (fg_ft (pc := 43) tb_Fb_ways 22 rfl) (by omega) ?_
      refine fg_iconst (fg_ft (pc := 44) tb_Fb_ways 23 rfl) ic_m1 ?_
      refine fg_ixor (fg_ft (pc := 45) tb_Fb_ways 24 rfl) ?_
      refine fg_iandD (fg_ft (pc := 46) tb_Fb_ways 25 rfl) ?_
      refine fg_istore (fg_ft (pc := 47) tb_Fb_ways 26 rfl) (Nat.le_of_ble_eq_true rfl) ?_
      refine fg_iconst (fg_ft (pc := 49) tb_Fb_ways 27 rfl) ic_0 ?_
      refine fg_istore (fg_ft (pc := 50) tb_Fb_ways 28 rfl) (Nat.le_of_ble_eq_true rfl) ?_
      refine fg_iload (fg_ft (pc := 52) tb_Fb_ways 29 rfl) rfl ?_
      refine fg_istore (fg_ft (pc := 54) tb_Fb_ways 30 rfl) (Nat.le_of_ble_eq_true rfl) ?_
      refine fg_iconst (fg_ft (pc := 56) tb_Fb_ways 31 rfl) ic_1 ?_
      refine fg_iload (fg_ft (pc := 57) tb_Fb_ways 32 rfl) rfl ?_
      refine fg_callS (fg_ft (pc := 59) tb_Fb_ways 33 rfl) cf_Fb_292 (as := [.int (nI (fg_df (S.2.1.1 person) (2 ^ fact)))]) (st := [.int (nI 1)]) rfl rfl (Nat.le_of_ble_eq_true rfl) (Nat.le_refl _) (Nat.le_refl _) (ev_Int_bitCount (s := (fg_df (S.2.1.1 person) (2 ^ fact))) (by omega) ?_)
      refine fg_ishl1 (fg_ft (pc := 62) tb_Fb_ways 34 rfl) (by omega) ?_
      refine fg_istore (fg_ft (pc := 63) tb_Fb_ways 35 rfl) (Nat.le_of_ble_eq_true rfl) ?_
      refine fg_descF (free := (fg_df (S.2.1.1 person) (2 ^ fact))) (by omega) (fun (left part : Nat) (s : Nat × Nat × Nat) => fg_wp E yy_Fb_ways (d + 12) 304 304 Q 65 [.ref 100, .int (nI town), .int (nI day), .int (nI n), .int (nI person), .int (nI fact), .ref 273, .int (nI (fg_df (S.2.1.1 person) (2 ^ fact))), .int (nI (s.1)), .int (nI part), .int (nI left)] [] (μ1, fg_rho (some (104 + 14 * town), R.2.1, R.2.2.1, R.2.2.2), 304)) (fg_wyg (A.ts town) fact) (r := fg_wy (A.ts town) (S.2.1.1 person) fact) ?_ ?_ (s := (0, 0, (fg_df (S.2.1.1 person) (2 ^ fact)))) rfl
      · intro part
        refine fg_iload (fg_ft (pc := 65) tb_Fb_ways 36 rfl) rfl ?_
        refine fg_if_leN (tgt := 103) (fg_ft (pc := 67) tb_Fb_ways 37 rfl) (by decide) (by decide) (fun c67 => ?_) (fun c67 => (absurd c67 (by decide)))
        refine fg_iload (fg_ft (pc := 103) tb_Fb_ways 53 rfl) rfl ?_
        exact fg_iret (fg_ft (pc := 105) tb_Fb_ways 54 rfl) rfl rfl (fg_q (hQ _ (some (104 + 14 * town), R.2.1, R.2.2.1, R.2.2.2) (fg_agQ_F (Or.inl rfl) ho1)) (by unfold an_ways; rw [fg_g1_some y4 y5]; rw [if_pos c28]))
      · intro left part s hl hp hk
        have hpF : part < 2 ^ A.ts town 0 := fg_le_lt hp hrl
        refine fg_iload (fg_ft (pc := 65) tb_Fb_ways 36 rfl) rfl ?_
        refine fg_if_leN (tgt := 103) (fg_ft (pc := 67) tb_Fb_ways 37 rfl) (by decide) (by omega) (fun c67 => (absurd c67 (by omega))) (fun c67 => ?_)
        refine fg_aload (fg_ft (pc := 70) tb_Fb_ways 38 rfl) rfl ?_
        refine fg_getR (fg_ft (pc := 72) tb_Fb_ways 39 rfl) ff_Fb_194 ly_273 rfl (fg_lt ly_273 (by decide)) rfl ?_
        refine fg_iload (fg_ft (pc := 75) tb_Fb_ways 40 rfl) rfl ?_
        refine fg_iload (fg_ft (pc := 77) tb_Fb_ways 41 rfl) rfl ?_
        refine fg_callV (fg_ft (pc := 79) tb_Fb_ways 42 rfl) cf_Fb_327 (fg_isOf (tT_lay ht) rfl (fg_lt (tT_lay ht) (by decide))) (as := [.int (nI part), .int (nI fact)]) (st := []) rfl rfl (Nat.le_of_ble_eq_true rfl) (Nat.le_refl _) (Nat.le_refl _) (ev_Town_isWay ht hT1 hok (s := part) (f := fact) (hpF) (by omega) ?_)
        refine fg_ifB_eq (tgt := 88) (fg_ft (pc := 82) tb_Fb_ways 43 rfl) (by decide) (fun c82 => ?_) (fun c82 => ?_)
        · refine fg_iload (fg_ft (pc := 88) tb_Fb_ways 45 rfl) rfl ?_
          refine fg_iconst (fg_ft (pc := 90) tb_Fb_ways 46 rfl) ic_1 ?_
          refine fg_isub (fg_ft (pc := 91) tb_Fb_ways 47 rfl) ?_
          refine fg_iload (fg_ft (pc := 92) tb_Fb_ways 48 rfl) rfl ?_
          refine fg_iand (fg_ft (pc := 94) tb_Fb_ways 49 rfl) ?_
          refine fg_top fg_nx_I ?_
          refine fg_istore (fg_ft (pc := 95) tb_Fb_ways 50 rfl) (Nat.le_of_ble_eq_true rfl) ?_
          refine fg_iinc (fg_ft (pc := 97) tb_Fb_ways 51 rfl) rfl (v := nI left) (by rw [ic_m1]; exact pk_m1 _) ?_
          refine fg_goto (tgt := 65) (fg_ft (pc := 100) tb_Fb_ways 52 rfl) (by decide) ?_
          rw [show fg_wyg (A.ts town) fact part s = s from fg_ifF c82] at hk; exact hk
        · refine fg_iincN (fg_ft (pc := 85) tb_Fb_ways 44 rfl) rfl ic_1 rfl ?_
          refine fg_iload (fg_ft (pc := 88) tb_Fb_ways 45 rfl) rfl ?_
          refine fg_iconst (fg_ft (pc := 90) tb_Fb_ways 46 rfl) ic_1 ?_
          refine fg_isub (fg_ft (pc := 91) tb_Fb_ways 47 rfl) ?_
          refine fg_iload (fg_ft (pc := 92) tb_Fb_ways 48 rfl) rfl ?_
          refine fg_iand (fg_ft (pc := 94) tb_Fb_ways 49 rfl) ?_
          refine fg_top fg_nx_I ?_
          refine fg_istore (fg_ft (pc := 95) tb_Fb_ways 50 rfl) (Nat.le_of_ble_eq_true rfl) ?_
          refine fg_iinc (fg_ft (pc := 97) tb_Fb_ways 51 rfl) rfl (v := nI left) (by rw [ic_m1]; exact pk_m1 _) ?_
          refine fg_goto (tgt := 65) (fg_ft (pc := 100) tb_Fb_ways 52 rfl) (by decide) ?_
          rw [show fg_wyg (A.ts town) fact part s = (s.1 + 1, s.2.1 ||| part, s.2.2 &&& part) from fg_ifT c82] at hk; exact hk
    · refine fg_iconst (fg_ft (pc := 31) tb_Fb_ways 15 rfl) ic_m1 ?_
      exact fg_iret (fg_ft (pc := 32) tb_Fb_ways 16 rfl) rfl rfl (fg_q (hQ _ (some (104 + 14 * town), R.2.1, R.2.2.1, R.2.2.2) (fg_agQ_F (Or.inl rfl) ho1)) (by unfold an_ways; rw [fg_g1_some y4 y5] <;> ((repeat (first | rw [if_pos (by assumption)] | rw [if_neg (by assumption)] | rw [if_pos (by omega)] | rw [if_neg (by omega)] | rw [if_pos (by constructor <;> assumption)] | rw [if_neg (by intro hh; exact absurd hh.1 (by assumption))] | rw [if_neg (by intro hh; exact absurd hh.2 (by assumption))])); (try rfl))))
theorem fg_db_inv {σ : Type} {F : Nat → σ → σ} (I : σ → Prop) : ∀ n s, I s → (∀ q s, q < n → I s → I (F q s)) → I (fg_db F n s) := by
  intro n
  induction n with
  | zero => intro s h _; exact h
  | succ n ih => intro s h hF; exact ih _ (hF n s (by omega) h) (fun q s hq => hF q s (by omega))
theorem fg_wy_lt {T : Nat → Nat} {m fact : Nat} (h : fg_df m (2 ^ fact) < 1024) : (fg_wy T m fact).2.1 < 2 ^ 31 := by
  have h10 : fg_df m (2 ^ fact) < 2 ^ 10 := h
  have : (fg_wy T m fact).2.1 < 2 ^ 10 := by
    refine fg_db_inv (fun s : Nat × Nat × Nat => s.2.1 < 2 ^ 10) _ _ (show (0 : Nat) < 2 ^ 10 by decide) (fun q s hq hs => ?_)
    unfold fg_sf
    split
    · unfold fg_wyg
      rcases Classical.em (fg_way T q fact) with g | g
      · rw [fg_ifT g]; exact fg_or_lt hs (by omega)
      · rw [fg_ifF g]; exact hs
    · exact hs
  omega
theorem ev_Fb_leans0 {E : fg_E} {d : Nat} {μ : Nat → Nat → Int32} {R : fg_T4} {Q : Option Value → fg_M → Prop} {A : fg_Tl} (hA : fg_TL μ 101 A) {town day n person fact : Nat} (htown : town < 2 ^ 32) (hday : day < 2 ^ 32) (hn : n < 2 ^ 32) (hperson : person < 2 ^ 32) (hfact : fact < 2 ^ 32) (hQ : ∀ (μ' : Nat → Nat → Int32) (R' : fg_T4), fg_agQ μ μ' → Q (some (.int (an_leans A town day n person fact 0))) (μ', fg_rho R', 304)) : fg_Ev E yy_Fb_leans (d + 12) [.ref 100, .int (nI town), .int (nI day), .int (nI n), .int (nI person), .int (nI fact), .int (nI 0)] (μ, fg_rho R, 304) 304 Q := by
  have ht2 := hA.2.2.2.1.2
  have hd3 := hA.2.2.2.2.1.2
  refine fg_intro (by decide +kernel) (Nat.le_of_ble_eq_true rfl) (fg_okAs rfl) (Nat.le_refl _) ?_
  refine fg_aloadn (fg_ft (pc := 0) tb_Fb_leans 0 rfl) rfl ?_
  refine fg_iloadn (fg_ft (pc := 1) tb_Fb_leans 1 rfl) rfl ?_
  refine fg_iloadn (fg_ft (pc := 2) tb_Fb_leans 2 rfl) rfl ?_
  refine fg_iloadn (fg_ft (pc := 3) tb_Fb_leans 3 rfl) rfl ?_
  refine fg_iload (fg_ft (pc := 4) tb_Fb_leans 4 rfl) rfl ?_
  refine fg_callV (fg_ft (pc := 6) tb_Fb_leans 5 rfl) cf_Fb_221 (fg_isOf ly_100 rfl (fg_lt ly_100 (by decide))) (as := [.int (nI town), .int (nI day), .int (nI n), .int (nI person)]) (st := []) rfl rfl (Nat.le_of_ble_eq_true rfl) (Nat.le_refl _) (Nat.le_refl _) (ev_Fb_findOne hA htown hday hn hperson (fun n4 μ1 R1 ho1 hR1 => ?_) (fun S lv y4 y5 μ1 ho1 hF1 => ?_))
  · refine fg_astoreN (fg_ft (pc := 9) tb_Fb_leans 6 rfl) (Nat.le_of_ble_eq_true rfl) ?_
    refine fg_aloadN (fg_ft (pc := 11) tb_Fb_leans 7 rfl) rfl ?_
    refine fg_ifnull (tgt := 31) (fg_ft (pc := 13) tb_Fb_leans 8 rfl) (by decide) ?_
    refine fg_iconst (fg_ft (pc := 31) tb_Fb_leans 15 rfl) ic_m1 ?_
    exact fg_iret (fg_ft (pc := 32) tb_Fb_leans 16 rfl) rfl rfl (fg_q (hQ _ R1 (fg_agQ_F (Or.inl rfl) ho1)) (by unfold an_leans; first | rw [fg_g1_none n4] | (rw [fg_g1_some y4 y5]; rw [if_neg c28])))
  · have ytc := fg_fnd_t y4
    have hok := (hA.2.2.2.2.2.1 town ytc).2
    have ht : fg_isT (104 + 14 * town) := fg_isT_told (by omega)
    have hT1 := fg_TL.town hA (Or.inl rfl) ytc ho1
    have hz := fg_fnd_ok hA y4
    have hb0 := hok.1
    have hb1 := hok.2.1
    have hp := hok.p
    have hm2 := hz.2.1 person y5
    have hm0 : S.2.1.1 person < 2 ^ A.ts town 0 := hm2.1
    have hmc : fg_clsd (A.ts town) (S.2.1.1 person) := hm2.2
    have hm10 : S.2.1.1 person < 1024 := by omega
    refine fg_astore (fg_ft (pc := 9) tb_Fb_leans 6 rfl) (Nat.le_of_ble_eq_true rfl) ?_
    refine fg_aload (fg_ft (pc := 11) tb_Fb_leans 7 rfl) rfl ?_
    refine fg_ifnull_r (fg_ft (pc := 13) tb_Fb_leans 8 rfl) ?_
    refine fg_aload (fg_ft (pc := 16) tb_Fb_leans 9 rfl) rfl ?_
    refine fg_iload (fg_ft (pc := 18) tb_Fb_leans 10 rfl) rfl ?_
    refine fg_callV (fg_ft (pc := 20) tb_Fb_leans 11 rfl) cf_Fb_181 (fg_isOf ly_273 rfl (fg_lt ly_273 (by decide))) (as := [.int (nI person)]) (st := []) rfl rfl (Nat.le_of_ble_eq_true rfl) (Nat.le_refl _) (Nat.le_refl _) (ev_Folk_mind ht hT1 hok (Or.inl rfl) rfl hF1 hz (p := person) (by omega) ?_)
    refine fg_iload (fg_ft (pc := 23) tb_Fb_leans 12 rfl) rfl ?_
    refine fg_callS (fg_ft (pc := 25) tb_Fb_leans 13 rfl) cf_Fb_167 (as := [.int (nI (S.2.1.1 person)), .int (nI fact)]) (st := []) rfl rfl (Nat.le_of_ble_eq_true rfl) (Nat.le_refl _) (Nat.le_refl _) (ev_Fb_isInX (s := (S.2.1.1 person)) (k := fact) (by omega) hfact ?_)
    refine fg_ifB_ne (tgt := 33) (fg_ft (pc := 28) tb_Fb_leans 14 rfl) (by decide) (fun c28 => ?_) (fun c28 => ?_)
    · have hfT := fg_bit_lt hm0 c28
      have hrl : (fg_df (S.2.1.1 person) (2 ^ fact)) < 2 ^ A.ts town 0 := fg_df_lt hm0
      have hr10 : (fg_df (S.2.1.1 person) (2 ^ fact)) < 1024 := by omega
      have hpcr := fg_pc_le (fg_df (S.2.1.1 person) (2 ^ fact))
      refine fg_aload (fg_ft (pc := 33) tb_Fb_leans 17 rfl) rfl ?_
      refine fg_iload (fg_ft (pc := 35) tb_Fb_leans 18 rfl) rfl ?_
      refine fg_callV (fg_ft (pc := 37) tb_Fb_leans 19 rfl) cf_Fb_181 (fg_isOf ly_273 rfl (fg_lt ly_273 (by decide))) (as := [.int (nI person)]) (st := []) rfl rfl (Nat.le_of_ble_eq_true rfl) (Nat.le_refl _) (Nat.le_refl _) (ev_Folk_mind ht hT1 hok (Or.inl rfl) rfl hF1 hz (p := person) (by omega) ?_)
      refine fg_iconst (fg_ft (pc := 40) tb_Fb_leans 20 rfl) ic_1 ?_
      refine fg_iload (fg_ft (pc := 41) tb_Fb_leans 21 rfl) rfl ?_
      refine fg_ishl1 (fg_ft (pc := 43) tb_Fb_leans 22 rfl) (by omega) ?_
      refine fg_iconst (fg_ft (pc := 44) tb_Fb_leans 23 rfl) ic_m1 ?_
      refine fg_ixor (fg_ft (pc := 45) tb_Fb_leans 24 rfl) ?_
      refine fg_iandD (fg_ft (pc := 46) tb_Fb_leans 25 rfl) ?_
      refine fg_istore (fg_ft (pc := 47) tb_Fb_leans 26 rfl) (Nat.le_of_ble_eq_true rfl) ?_
      refine fg_iconst (fg_ft (pc := 49) tb_Fb_leans 27 rfl) ic_0 ?_
      refine fg_istore (fg_ft (pc := 50) tb_Fb_leans 28 rfl) (Nat.le_of_ble_eq_true rfl) ?_
      refine fg_iload (fg_ft (pc := 52) tb_Fb_leans 29 rfl) rfl ?_
      refine fg_istore (fg_ft (pc := 54) tb_Fb_leans 30 rfl) (Nat.le_of_ble_eq_true rfl) ?_
      refine fg_iload (fg_ft (pc := 56) tb_Fb_leans 31 rfl) rfl ?_
      refine fg_istore (fg_ft (pc := 58) tb_Fb_leans 32 rfl) (Nat.le_of_ble_eq_true rfl) ?_
      refine fg_iconst (fg_ft (pc := 60) tb_Fb_leans 33 rfl) ic_1 ?_
      refine fg_iload (fg_ft (pc := 61) tb_Fb_leans 34 rfl) rfl ?_
      refine fg_callS (fg_ft (pc := 63) tb_Fb_leans 35 rfl) cf_Fb_292 (as := [.int (nI (fg_df (S.2.1.1 person) (2 ^ fact)))]) (st := [.int (nI 1)]) rfl rfl (Nat.le_of_ble_eq_true rfl) (Nat.le_refl _) (Nat.le_refl _) (ev_Int_bitCount (s := (fg_df (S.2.1.1 person) (2 ^ fact))) (by omega) ?_)
      refine fg_ishl1 (fg_ft (pc := 66) tb_Fb_leans 36 rfl) (by omega) ?_
      refine fg_istore (fg_ft (pc := 67) tb_Fb_leans 37 rfl) (Nat.le_of_ble_eq_true rfl) ?_
      refine fg_descF (free := (fg_df (S.2.1.1 person) (2 ^ fact))) (by omega) (fun (left part : Nat) (s : Nat × Nat × Nat) => fg_wp E yy_Fb_leans (d + 12) 304 304 Q 69 [.ref 100, .int (nI town), .int (nI day), .int (nI n), .int (nI person), .int (nI fact), .int (nI 0), .ref 273, .int (nI (fg_df (S.2.1.1 person) (2 ^ fact))), .int (nI (s.2.1)), .int (nI (s.2.2)), .int (nI part), .int (nI left)] [] (μ1, fg_rho (some (104 + 14 * town), R.2.1, R.2.2.1, R.2.2.2), 304)) (fg_wyg (A.ts town) fact) (r := fg_wy (A.ts town) (S.2.1.1 person) fact) ?_ ?_ (s := (0, 0, (fg_df (S.2.1.1 person) (2 ^ fact)))) rfl
      · intro part
        have hw31 : (fg_wy (A.ts town) (S.2.1.1 person) fact).2.1 < 2 ^ 31 := fg_wy_lt hr10
        refine fg_iload (fg_ft (pc := 69) tb_Fb_leans 38 rfl) rfl ?_
        refine fg_if_leN (tgt := 118) (fg_ft (pc := 71) tb_Fb_leans 39 rfl) (by decide) (by decide) (fun c71 => ?_) (fun c71 => (absurd c71 (by decide)))
        refine fg_iload (fg_ft (pc := 118) tb_Fb_leans 62 rfl) rfl ?_
        refine fg_if_eqN (tgt := 128) (fg_ft (pc := 120) tb_Fb_leans 63 rfl) (by decide) (hw31) (fun c120 => ?_) (fun c120 => ?_)
        · refine fg_iload (fg_ft (pc := 128) tb_Fb_leans 66 rfl) rfl ?_
          refine fg_goto (tgt := 135) (fg_ft (pc := 130) tb_Fb_leans 67 rfl) (by decide) ?_
          exact fg_iret (fg_ft (pc := 135) tb_Fb_leans 69 rfl) rfl rfl (fg_q (hQ _ (some (104 + 14 * town), R.2.1, R.2.2.1, R.2.2.2) (fg_agQ_F (Or.inl rfl) ho1)) (by unfold an_leans; rw [fg_g1_some y4 y5]; rw [if_pos c28]; first | (rw [if_pos (Or.inl c120)]; done) | (rw [if_pos (Or.inr (by decide))]; done) | (rw [if_neg (fun hh => hh.elim c120 (by decide))]; done)))
        · refine fg_iload (fg_ft (pc := 123) tb_Fb_leans 64 rfl) rfl ?_
          refine fg_if_ne (tgt := 133) (fg_ft (pc := 125) tb_Fb_leans 65 rfl) (by decide) (fun h => absurd h (by decide)) (fun _ => ?_)
          refine fg_iload (fg_ft (pc := 128) tb_Fb_leans 66 rfl) rfl ?_
          refine fg_goto (tgt := 135) (fg_ft (pc := 130) tb_Fb_leans 67 rfl) (by decide) ?_
          exact fg_iret (fg_ft (pc := 135) tb_Fb_leans 69 rfl) rfl rfl (fg_q (hQ _ (some (104 + 14 * town), R.2.1, R.2.2.1, R.2.2.2) (fg_agQ_F (Or.inl rfl) ho1)) (by unfold an_leans; rw [fg_g1_some y4 y5]; rw [if_pos c28]; first | (rw [if_pos (Or.inl c120)]; done) | (rw [if_pos (Or.inr (by decide))]; done) | (rw [if_neg (fun hh => hh.elim c120 (by decide))]; done)))
      · intro left part s hl hp hk
        have hpF : part < 2 ^ A.ts town 0 := fg_le_lt hp hrl
        refine fg_iload (fg_ft (pc := 69) tb_Fb_leans 38 rfl) rfl ?_
        refine fg_if_leN (tgt := 118) (fg_ft (pc := 71) tb_Fb_leans 39 rfl) (by decide) (by omega) (fun c71 => (absurd c71 (by omega))) (fun c71 => ?_)
        refine fg_aload (fg_ft (pc := 74) tb_Fb_leans 40 rfl) rfl ?_
        refine fg_getR (fg_ft (pc := 76) tb_Fb_leans 41 rfl) ff_Fb_194 ly_273 rfl (fg_lt ly_273 (by decide)) rfl ?_
        refine fg_iload (fg_ft (pc := 79) tb_Fb_leans 42 rfl) rfl ?_
        refine fg_iload (fg_ft (pc := 81) tb_Fb_leans 43 rfl) rfl ?_
        refine fg_callV (fg_ft (pc := 83) tb_Fb_leans 44 rfl) cf_Fb_327 (fg_isOf (tT_lay ht) rfl (fg_lt (tT_lay ht) (by decide))) (as := [.int (nI part), .int (nI fact)]) (st := []) rfl rfl (Nat.le_of_ble_eq_true rfl) (Nat.le_refl _) (Nat.le_refl _) (ev_Town_isWay ht hT1 hok (s := part) (f := fact) (hpF) (by omega) ?_)
        refine fg_ifB_eq (tgt := 103) (fg_ft (pc := 86) tb_Fb_leans 45 rfl) (by decide) (fun c86 => ?_) (fun c86 => ?_)
        · refine fg_iload (fg_ft (pc := 103) tb_Fb_leans 54 rfl) rfl ?_
          refine fg_iconst (fg_ft (pc := 105) tb_Fb_leans 55 rfl) ic_1 ?_
          refine fg_isub (fg_ft (pc := 106) tb_Fb_leans 56 rfl) ?_
          refine fg_iload (fg_ft (pc := 107) tb_Fb_leans 57 rfl) rfl ?_
          refine fg_iand (fg_ft (pc := 109) tb_Fb_leans 58 rfl) ?_
          refine fg_top fg_nx_I ?_
          refine fg_istore (fg_ft (pc := 110) tb_Fb_leans 59 rfl) (Nat.le_of_ble_eq_true rfl) ?_
          refine fg_iinc (fg_ft (pc := 112) tb_Fb_leans 60 rfl) rfl (v := nI left) (by rw [ic_m1]; exact pk_m1 _) ?_
          refine fg_goto (tgt := 69) (fg_ft (pc := 115) tb_Fb_leans 61 rfl) (by decide) ?_
          rw [show fg_wyg (A.ts town) fact part s = s from fg_ifF c86] at hk; exact hk
        · refine fg_iload (fg_ft (pc := 89) tb_Fb_leans 46 rfl) rfl ?_
          refine fg_iload (fg_ft (pc := 91) tb_Fb_leans 47 rfl) rfl ?_
          refine fg_iorN (fg_ft (pc := 93) tb_Fb_leans 48 rfl) ?_
          refine fg_istore (fg_ft (pc := 94) tb_Fb_leans 49 rfl) (Nat.le_of_ble_eq_true rfl) ?_
          refine fg_iload (fg_ft (pc := 96) tb_Fb_leans 50 rfl) rfl ?_
          refine fg_iload (fg_ft (pc := 98) tb_Fb_leans 51 rfl) rfl ?_
          refine fg_iandN (fg_ft (pc := 100) tb_Fb_leans 52 rfl) ?_
          refine fg_istore (fg_ft (pc := 101) tb_Fb_leans 53 rfl) (Nat.le_of_ble_eq_true rfl) ?_
          refine fg_iload (fg_ft (pc := 103) tb_Fb_leans 54 rfl) rfl ?_
          refine fg_iconst (fg_ft (pc := 105) tb_Fb_leans 55 rfl) ic_1 ?_
          refine fg_isub (fg_ft (pc := 106) tb_Fb_leans 56 rfl) ?_
          refine fg_iload (fg_ft (pc := 107) tb_Fb_leans 57 rfl) rfl ?_
          refine fg_iand (fg_ft (pc := 109) tb_Fb_leans 58 rfl) ?_
          refine fg_top fg_nx_I ?_
          refine fg_istore (fg_ft (pc := 110) tb_Fb_leans 59 rfl) (Nat.le_of_ble_eq_true rfl) ?_
          refine fg_iinc (fg_ft (pc := 112) tb_Fb_leans 60 rfl) rfl (v := nI left) (by rw [ic_m1]; exact pk_m1 _) ?_
          refine fg_goto (tgt := 69) (fg_ft (pc := 115) tb_Fb_leans 61 rfl) (by decide) ?_
          rw [show fg_wyg (A.ts town) fact part s = (s.1 + 1, s.2.1 ||| part, s.2.2 &&& part) from fg_ifT c86] at hk; exact hk
    · refine fg_iconst (fg_ft (pc := 31) tb_Fb_leans 15 rfl) ic_m1 ?_
      exact fg_iret (fg_ft (pc := 32) tb_Fb_leans 16 rfl) rfl rfl (fg_q (hQ _ (some (104 + 14 * town), R.2.1, R.2.2.1, R.2.2.2) (fg_agQ_F (Or.inl rfl) ho1)) (by unfold an_leans; first | rw [fg_g1_none n4] | (rw [fg_g1_some y4 y5]; rw [if_neg c28])))
theorem ev_Fb_leans1 {E : fg_E} {d : Nat} {μ : Nat → Nat → Int32} {R : fg_T4} {Q : Option Value → fg_M → Prop} {A : fg_Tl} (hA : fg_TL μ 101 A) {town day n person fact : Nat} (htown : town < 2 ^ 32) (hday : day < 2 ^ 32) (hn : n < 2 ^ 32) (hperson : person < 2 ^ 32) (hfact : fact < 2 ^ 32) (hQ : ∀ (μ' : Nat → Nat → Int32) (R' : fg_T4), fg_agQ μ μ' → Q (some (.int (an_leans A town day n person fact 1))) (μ', fg_rho R', 304)) : fg_Ev E yy_Fb_leans (d + 12) [.ref 100, .int (nI town), .int (nI day), .int (nI n), .int (nI person), .int (nI fact), .int (nI 1)] (μ, fg_rho R, 304) 304 Q := by
  have ht2 := hA.2.2.2.1.2
  have hd3 := hA.2.2.2.2.1.2
  refine fg_intro (by decide +kernel) (Nat.le_of_ble_eq_true rfl) (fg_okAs rfl) (Nat.le_refl _) ?_
  refine fg_aloadn (fg_ft (pc := 0) tb_Fb_leans 0 rfl) rfl ?_
  refine fg_iloadn (fg_ft (pc := 1) tb_Fb_leans 1 rfl) rfl ?_
  refine fg_iloadn (fg_ft (pc := 2) tb_Fb_leans 2 rfl) rfl ?_
  refine fg_iloadn (fg_ft (pc := 3) tb_Fb_leans 3 rfl) rfl ?_
  refine fg_iload (fg_ft (pc := 4) tb_Fb_leans 4 rfl) rfl ?_
  refine fg_callV (fg_ft (pc := 6) tb_Fb_leans 5 rfl) cf_Fb_221 (fg_isOf ly_100 rfl (fg_lt ly_100 (by decide))) (as := [.int (nI town), .int (nI day), .int (nI n), .int (nI person)]) (st := []) rfl rfl (Nat.le_of_ble_eq_true rfl) (Nat.le_refl _) (Nat.le_refl _) (ev_Fb_findOne hA htown hday hn hperson (fun n4 μ1 R1 ho1 hR1 => ?_) (fun S lv y4 y5 μ1 ho1 hF1 => ?_))
  · refine fg_astoreN (fg_ft (pc := 9) tb_Fb_leans 6 rfl) (Nat.le_of_ble_eq_true rfl) ?_
    refine fg_aloadN (fg_ft (pc := 11) tb_Fb_leans 7 rfl) rfl ?_
    refine fg_ifnull (tgt := 31) (fg_ft (pc := 13) tb_Fb_leans 8 rfl) (by decide) ?_
    refine fg_iconst (fg_ft (pc := 31) tb_Fb_leans 15 rfl) ic_m1 ?_
    exact fg_iret (fg_ft (pc := 32) tb_Fb_leans 16 rfl) rfl rfl (fg_q (hQ _ R1 (fg_agQ_F (Or.inl rfl) ho1)) (by unfold an_leans; first | rw [fg_g1_none n4] | (rw [fg_g1_some y4 y5]; rw [if_neg c28])))
  · have ytc := fg_fnd_t y4
    have hok := (hA.2.2.2.2.2.1 town ytc).2
    have ht : fg_isT (104 + 14 * town) := fg_isT_told (by omega)
    have hT1 := fg_TL.town hA (Or.inl rfl) ytc ho1
    have hz := fg_fnd_ok hA y4
    have hb0 := hok.1
    have hb1 := hok.2.1
    have hp := hok.p
    have hm2 := hz.2.1 person y5
    have hm0 : S.2.1.1 person < 2 ^ A.ts town 0 := hm2.1
    have hmc : fg_clsd (A.ts town) (S.2.1.1 person) := hm2.2
    have hm10 : S.2.1.1 person < 1024 := by omega
    refine fg_astore (fg_ft (pc := 9) tb_Fb_leans 6 rfl) (Nat.le_of_ble_eq_true rfl) ?_
    refine fg_aload (fg_ft (pc := 11) tb_Fb_leans 7 rfl) rfl ?_
    refine fg_ifnull_r (fg_ft (pc := 13) tb_Fb_leans 8 rfl) ?_
    refine fg_aload (fg_ft (pc := 16) tb_Fb_leans 9 rfl) rfl ?_
    refine fg_iload (fg_ft (pc := 18) tb_Fb_leans 10 rfl) rfl ?_
    refine fg_callV (fg_ft (pc := 20) tb_Fb_leans 11 rfl) cf_Fb_181 (fg_isOf ly_273 rfl (fg_lt ly_273 (by decide))) (as := [.int (nI person)]) (st := []) rfl rfl (Nat.le_of_ble_eq_true rfl) (Nat.le_refl _) (Nat.le_refl _) (ev_Folk_mind ht hT1 hok (Or.inl rfl) rfl hF1 hz (p := person) (by omega) ?_)
    refine fg_iload (fg_ft (pc := 23) tb_Fb_leans 12 rfl) rfl ?_
    refine fg_callS (fg_ft (pc := 25) tb_Fb_leans 13 rfl) cf_Fb_167 (as := [.int (nI (S.2.1.1 person)), .int (nI fact)]) (st := []) rfl rfl (Nat.le_of_ble_eq_true rfl) (Nat.le_refl _) (Nat.le_refl _) (ev_Fb_isInX (s := (S.2.1.1 person)) (k := fact) (by omega) hfact ?_)
    refine fg_ifB_ne (tgt := 33) (fg_ft (pc := 28) tb_Fb_leans 14 rfl) (by decide) (fun c28 => ?_) (fun c28 => ?_)
    · have hfT := fg_bit_lt hm0 c28
      have hrl : (fg_df (S.2.1.1 person) (2 ^ fact)) < 2 ^ A.ts town 0 := fg_df_lt hm0
      have hr10 : (fg_df (S.2.1.1 person) (2 ^ fact)) < 1024 := by omega
      have hpcr := fg_pc_le (fg_df (S.2.1.1 person) (2 ^ fact))
      refine fg_aload (fg_ft (pc := 33) tb_Fb_leans 17 rfl) rfl ?_
      refine fg_iload (fg_ft (pc := 35) tb_Fb_leans 18 rfl) rfl ?_
      refine fg_callV (fg_ft (pc := 37) tb_Fb_leans 19 rfl) cf_Fb_181 (fg_isOf ly_273 rfl (fg_lt ly_273 (by decide))) (as := [.int (nI person)]) (st := []) rfl rfl (Nat.le_of_ble_eq_true rfl) (Nat.le_refl _) (Nat.le_refl _) (ev_Folk_mind ht hT1 hok (Or.inl rfl) rfl hF1 hz (p := person) (by omega) ?_)
      refine fg_iconst (fg_ft (pc := 40) tb_Fb_leans 20 rfl) ic_1 ?_
      refine fg_iload (fg_ft (pc := 41) tb_Fb_leans 21 rfl) rfl ?_
      refine fg_ishl1 (fg_ft (pc := 43) tb_Fb_leans 22 rfl) (by omega) ?_
      refine fg_iconst (fg_ft (pc := 44) tb_Fb_leans 23 rfl) ic_m1 ?_
      refine fg_ixor (fg_ft (pc := 45) tb_Fb_leans 24 rfl) ?_
      refine fg_iandD (fg_ft (pc := 46) tb_Fb_leans 25 rfl) ?_
      refine fg_istore (fg_ft (pc := 47) tb_Fb_leans 26 rfl) (Nat.le_of_ble_eq_true rfl) ?_
      refine fg_iconst (fg_ft (pc := 49) tb_Fb_leans 27 rfl) ic_0 ?_
      refine fg_istore (fg_ft (pc := 50) tb_Fb_leans 28 rfl) (Nat.le_of_ble_eq_true rfl) ?_
      refine fg_iload (fg_ft (pc := 52) tb_Fb_leans 29 rfl) rfl ?_
      refine fg_istore (fg_ft (pc := 54) tb_Fb_leans 30 rfl) (Nat.le_of_ble_eq_true rfl) ?_
      refine fg_iload (fg_ft (pc := 56) tb_Fb_leans 31 rfl) rfl ?_
      refine fg_istore (fg_ft (pc := 58) tb_Fb_leans 32 rfl) (Nat.le_of_ble_eq_true rfl) ?_
      refine fg_iconst (fg_ft (pc := 60) tb_Fb_leans 33 rfl) ic_1 ?_
      refine fg_iload (fg_ft (pc := 61) tb_Fb_leans 34 rfl) rfl ?_
      refine fg_callS (fg_ft (pc := 63) tb_Fb_leans 35 rfl) cf_Fb_292 (as := [.int (nI (fg_df (S.2.1.1 person) (2 ^ fact)))]) (st := [.int (nI 1)]) rfl rfl (Nat.le_of_ble_eq_true rfl) (Nat.le_refl _) (Nat.le_refl _) (ev_Int_bitCount (s := (fg_df (S.2.1.1 person) (2 ^ fact))) (by omega) ?_)
      refine fg_ishl1 (fg_ft (pc := 66) tb_Fb_leans 36 rfl) (by omega) ?_
      refine fg_istore (fg_ft (pc := 67) tb_Fb_leans 37 rfl) (Nat.le_of_ble_eq_true rfl) ?_
      refine fg_descF (free := (fg_df (S.2.1.1 person) (2 ^ fact))) (by omega) (fun (left part : Nat) (s : Nat × Nat × Nat) => fg_wp E yy_Fb_leans (d + 12) 304 304 Q 69 [.ref 100, .int (nI town), .int (nI day), .int (nI n), .int (nI person), .int (nI fact), .int (nI 1), .ref 273, .int (nI (fg_df (S.2.1.1 person) (2 ^ fact))), .int (nI (s.2.1)), .int (nI (s.2.2)), .int (nI part), .int (nI left)] [] (μ1, fg_rho (some (104 + 14 * town), R.2.1, R.2.2.1, R.2.2.2), 304)) (fg_wyg (A.ts town) fact) (r := fg_wy (A.ts town) (S.2.1.1 person) fact) ?_ ?_ (s := (0, 0, (fg_df (S.2.1.1 person) (2 ^ fact)))) rfl
      · intro part
        have hw31 : (fg_wy (A.ts town) (S.2.1.1 person) fact).2.1 < 2 ^ 31 := fg_wy_lt hr10
        refine fg_iload (fg_ft (pc := 69) tb_Fb_leans 38 rfl) rfl ?_
        refine fg_if_leN (tgt := 118) (fg_ft (pc := 71) tb_Fb_leans 39 rfl) (by decide) (by decide) (fun c71 => ?_) (fun c71 => (absurd c71 (by decide)))
        refine fg_iload (fg_ft (pc := 118) tb_Fb_leans 62 rfl) rfl ?_
        refine fg_if_eqN (tgt := 128) (fg_ft (pc := 120) tb_Fb_leans 63 rfl) (by decide) (hw31) (fun c120 => ?_) (fun c120 => ?_)
        · refine fg_iload (fg_ft (pc := 128) tb_Fb_leans 66 rfl) rfl ?_
          refine fg_goto (tgt := 135) (fg_ft (pc := 130) tb_Fb_leans 67 rfl) (by decide) ?_
          exact fg_iret (fg_ft (pc := 135) tb_Fb_leans 69 rfl) rfl rfl (fg_q (hQ _ (some (104 + 14 * town), R.2.1, R.2.2.1, R.2.2.2) (fg_agQ_F (Or.inl rfl) ho1)) (by unfold an_leans; rw [fg_g1_some y4 y5]; rw [if_pos c28]; first | (rw [if_pos (Or.inl c120)]; done) | (rw [if_pos (Or.inr (by decide))]; done) | (rw [if_neg (fun hh => hh.elim c120 (by decide))]; done)))
        · refine fg_iload (fg_ft (pc := 123) tb_Fb_leans 64 rfl) rfl ?_
          refine fg_if_ne (tgt := 133) (fg_ft (pc := 125) tb_Fb_leans 65 rfl) (by decide) (fun _ => ?_) (fun h => absurd h (by decide))
          refine fg_iload (fg_ft (pc := 133) tb_Fb_leans 68 rfl) rfl ?_
          exact fg_iret (fg_ft (pc := 135) tb_Fb_leans 69 rfl) rfl rfl (fg_q (hQ _ (some (104 + 14 * town), R.2.1, R.2.2.1, R.2.2.2) (fg_agQ_F (Or.inl rfl) ho1)) (by unfold an_leans; rw [fg_g1_some y4 y5]; rw [if_pos c28]; first | (rw [if_pos (Or.inl c120)]; done) | (rw [if_pos (Or.inr (by decide))]; done) | (rw [if_neg (fun hh => hh.elim c120 (by decide))]; done)))
      · intro left part s hl hp hk
        have hpF : part < 2 ^ A.ts town 0 := fg_le_lt hp hrl
        refine fg_iload (fg_ft (pc := 69) tb_Fb_leans 38 rfl) rfl ?_
        refine fg_if_leN (tgt := 118) (fg_ft (pc := 71) tb_Fb_leans 39 rfl) (by decide) (by omega) (fun c71 => (absurd c71 (by omega))) (fun c71 => ?_)
        refine fg_aload (fg_ft (pc := 74) tb_Fb_leans 40 rfl) rfl ?_
        refine fg_getR (fg_ft (pc := 76) tb_Fb_leans 41 rfl) ff_Fb_194 ly_273 rfl (fg_lt ly_273 (by decide)) rfl ?_
        refine fg_iload (fg_ft (pc := 79) tb_Fb_leans 42 rfl) rfl ?_
        refine fg_iload (fg_ft (pc := 81) tb_Fb_leans 43 rfl) rfl ?_
        refine fg_callV (fg_ft (pc := 83) tb_Fb_leans 44 rfl) cf_Fb_327 (fg_isOf (tT_lay ht) rfl (fg_lt (tT_lay ht) (by decide))) (as := [.int (nI part), .int (nI fact)]) (st := []) rfl rfl (Nat.le_of_ble_eq_true rfl) (Nat.le_refl _) (Nat.le_refl _) (ev_Town_isWay ht hT1 hok (s := part) (f := fact) (hpF) (by omega) ?_)
        refine fg_ifB_eq (tgt := 103) (fg_ft (pc := 86) tb_Fb_leans 45 rfl) (by decide) (fun c86 => ?_) (fun c86 => ?_)
        · refine fg_iload (fg_ft (pc := 103) tb_Fb_leans 54 rfl) rfl ?_
          refine fg_iconst (fg_ft (pc := 105) tb_Fb_leans 55 rfl) ic_1 ?_
          refine fg_isub (fg_ft (pc := 106) tb_Fb_leans 56 rfl) ?_
          refine fg_iload (fg_ft (pc := 107) tb_Fb_leans 57 rfl) rfl ?_
          refine fg_iand (fg_ft (pc := 109) tb_Fb_leans 58 rfl) ?_
          refine fg_top fg_nx_I ?_
          refine fg_istore (fg_ft (pc := 110) tb_Fb_leans 59 rfl) (Nat.le_of_ble_eq_true rfl) ?_
          refine fg_iinc (fg_ft (pc := 112) tb_Fb_leans 60 rfl) rfl (v := nI left) (by rw [ic_m1]; exact pk_m1 _) ?_
          refine fg_goto (tgt := 69) (fg_ft (pc := 115) tb_Fb_leans 61 rfl) (by decide) ?_
          rw [show fg_wyg (A.ts town) fact part s = s from fg_ifF c86] at hk; exact hk
        · refine fg_iload (fg_ft (pc := 89) tb_Fb_leans 46 rfl) rfl ?_
          refine fg_iload (fg_ft (pc := 91) tb_Fb_leans 47 rfl) rfl ?_
          refine fg_iorN (fg_ft (pc := 93) tb_Fb_leans 48 rfl) ?_
          refine fg_istore (fg_ft (pc := 94) tb_Fb_leans 49 rfl) (Nat.le_of_ble_eq_true rfl) ?_
          refine fg_iload (fg_ft (pc := 96) tb_Fb_leans 50 rfl) rfl ?_
          refine fg_iload (fg_ft (pc := 98) tb_Fb_leans 51 rfl) rfl ?_
          refine fg_iandN (fg_ft (pc := 100) tb_Fb_leans 52 rfl) ?_
          refine fg_istore (fg_ft (pc := 101) tb_Fb_leans 53 rfl) (Nat.le_of_ble_eq_true rfl) ?_
          refine fg_iload (fg_ft (pc := 103) tb_Fb_leans 54 rfl) rfl ?_
          refine fg_iconst (fg_ft (pc := 105) tb_Fb_leans 55 rfl) ic_1 ?_
          refine fg_isub (fg_ft (pc := 106) tb_Fb_leans 56 rfl) ?_
          refine fg_iload (fg_ft (pc := 107) tb_Fb_leans 57 rfl) rfl ?_
          refine fg_iand (fg_ft (pc := 109) tb_Fb_leans 58 rfl) ?_
          refine fg_top fg_nx_I ?_
          refine fg_istore (fg_ft (pc := 110) tb_Fb_leans 59 rfl) (Nat.le_of_ble_eq_true rfl) ?_
          refine fg_iinc (fg_ft (pc := 112) tb_Fb_leans 60 rfl) rfl (v := nI left) (by rw [ic_m1]; exact pk_m1 _) ?_
          refine fg_goto (tgt := 69) (fg_ft (pc := 115) tb_Fb_leans 61 rfl) (by decide) ?_
          rw [show fg_wyg (A.ts town) fact part s = (s.1 + 1, s.2.1 ||| part, s.2.2 &&& part) from fg_ifT c86] at hk; exact hk
    · refine fg_iconst (fg_ft (pc := 31) tb_Fb_leans 15 rfl) ic_m1 ?_
      exact fg_iret (fg_ft (pc := 32) tb_Fb_leans 16 rfl) rfl rfl (fg_q (hQ _ (some (104 + 14 * town), R.2.1, R.2.2.1, R.2.2.2) (fg_agQ_F (Or.inl rfl) ho1)) (by unfold an_leans; first | rw [fg_g1_none n4] | (rw [fg_g1_some y4 y5]; rw [if_neg c28])))
