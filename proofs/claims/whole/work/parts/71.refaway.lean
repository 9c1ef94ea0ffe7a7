/-! the whole evening, and what keeps a fact away -/
theorem fg_MS.loud0 {μ : Nat → Nat → Int32} {T : Nat → Nat} {h a b : Nat} {Mv hv lv : Nat → Nat} {o : Option Nat × Nat × Nat} {n0 y : Int32} (H : fg_MS μ T (h, (Mv, a, b, 0), hv) lv o n0 y) : fg_MS (fg_u2 μ 287 20 (nI 0)) T (h, (Mv, a, b, 0), hv) lv o n0 0 := by
  obtain ⟨h1, h2, h3, h4, h5, h6, h7, h8, h9⟩ := H
  exact ⟨(fg_u2ns (by decide)).trans h1, fun q hq => (fg_u2ne (by decide)).trans (h2 q hq), fun q hq => (fg_u2ne (by decide)).trans (h3 q hq), fun q hq => (fg_u2ne (by decide)).trans (h4 q hq), (fg_u2ns (by decide)).trans h5, fg_u2eq.trans (show nI 0 = 0 ||| nI 0 by decide), (fg_u2ns (by decide)).trans h7, h8.elim Or.inl (fun zz => Or.inr ((fg_u2ns (by decide)).trans zz)), (fg_u2ns (by decide)).trans h9⟩
theorem fg_0or (x : Int32) : (0 : Int32) ||| x = x := by
  rw [Int32.or_comm]; exact fg_or0 x
theorem fg_shl_pos (h : Nat) : 1 ≤ 2 <<< h := by
  rw [Nat.shiftLeft_eq]; have := Nat.two_pow_pos h; omega
theorem fg_MS.mk0 {μ : Nat → Nat → Int32} {T : Nat → Nat} {h : Nat} {M hv lv : Nat → Nat} {o : Option Nat × Nat × Nat} (h1 : μ 287 15 = nI h) (h2 : ∀ p, p < T 2 → μ 292 p = nI (M p)) (h3 : ∀ p, p < T 2 → μ 293 p = nI (hv p)) (h4 : ∀ p, p < T 2 → μ 294 p = nI (lv p)) (h7 : μ 287 17 = fg_o o.1 ∧ (o.1 = none ∨ μ 287 18 = nI o.2.1) ∧ μ 287 19 = nI o.2.2) : fg_MS μ T (h, (M, 0, 0, 0), hv) lv o (μ 287 16) (μ 287 20) := ⟨h1, h2, h3, h4, (fg_ad0 _).symm, (fg_or0 _).symm, h7⟩
def fg_agW (μ μ' : Nat → Nat → Int32) : Prop := (∀ a, a ≠ 287 → a ≠ 292 → a ≠ 293 → a ≠ 294 → ∀ j, μ' a j = μ a j) ∧ μ' 287 17 = μ 287 17 ∧ μ' 287 19 = μ 287 19
theorem fg_agW_rf (μ : Nat → Nat → Int32) : fg_agW μ μ := ⟨fun _ _ _ _ _ _ => rfl, rfl, rfl⟩
theorem fg_agW_tr {μ μ' μ'' : Nat → Nat → Int32} (h1 : fg_agW μ μ') (h2 : fg_agW μ' μ'') : fg_agW μ μ'' := ⟨fun a a1 a2 a3 a4 j => (h2.1 a a1 a2 a3 a4 j).trans (h1.1 a a1 a2 a3 a4 j), h2.2.1.trans h1.2.1, h2.2.2.trans h1.2.2⟩
theorem fg_agW_P {μ μ' : Nat → Nat → Int32} (h : fg_agP μ μ') : fg_agW μ μ' := ⟨h.1, h.2 17 (by decide) (by decide) (by decide), h.2 19 (by decide) (by decide) (by decide)⟩
theorem fg_agR_W {μ μ' : Nat → Nat → Int32} (h : fg_agW μ μ') : fg_agR μ μ' := ⟨fun a ha j => h.1 a (by omega) (by omega) (by omega) (by omega) j, h.2⟩
theorem fg_MT.agW {μ μ' : Nat → Nat → Int32} {v : Nat} {T : Nat → Nat} (h : fg_MT (μ 288) v T) (e : fg_agW μ μ') : fg_MT (μ' 288) v T := h.ag (e.1 288 (by decide) (by decide) (by decide) (by decide))
theorem fg_MC.agW {μ μ' : Nat → Nat → Int32} {T : Nat → Nat} (h : fg_MC μ T) (e : fg_agW μ μ') : fg_MC μ' T := fun s hs => (e.1 291 (by decide) (by decide) (by decide) (by decide) s).trans (h s hs)
theorem ev_Mo_whole {E : fg_E} {d : Nat} {μ : Nat → Nat → Int32} {R : fg_T4} {Q : Option Value → fg_M → Prop} {A : fg_Tl} (hL : fg_ML (μ 288) A) (hw : fg_wA A) (h17 : μ 287 17 = -1) (h19 : μ 287 19 = nI 0) {town day n what : Nat} (htown : town < 2 ^ 32) (hday : day < 2 ^ 32) (hn : n < 2 ^ 32) (hwhat : what < 2 ^ 32) (hQ : ∀ μ' : Nat → Nat → Int32, fg_agR μ μ' → Q (some (.int (an_whole A town day n what))) (μ', fg_rho R, 304)) : fg_Ev E yy_Mo_whole (d + 12) [.ref 287, .int (nI town), .int (nI day), .int (nI n), .int (nI what)] (μ, fg_rho R, 304) 304 Q := by
  have ht2 := hw.2.1
  have hd3 := hw.2.2.1
  refine fg_intro (by decide +kernel) (Nat.le_of_ble_eq_true rfl) (fg_okAs rfl) (Nat.le_refl _) ?_
  refine fg_iload (fg_ft (pc := 0) tb_Mo_whole 0 rfl) rfl ?_
  refine fg_iconst (fg_ft (pc := 2) tb_Mo_whole 1 rfl) ic_0 ?_
  refine fg_iconst (fg_ft (pc := 3) tb_Mo_whole 2 rfl) ic_2 ?_
  refine fg_callS (fg_ft (pc := 4) tb_Mo_whole 3 rfl) cf_Mo_110 (as := [.int (nI what), .int (nI 0), .int (nI 2)]) (st := []) rfl rfl (Nat.le_of_ble_eq_true rfl) (Nat.le_refl _) (Nat.le_refl _) (ev_Mo_isInC (k := what) (a := 0) (b := 2) (hwhat) (by omega) (by omega) ?_)
  refine fg_ifB_eq (tgt := 20) (fg_ft (pc := 7) tb_Mo_whole 4 rfl) (by decide) (fun c7 => ?_) (fun c7 => ?_)
  · refine fg_iconst (fg_ft (pc := 20) tb_Mo_whole 11 rfl) ic_m1 ?_
    exact fg_iret (fg_ft (pc := 21) tb_Mo_whole 12 rfl) rfl rfl (fg_q (hQ _ (fg_agR_rf μ)) (by unfold an_whole; rw [fg_g0_cst (by intro T S lv; (repeat (first | rw [if_neg (by omega)] | rw [if_pos (by omega)])); (try (split <;> first | rfl | rw [if_neg (by omega)] | (exfalso; omega))))]))
  · refine fg_aloadn (fg_ft (pc := 10) tb_Mo_whole 5 rfl) rfl ?_
    refine fg_iloadn (fg_ft (pc := 11) tb_Mo_whole 6 rfl) rfl ?_
    refine fg_iloadn (fg_ft (pc := 12) tb_Mo_whole 7 rfl) rfl ?_
    refine fg_iloadn (fg_ft (pc := 13) tb_Mo_whole 8 rfl) rfl ?_
    refine fg_callV (fg_ft (pc := 14) tb_Mo_whole 9 rfl) cf_Mo_249 (fg_isOf ly_287 rfl (fg_lt ly_287 (by decide))) (as := [.int (nI town), .int (nI day), .int (nI n)]) (st := []) rfl rfl (Nat.le_of_ble_eq_true rfl) (Nat.le_refl _) (Nat.le_refl _) (ev_Mo_isState hL hw h17 h19 htown hday hn (fun n4 μ1 ha1 => ?_) (fun S lv y4 μ1 n1 y1 ha1 hC1 hS1 => ?_))
    · refine fg_if_ne (tgt := 22) (fg_ft (pc := 17) tb_Mo_whole 10 rfl) (by decide) (fun h => absurd h (by decide)) (fun _ => ?_)
      refine fg_iconst (fg_ft (pc := 20) tb_Mo_whole 11 rfl) ic_m1 ?_
      exact fg_iret (fg_ft (pc := 21) tb_Mo_whole 12 rfl) rfl rfl (fg_q (hQ _ (fg_agR_A ha1)) (by unfold an_whole; rw [fg_g0_none n4] <;> ((repeat (first | rw [if_pos (by assumption)] | rw [if_neg (by assumption)] | rw [if_pos (by omega)] | rw [if_neg (by omega)] | rw [if_pos (by constructor <;> assumption)] | rw [if_neg (by intro hh; exact absurd hh.1 (by assumption))] | rw [if_neg (by intro hh; exact absurd hh.2 (by assumption))])); (try rfl))))
    · have ytc := fg_fnd_t y4
      have hok := hw.2.2.2.1 town ytc
      have hM1 := (hL.2.2.1 town ytc).ag ha1.m
      have hz : fg_zok (A.ts town) S.1 (S.2.1.1, 0, 0, 0) S.2.2 := fg_zok.news (fg_fnd_okW hw y4)
      have hv0 := hM1.1
      have hb0 := hok.1
      have hb1 := hok.2.1
      have hp := hok.p
      have hz9 := hz.1
      refine fg_if_ne (tgt := 22) (fg_ft (pc := 17) tb_Mo_whole 10 rfl) (by decide) (fun _ => ?_) (fun h => absurd h (by decide))
      refine fg_iconst (fg_ft (pc := 22) tb_Mo_whole 13 rfl) ic_0 ?_
      refine fg_iloadn (fg_ft (pc := 23) tb_Mo_whole 14 rfl) rfl ?_
      refine fg_callS (fg_ft (pc := 24) tb_Mo_whole 15 rfl) cf_Mo_166 (as := [.int (nI 0), .int (nI town)]) (st := []) rfl rfl (Nat.le_of_ble_eq_true rfl) (Nat.le_refl _) (Nat.le_refl _) (ev_Mo_placeOf0 (k := town) ?_)
      refine fg_istore (fg_ft (pc := 27) tb_Mo_whole 16 rfl) (Nat.le_of_ble_eq_true rfl) ?_
      refine fg_iload (fg_ft (pc := 29) tb_Mo_whole 17 rfl) rfl ?_
      refine fg_if_neW (tgt := 41) (fg_ft (pc := 31) tb_Mo_whole 18 rfl) (by decide) (hwhat) (fun c31 => ?_) (fun c31 => ?_)
      · refine fg_iload (fg_ft (pc := 41) tb_Mo_whole 23 rfl) rfl ?_
        refine fg_iconst (fg_ft (pc := 43) tb_Mo_whole 24 rfl) ic_1 ?_
        refine fg_icmp_neW (tgt := 54) (fg_ft (pc := 44) tb_Mo_whole 25 rfl) (by decide) (hwhat) (by decide) (fun c44 => ?_) (fun c44 => ?_)
        · refine fg_aloadn (fg_ft (pc := 54) tb_Mo_whole 30 rfl) rfl ?_
          refine fg_iconst (fg_ft (pc := 55) tb_Mo_whole 31 rfl) ic_0 ?_
          refine fg_putI (fg_ft (pc := 56) tb_Mo_whole 32 rfl) ff_Mo_224 ly_287 rfl (fg_lt ly_287 (by decide)) (fg_nokI _) (fun _ _ h => by cases h; rfl) ?_
          show fg_wp _ _ _ _ _ _ _ _ _ (fg_u2 μ1 287 20 (nI 0), fg_rho R, 304)
          have hag3 : fg_agP μ1 (fg_u2 μ1 287 20 (nI 0)) := fg_agP_u (Or.inr (Or.inr (Or.inr ⟨rfl, Or.inr (Or.inr rfl)⟩)))
          have hM3 := hM1.agP hag3
          have hC3 := hC1.agP hag3
          have hS3 := hS1.loud0
          refine fg_aloadn (fg_ft (pc := 59) tb_Mo_whole 33 rfl) rfl ?_
          refine fg_iload (fg_ft (pc := 60) tb_Mo_whole 34 rfl) rfl ?_
          refine fg_callV (fg_ft (pc := 62) tb_Mo_whole 35 rfl) cf_Mo_255 (fg_isOf ly_287 rfl (fg_lt ly_287 (by decide))) (as := [.int (nI (610 + 152 * town))]) (st := []) rfl rfl (Nat.le_of_ble_eq_true rfl) (Nat.le_refl _) (Nat.le_refl _) (ev_Mo_toEvening hM3 hok hC3 (h := S.1) (Z := (S.2.1.1, 0, 0, 0)) (hv := S.2.2) (lv := lv) (o := ((none : Option Nat), 0, 0)) (n0 := n1) (y := 0) hS3 hz (fun q hq => by cases hq) (by decide) (by decide) ?_)
          intro μ2 hag2 hS2
          have hM2 := hM3.agP hag2
          have hC2 := hC3.agP hag2
          have hS2 : fg_MS μ2 (A.ts town) (fg_ev (A.ts town) S) lv ((none : Option Nat), 0, 0) n1 0 := hS2
          have hz2 := fg_ev_ok hok (S := S) hz
          show fg_wp _ _ _ _ _ _ _ _ _ (μ2, fg_rho R, 304)
          refine fg_iconst (fg_ft (pc := 65) tb_Mo_whole 36 rfl) ic_1 ?_
          refine fg_aloadn (fg_ft (pc := 66) tb_Mo_whole 37 rfl) rfl ?_
          refine fg_getR (fg_ft (pc := 67) tb_Mo_whole 38 rfl) ff_Mo_7 ly_287 rfl (fg_lt ly_287 (by decide)) (rh_287_0 R) ?_
          refine fg_iload (fg_ft (pc := 70) tb_Mo_whole 39 rfl) rfl ?_
          refine fg_iconst (fg_ft (pc := 72) tb_Mo_whole 40 rfl) ic_4 ?_
          refine fg_iaddN (fg_ft (pc := 73) tb_Mo_whole 41 rfl) ?_
          refine fg_ialdV (v := (nI ((A.ts town) 4))) (fg_ft (pc := 74) tb_Mo_whole 42 rfl) ly_288 (fg_lt ly_288 (by decide)) (by omega) (fg_MTat hM2 (i := (610 + 152 * town) + 4) (k := 4) (by omega) (by omega)) ?_
          refine fg_ishl1 (fg_ft (pc := 75) tb_Mo_whole 43 rfl) (by omega) ?_
          refine fg_iconst (fg_ft (pc := 76) tb_Mo_whole 44 rfl) ic_1 ?_
          refine fg_isubN (fg_ft (pc := 77) tb_Mo_whole 45 rfl) (Nat.one_le_two_pow) ?_
          refine fg_aloadn (fg_ft (pc := 78) tb_Mo_whole 46 rfl) rfl ?_
          refine fg_getV (v := (nI ((fg_ev (A.ts town) S).2.1.2.2.2))) (fg_ft (pc := 79) tb_Mo_whole 47 rfl) ff_Mo_224 ly_287 rfl (fg_lt ly_287 (by decide)) (hS2.2.2.2.2.2.1.trans (fg_0or _)) ?_
          refine fg_iconst (fg_ft (pc := 82) tb_Mo_whole 48 rfl) ic_m1 ?_
          refine fg_ixor (fg_ft (pc := 83) tb_Mo_whole 49 rfl) ?_
          refine fg_iandD (fg_ft (pc := 84) tb_Mo_whole 50 rfl) ?_
          exact fg_iret (fg_ft (pc := 85) tb_Mo_whole 51 rfl) rfl rfl (fg_q (hQ _ (fg_agR_tr (fg_agR_tr (fg_agR_A ha1) (fg_agR_P hag3)) (fg_agR_P hag2))) (by unfold an_whole; rw [fg_g0_some y4] <;> ((repeat (first | rw [if_pos (by assumption)] | rw [if_neg (by assumption)] | rw [if_pos (by omega)] | rw [if_neg (by omega)] | rw [if_pos (by constructor <;> assumption)] | rw [if_neg (by intro hh; exact absurd hh.1 (by assumption))] | rw [if_neg (by intro hh; exact absurd hh.2 (by assumption))])); (try rfl))))
        · refine fg_aloadn (fg_ft (pc := 47) tb_Mo_whole 26 rfl) rfl ?_
          refine fg_iload (fg_ft (pc := 48) tb_Mo_whole 27 rfl) rfl ?_
          refine fg_callV (fg_ft (pc := 50) tb_Mo_whole 28 rfl) cf_Mo_330 (fg_isOf ly_287 rfl (fg_lt ly_287 (by decide))) (as := [.int (nI (610 + 152 * town))]) (st := []) rfl rfl (Nat.le_of_ble_eq_true rfl) (Nat.le_refl _) (Nat.le_refl _) (ev_Mo_busy hM1 hok hC1 (h := S.1) (Z := (S.2.1.1, 0, 0, 0)) (hv := S.2.2) hS1 hz rfl ?_)
          intro μ2 hag2
          show fg_wp _ _ _ _ _ _ _ _ _ (μ2, fg_rho R, 304)
          exact fg_iret (fg_ft (pc := 53) tb_Mo_whole 29 rfl) rfl rfl (fg_q (hQ _ (fg_agR_tr (fg_agR_A ha1) (fg_agR_X2 hag2))) (by unfold an_whole; rw [fg_g0_some y4] <;> ((repeat (first | rw [if_pos (by assumption)] | rw [if_neg (by assumption)] | rw [if_pos (by omega)] | rw [if_neg (by omega)] | rw [if_pos (by constructor <;> assumption)] | rw [if_neg (by intro hh; exact absurd hh.1 (by assumption))] | rw [if_neg (by intro hh; exact absurd hh.2 (by assumption))])); (try rfl))))
      · refine fg_aloadn (fg_ft (pc := 34) tb_Mo_whole 19 rfl) rfl ?_
        refine fg_iload (fg_ft (pc := 35) tb_Mo_whole 20 rfl) rfl ?_
        refine fg_callV (fg_ft (pc := 37) tb_Mo_whole 21 rfl) cf_Mo_327 (fg_isOf ly_287 rfl (fg_lt ly_287 (by decide))) (as := [.int (nI (610 + 152 * town))]) (st := []) rfl rfl (Nat.le_of_ble_eq_true rfl) (Nat.le_refl _) (Nat.le_refl _) (ev_Mo_secrets hM1 hok (h := S.1) (Z := (S.2.1.1, 0, 0, 0)) (hv := S.2.2) hS1 hz ?_)
        exact fg_iret (fg_ft (pc := 40) tb_Mo_whole 22 rfl) rfl rfl (fg_q (hQ _ (fg_agR_A ha1)) (by unfold an_whole; rw [fg_g0_some y4] <;> ((repeat (first | rw [if_pos (by assumption)] | rw [if_neg (by assumption)] | rw [if_pos (by omega)] | rw [if_neg (by omega)] | rw [if_pos (by constructor <;> assumption)] | rw [if_neg (by intro hh; exact absurd hh.1 (by assumption))] | rw [if_neg (by intro hh; exact absurd hh.2 (by assumption))])); (try rfl))))
theorem fg_pcw_add (m : Nat) (k : Nat) : ∀ w, fg_pcw (k + w) m = fg_pcw k m + fg_pcw w (m >>> k) := by
  intro w
  induction w with
  | zero => rfl
  | succ w ih =>
    show fg_pcw (k + w) m + (m.testBit (k + w)).toNat = fg_pcw k m + (fg_pcw w (m >>> k) + ((m >>> k).testBit w).toNat)
    rw [ih, Nat.testBit_shiftRight]
    omega
theorem fg_pcw_and (m : Nat) : ∀ w, w ≤ 10 → fg_pcw w (m &&& 1023) = fg_pcw w m := by
  intro w
  induction w with
  | zero => intro _; rfl
  | succ w ih =>
    intro hw
    show fg_pcw w (m &&& 1023) + ((m &&& 1023).testBit w).toNat = fg_pcw w m + (m.testBit w).toNat
    rw [ih (by omega), Nat.testBit_and, show (1023 : Nat) = 2 ^ 10 - 1 from rfl, fg_all_bit, decide_eq_true (show w < 10 by omega), Bool.and_true]
theorem fg_pcw_hi {m : Nat} {k : Nat} (h : m < 2 ^ k) : ∀ w, fg_pcw (k + w) m = fg_pcw k m := by
  intro w
  induction w with
  | zero => rfl
  | succ w ih =>
    show fg_pcw (k + w) m + (m.testBit (k + w)).toNat = _
    rw [ih, Nat.testBit_lt_two_pow (Nat.lt_of_lt_of_le h (Nat.pow_le_pow_right (by decide) (by omega)))]
    rfl
theorem fg_pc_12 {m : Nat} (h : m < 4096) : fg_pc (m &&& 1023) + fg_pc (m >>> 10) = fg_pc m := by
  have e1 : fg_pc m = fg_pcw 10 m + fg_pcw 2 (m >>> 10) := fg_pcw_add m 10 2
  have e2 : fg_pc (m &&& 1023) = fg_pcw 10 m := by
    have := fg_pcw_hi (m := m &&& 1023) (k := 10) (Nat.and_lt_two_pow (n := 10) m (by decide)) 2
    rw [fg_pcw_and m 10 (Nat.le_refl _)] at this
    exact this
  have e3 : fg_pc (m >>> 10) = fg_pcw 2 (m >>> 10) := fg_pcw_hi (m := m >>> 10) (k := 2) (by rw [Nat.shiftRight_eq_div_pow]; omega) 10
  omega
theorem fg_le_lt9 (m : Nat) : m &&& 1023 < 1024 := Nat.and_lt_two_pow (n := 10) m (by decide)
theorem ev_Mo_size12 {E : fg_E} {d : Nat} {μ : Nat → Nat → Int32} {R : fg_T4} {Q : Option Value → fg_M → Prop} {m : Nat} (hm : m < 4096) (hQ : Q (some (.int (nI (fg_pc m)))) (μ, fg_rho R, 304)) : fg_Ev E yy_Mo_size12 (d + 2) [.int (nI m)] (μ, fg_rho R, 304) 304 Q := by
  refine fg_intro (by decide +kernel) (Nat.le_of_ble_eq_true rfl) (fg_okAs rfl) (Nat.le_refl _) ?_
  refine fg_iloadn (fg_ft (pc := 0) tb_Mo_size12 0 rfl) rfl ?_
  refine fg_sipush (fg_ft (pc := 1) tb_Mo_size12 1 rfl) is_1023 ?_
  refine fg_iandN (fg_ft (pc := 4) tb_Mo_size12 2 rfl) ?_
  refine fg_callS (fg_ft (pc := 5) tb_Mo_size12 3 rfl) cf_Mo_185 (as := [.int (nI (m &&& 1023))]) (st := []) rfl rfl (Nat.le_of_ble_eq_true rfl) (Nat.le_refl _) (Nat.le_refl _) (ev_Mo_many (s := (m &&& 1023)) (fg_le_lt9 m) ?_)
  refine fg_iloadn (fg_ft (pc := 8) tb_Mo_size12 4 rfl) rfl ?_
  refine fg_bipush (fg_ft (pc := 9) tb_Mo_size12 5 rfl) ib_10 ?_
  refine fg_ishrN (fg_ft (pc := 11) tb_Mo_size12 6 rfl) (by omega) (by omega) ?_
  refine fg_callS (fg_ft (pc := 12) tb_Mo_size12 7 rfl) cf_Mo_185 (as := [.int (nI (m >>> 10))]) (st := [.int (nI (fg_pc (m &&& 1023)))]) rfl rfl (Nat.le_of_ble_eq_true rfl) (Nat.le_refl _) (Nat.le_refl _) (ev_Mo_many (s := (m >>> 10)) (by rw [Nat.shiftRight_eq_div_pow]; omega) ?_)
  refine fg_iaddN (fg_ft (pc := 15) tb_Mo_size12 8 rfl) ?_
  exact fg_iret (fg_ft (pc := 16) tb_Mo_size12 9 rfl) rfl rfl (fg_q hQ (by rw [fg_pc_12 hm]))
theorem ev_Mo_stay {E : fg_E} {d : Nat} {μ : Nat → Nat → Int32} {R : fg_T4} {Q : Option Value → fg_M → Prop} {A : fg_Tl} (hL : fg_ML (μ 288) A) (hw : fg_wA A) (h17 : μ 287 17 = -1) (h19 : μ 287 19 = nI 0) {town day n person fact : Nat} (htown : town < 2 ^ 32) (hday : day < 2 ^ 32) (hn : n < 2 ^ 32) (hperson : person < 2 ^ 32) (hfact : fact < 2 ^ 32) (hQ : ∀ μ' : Nat → Nat → Int32, fg_agR μ μ' → Q (some (.int (an_stay A town day n person fact))) (μ', fg_rho R, 304)) : fg_Ev E yy_Mo_stay (d + 12) [.ref 287, .int (nI town), .int (nI day), .int (nI n), .int (nI person), .int (nI fact)] (μ, fg_rho R, 304) 304 Q := by
  have ht2 := hw.2.1
  have hd3 := hw.2.2.1
  refine fg_intro (by decide +kernel) (Nat.le_of_ble_eq_true rfl) (fg_okAs rfl) (Nat.le_refl _) ?_
  refine fg_aloadn (fg_ft (pc := 0) tb_Mo_stay 0 rfl) rfl ?_
  refine fg_iloadn (fg_ft (pc := 1) tb_Mo_stay 1 rfl) rfl ?_
  refine fg_iloadn (fg_ft (pc := 2) tb_Mo_stay 2 rfl) rfl ?_
  refine fg_iloadn (fg_ft (pc := 3) tb_Mo_stay 3 rfl) rfl ?_
  refine fg_iload (fg_ft (pc := 4) tb_Mo_stay 4 rfl) rfl ?_
  refine fg_callV (fg_ft (pc := 6) tb_Mo_stay 5 rfl) cf_Mo_258 (fg_isOf ly_287 rfl (fg_lt ly_287 (by decide))) (as := [.int (nI town), .int (nI day), .int (nI n), .int (nI person)]) (st := []) rfl rfl (Nat.le_of_ble_eq_true rfl) (Nat.le_refl _) (Nat.le_refl _) (ev_Mo_isOne hL hw h17 h19 htown hday hn hperson (fun n4 μ1 ha1 => ?_) (fun S lv y4 y5 μ1 n1 y1 ha1 hC1 hS1 => ?_))
  · refine fg_if_eq (tgt := 26) (fg_ft (pc := 9) tb_Mo_stay 6 rfl) (by decide) (fun _ => ?_) (fun h => absurd h (by decide))
    refine fg_iconst (fg_ft (pc := 26) tb_Mo_stay 14 rfl) ic_m1 ?_
    exact fg_iret (fg_ft (pc := 27) tb_Mo_stay 15 rfl) rfl rfl (fg_q (hQ _ (fg_agR_A ha1)) (by unfold an_stay; rw [fg_g1_none n4] <;> ((repeat (first | rw [if_pos (by assumption)] | rw [if_neg (by assumption)] | rw [if_pos (by omega)] | rw [if_neg (by omega)] | rw [if_pos (by constructor <;> assumption)] | rw [if_neg (by intro hh; exact absurd hh.1 (by assumption))] | rw [if_neg (by intro hh; exact absurd hh.2 (by assumption))])); (try rfl))))
  · have ytc := fg_fnd_t y4
    have hok := hw.2.2.2.1 town ytc
    have hM1 := (hL.2.2.1 town ytc).ag ha1.m
    have hz : fg_zok (A.ts town) S.1 (S.2.1.1, 0, 0, 0) S.2.2 := fg_zok.news (fg_fnd_okW hw y4)
    have hv0 := hM1.1
    have hb0 := hok.1
    have hb1 := hok.2.1
    have hp := hok.p
    have hz9 := hz.1
    have hm2 := hz.2.1 person y5
    have hm0 : S.2.1.1 person < 2 ^ A.ts town 0 := hm2.1
    have hmc : fg_clsd (A.ts town) (S.2.1.1 person) := hm2.2
    have hm10 : S.2.1.1 person < 1024 := by omega
    refine fg_if_eq (tgt := 26) (fg_ft (pc := 9) tb_Mo_stay 6 rfl) (by decide) (fun h => absurd h (by decide)) (fun _ => ?_)
    refine fg_aloadn (fg_ft (pc := 12) tb_Mo_stay 7 rfl) rfl ?_
    refine fg_iconst (fg_ft (pc := 13) tb_Mo_stay 8 rfl) ic_0 ?_
    refine fg_iloadn (fg_ft (pc := 14) tb_Mo_stay 9 rfl) rfl ?_
    refine fg_callS (fg_ft (pc := 15) tb_Mo_stay 10 rfl) cf_Mo_166 (as := [.int (nI 0), .int (nI town)]) (st := [.ref 287]) rfl rfl (Nat.le_of_ble_eq_true rfl) (Nat.le_refl _) (Nat.le_refl _) (ev_Mo_placeOf0 (k := town) ?_)
    refine fg_iload (fg_ft (pc := 18) tb_Mo_stay 11 rfl) rfl ?_
    refine fg_callV (fg_ft (pc := 20) tb_Mo_stay 12 rfl) cf_Mo_233 (fg_isOf ly_287 rfl (fg_lt ly_287 (by decide))) (as := [.int (nI (610 + 152 * town)), .int (nI fact)]) (st := []) rfl rfl (Nat.le_of_ble_eq_true rfl) (Nat.le_refl _) (Nat.le_refl _) (ev_Mo_isFact hM1 hok (k := fact) (hfact) ?_)
    refine fg_ifB_ne (tgt := 28) (fg_ft (pc := 23) tb_Mo_stay 13 rfl) (by decide) (fun c23 => ?_) (fun c23 => ?_)
    · refine fg_iconst (fg_ft (pc := 28) tb_Mo_stay 16 rfl) ic_0 ?_
      refine fg_iloadn (fg_ft (pc := 29) tb_Mo_stay 17 rfl) rfl ?_
      refine fg_callS (fg_ft (pc := 30) tb_Mo_stay 18 rfl) cf_Mo_166 (as := [.int (nI 0), .int (nI town)]) (st := []) rfl rfl (Nat.le_of_ble_eq_true rfl) (Nat.le_refl _) (Nat.le_refl _) (ev_Mo_placeOf0 (k := town) ?_)
      refine fg_istore (fg_ft (pc := 33) tb_Mo_stay 19 rfl) (Nat.le_of_ble_eq_true rfl) ?_
      refine fg_aloadn (fg_ft (pc := 35) tb_Mo_stay 20 rfl) rfl ?_
      refine fg_getV (v := (nI (S.1))) (fg_ft (pc := 36) tb_Mo_stay 21 rfl) ff_Mo_200 ly_287 rfl (fg_lt ly_287 (by decide)) hS1.1 ?_
      refine fg_istore (fg_ft (pc := 39) tb_Mo_stay 22 rfl) (Nat.le_of_ble_eq_true rfl) ?_
      have hz9 := hz.1
      refine fg_aloadn (fg_ft (pc := 41) tb_Mo_stay 23 rfl) rfl ?_
      refine fg_iload (fg_ft (pc := 42) tb_Mo_stay 24 rfl) rfl ?_
      refine fg_callV (fg_ft (pc := 44) tb_Mo_stay 25 rfl) cf_Mo_288 (fg_isOf ly_287 rfl (fg_lt ly_287 (by decide))) (as := [.int (nI (610 + 152 * town))]) (st := []) rfl rfl (Nat.le_of_ble_eq_true rfl) (Nat.le_refl _) (Nat.le_refl _) (ev_Mo_keepsState hM1 hok (h := S.1) (Z := (S.2.1.1, 0, 0, 0)) (hv := S.2.2) hS1 hz ?_)
      intro μk hk1 h300 h301
      have hMk := hM1.ag (hk1 288 (by decide) (by decide))
      have hCk := hC1.ag (hk1 291 (by decide) (by decide))
      have hSk := hS1.agK hk1
      show fg_wp _ _ _ _ _ _ _ _ _ (μk, fg_rho R, 304)
      refine fg_aloadn (fg_ft (pc := 47) tb_Mo_stay 26 rfl) rfl ?_
      refine fg_iload (fg_ft (pc := 48) tb_Mo_stay 27 rfl) rfl ?_
      refine fg_iload (fg_ft (pc := 50) tb_Mo_stay 28 rfl) rfl ?_
      refine fg_iconst (fg_ft (pc := 52) tb_Mo_stay 29 rfl) ic_2 ?_
      refine fg_callV (fg_ft (pc := 53) tb_Mo_stay 30 rfl) cf_Mo_203 (fg_isOf ly_287 rfl (fg_lt ly_287 (by decide))) (as := [.int (nI (610 + 152 * town)), .int (nI person), .int (nI 2)]) (st := []) rfl rfl (Nat.le_of_ble_eq_true rfl) (Nat.le_refl _) (Nat.le_refl _) (ev_Mo_kept hMk hok (p := person) (w := 2) (k := 42 + 3 * person) (by omega) (by omega) (by omega) ?_)
      refine fg_iconst (fg_ft (pc := 56) tb_Mo_stay 31 rfl) ic_2 ?_
      refine fg_iload (fg_ft (pc := 57) tb_Mo_stay 32 rfl) rfl ?_
      refine fg_ishlN (fg_ft (pc := 59) tb_Mo_stay 33 rfl) (by omega) ?_
      refine fg_iconst (fg_ft (pc := 60) tb_Mo_stay 34 rfl) ic_1 ?_
      refine fg_isubN (fg_ft (pc := 61) tb_Mo_stay 35 rfl) (fg_shl_pos _) ?_
      refine fg_iconst (fg_ft (pc := 62) tb_Mo_stay 36 rfl) ic_m1 ?_
      refine fg_ixor (fg_ft (pc := 63) tb_Mo_stay 37 rfl) ?_
      refine fg_iandD (fg_ft (pc := 64) tb_Mo_stay 38 rfl) ?_
      refine fg_top (show nI (fg_df (A.ts town (42 + 3 * person)) ((2 <<< S.1) - 1)) = nI (fg_sth (A.ts town) S person) from rfl) ?_
      have hpool : fg_sth (A.ts town) S person < 1024 := Nat.lt_of_le_of_lt (fg_le_le (fg_df_le _ _)) (hok.2.2.2.1 person y5).2.2
      refine fg_istore (fg_ft (pc := 65) tb_Mo_stay 39 rfl) (Nat.le_of_ble_eq_true rfl) ?_
      refine fg_iconst (fg_ft (pc := 67) tb_Mo_stay 40 rfl) ic_m1 ?_
      refine fg_istore (fg_ft (pc := 68) tb_Mo_stay 41 rfl) (Nat.le_of_ble_eq_true rfl) ?_
      refine fg_iconst (fg_ft (pc := 70) tb_Mo_stay 42 rfl) ic_0 ?_
      refine fg_istore (fg_ft (pc := 71) tb_Mo_stay 43 rfl) (Nat.le_of_ble_eq_true rfl) ?_
      have loop : ∀ (m s : Nat) (r : Option Nat) (ν : Nat → Nat → Int32), (fg_sth (A.ts town) S person + 1) - s < m → s ≤ fg_sth (A.ts town) S person + 1 → fg_mn (fun s => fg_le s (fg_sth (A.ts town) S person) ∧ fg_kA (A.ts town) S 0 person fact s) s r → fg_agW μk ν → (∀ q, q < A.ts town 2 → ν 294 q = nI (lv q)) → fg_wp E yy_Mo_stay (d + 12) 304 304 Q 73 [.ref 287, .int (nI town), .int (nI day), .int (nI n), .int (nI person), .int (nI fact), .int (nI (610 + 152 * town)), .int (nI (S.1)), .int (nI (fg_sth (A.ts town) S person)), .int (fg_o r), .int (nI s)] [] (ν, fg_rho R, 304) := by
        intro m
        induction m with
        | zero => intro s r ν  h; exact absurd h (Nat.not_lt_zero _)
        | succ m ih =>
          intro s r ν  hm hs hI hag h294
          have hMn := hMk.agW hag
          have hCn := hCk.agW hag
          cases r with
          | none =>
            show fg_wp E yy_Mo_stay (d + 12) 304 304 Q 73 [.ref 287, .int (nI town), .int (nI day), .int (nI n), .int (nI person), .int (nI fact), .int (nI (610 + 152 * town)), .int (nI (S.1)), .int (nI (fg_sth (A.ts town) S person)), .int (-1), .int (nI s)] [] (ν, fg_rho R, 304)
            refine fg_iload (fg_ft (pc := 73) tb_Mo_stay 44 rfl) rfl ?_
            refine fg_iload (fg_ft (pc := 75) tb_Mo_stay 45 rfl) rfl ?_
            refine fg_icmp_gtN (tgt := 163) (fg_ft (pc := 77) tb_Mo_stay 46 rfl) (by decide) (by omega) (by omega) (fun c77 => ?_) (fun c77 => ?_)
            · refine fg_iload (fg_ft (pc := 163) tb_Mo_stay 86 rfl) rfl ?_
              exact fg_iret (fg_ft (pc := 165) tb_Mo_stay 87 rfl) rfl rfl (fg_q (hQ ν (fg_agR_tr (fg_agR_A ha1) (fg_agR_tr (fg_agR_K hk1) (fg_agR_W hag)))) (by unfold an_stay; rw [fg_g1_some y4 y5] <;> (rw [if_pos c23, fg_mn_end hI (fun q hq => by have := fg_le_le hq.1; omega)]; rfl)))
            · refine fg_iload (fg_ft (pc := 80) tb_Mo_stay 47 rfl) rfl ?_
              refine fg_iload (fg_ft (pc := 82) tb_Mo_stay 48 rfl) rfl ?_
              refine fg_iconst (fg_ft (pc := 84) tb_Mo_stay 49 rfl) ic_m1 ?_
              refine fg_ixor (fg_ft (pc := 85) tb_Mo_stay 50 rfl) ?_
              refine fg_iandD (fg_ft (pc := 86) tb_Mo_stay 51 rfl) ?_
              refine fg_if_neN (tgt := 157) (fg_ft (pc := 87) tb_Mo_stay 52 rfl) (by decide) (fg_df_le31 (by omega)) (fun c87 => ?_) (fun c87 => ?_)
              · refine fg_iincN (fg_ft (pc := 157) tb_Mo_stay 84 rfl) rfl ic_1 rfl ?_
                refine fg_goto (tgt := 73) (fg_ft (pc := 160) tb_Mo_stay 85 rfl) (by decide) ?_
                exact ih (s + 1) none _ (by omega) (by omega) (fg_mn_0 hI (fun hh => by first | exact c87 (fg_df0.mpr hh.1) | exact hka2.mp hh.2 c150)) hag h294
              · refine fg_iload (fg_ft (pc := 90) tb_Mo_stay 53 rfl) rfl ?_
                refine fg_if_lt (tgt := 111) (fg_ft (pc := 92) tb_Mo_stay 54 rfl) (by decide) (fun c92 => ?_) (fun c92 => (absurd (by decide) c92))
                refine fg_aloadn (fg_ft (pc := 111) tb_Mo_stay 61 rfl) rfl ?_
                refine fg_iload (fg_ft (pc := 112) tb_Mo_stay 62 rfl) rfl ?_
                refine fg_iload (fg_ft (pc := 114) tb_Mo_stay 63 rfl) rfl ?_
                refine fg_callV (fg_ft (pc := 116) tb_Mo_stay 64 rfl) cf_Mo_291 (fg_isOf ly_287 rfl (fg_lt ly_287 (by decide))) (as := [.int (nI (610 + 152 * town)), .int (nI (S.1))]) (st := []) rfl rfl (Nat.le_of_ble_eq_true rfl) (Nat.le_refl _) (Nat.le_refl _) (ev_Mo_asItWas (lv := lv) hMn hok (h := S.1) (M := S.2.1.1) (hv := S.2.2) (fun q9 hq9 => (hag.1 300 (by decide) (by decide) (by decide) (by decide) _).trans (h300 q9 hq9)) (fun q9 hq9 => (hag.1 301 (by decide) (by decide) (by decide) (by decide) _).trans (h301 q9 hq9)) h294 ?_)
                intro μa hga a1 a2 a3 a4
                have b1 : μa 287 17 = -1 := (hga.2 17 (by decide) (by decide) (by decide)).trans (hag.2.1.trans hSk.2.2.2.2.2.2.1)
                have b2 : μa 287 19 = nI 0 := (hga.2 19 (by decide) (by decide) (by decide)).trans (hag.2.2.trans hSk.2.2.2.2.2.2.2.2)
                show fg_wp _ _ _ _ _ _ _ _ _ (μa, fg_rho R, 304)
                refine fg_aloadn (fg_ft (pc := 119) tb_Mo_stay 65 rfl) rfl ?_
                refine fg_iload (fg_ft (pc := 120) tb_Mo_stay 66 rfl) rfl ?_
                refine fg_putI (fg_ft (pc := 122) tb_Mo_stay 67 rfl) ff_Mo_32 ly_287 rfl (fg_lt ly_287 (by decide)) (fg_nokI _) (fun _ _ h => by cases h; rfl) ?_
                show fg_wp _ _ _ _ _ _ _ _ _ (fg_u2 μa 287 17 (nI person), fg_rho R, 304)
                refine fg_aloadn (fg_ft (pc := 125) tb_Mo_stay 68 rfl) rfl ?_
                refine fg_iload (fg_ft (pc := 126) tb_Mo_stay 69 rfl) rfl ?_
                refine fg_putI (fg_ft (pc := 128) tb_Mo_stay 70 rfl) ff_Mo_215 ly_287 rfl (fg_lt ly_287 (by decide)) (fg_nokI _) (fun _ _ h => by cases h; rfl) ?_
                show fg_wp _ _ _ _ _ _ _ _ _ (fg_u2 (fg_u2 μa 287 17 (nI person)) 287 18 (nI s), fg_rho R, 304)
                have hMb : fg_MT ((fg_u2 (fg_u2 μa 287 17 (nI person)) 287 18 (nI s)) 288) (610 + 152 * town) (A.ts town) := hMn.ag (fun j => (fg_u2ne (by decide)).trans ((fg_u2ne (by decide)).trans (hga.1 288 (by decide) (by decide) (by decide) (by decide) j)))
                have hCb : fg_MC (fg_u2 (fg_u2 μa 287 17 (nI person)) 287 18 (nI s)) (A.ts town) := hCn.ag (fun j => (fg_u2ne (by decide)).trans ((fg_u2ne (by decide)).trans (hga.1 291 (by decide) (by decide) (by decide) (by decide) j)))
                have hSb : fg_MS (fg_u2 (fg_u2 μa 287 17 (nI person)) 287 18 (nI s)) (A.ts town) (S.1, (S.2.1.1, 0, 0, 0), S.2.2) lv (some person, s, 0) (μa 287 16) (μa 287 20) := ⟨(fg_u2ns (by decide)).trans ((fg_u2ns (by decide)).trans a1), fun q9 hq9 => (fg_u2ne (by decide)).trans ((fg_u2ne (by decide)).trans (a2 q9 hq9)), fun q9 hq9 => (fg_u2ne (by decide)).trans ((fg_u2ne (by decide)).trans (a3 q9 hq9)), fun q9 hq9 => (fg_u2ne (by decide)).trans ((fg_u2ne (by decide)).trans (a4 q9 hq9)), ((fg_u2ns (by decide)).trans ((fg_u2ns (by decide)).trans (fg_ad0 _).symm)), ((fg_u2ns (by decide)).trans ((fg_u2ns (by decide)).trans (fg_or0 _).symm)), ⟨(fg_u2ns (by decide)).trans fg_u2eq, Or.inr fg_u2eq, (fg_u2ns (by decide)).trans ((fg_u2ns (by decide)).trans b2)⟩⟩
                refine fg_aloadn (fg_ft (pc := 131) tb_Mo_stay 71 rfl) rfl ?_
                refine fg_iload (fg_ft (pc := 132) tb_Mo_stay 72 rfl) rfl ?_
                refine fg_callV (fg_ft (pc := 134) tb_Mo_stay 73 rfl) cf_Mo_255 (fg_isOf ly_287 rfl (fg_lt ly_287 (by decide))) (as := [.int (nI (610 + 152 * town))]) (st := []) rfl rfl (Nat.le_of_ble_eq_true rfl) (Nat.le_refl _) (Nat.le_refl _) (ev_Mo_toEvening hMb hok hCb (h := S.1) (Z := (S.2.1.1, 0, 0, 0)) (hv := S.2.2) (lv := lv) (o := (some person, s, 0)) (n0 := μa 287 16) (y := μa 287 20) hSb hz (fun q9 hq9 => by cases hq9; omega) (by show s < 2 ^ 31; omega) (Nat.two_pow_pos 31) ?_)
                intro μe hge hSe
                have hSe : fg_MS μe (A.ts town) (fg_pn (A.ts town) (some person, s, 0) (9 - S.1) (S.1, (S.2.1.1, 0, 0, 0), S.2.2)) lv (some person, s, 0) (μa 287 16) (μa 287 20) := hSe
                have hze : fg_zok (A.ts town) (fg_pn (A.ts town) (some person, s, 0) (9 - S.1) (S.1, (S.2.1.1, 0, 0, 0), S.2.2)).1 (fg_pn (A.ts town) (some person, s, 0) (9 - S.1) (S.1, (S.2.1.1, 0, 0, 0), S.2.2)).2.1 (fg_pn (A.ts town) (some person, s, 0) (9 - S.1) (S.1, (S.2.1.1, 0, 0, 0), S.2.2)).2.2 := fg_pn_ok hok (o := (some person, s, 0)) (9 - S.1) (S.1, (S.2.1.1, 0, 0, 0), S.2.2) hz
                have hka := fg_kA_pn hok (S := S) hz (how := 0) (p := person) (k := fact) (set := s) y5
                have hka2 : fg_kA (A.ts town) S 0 person fact s ↔ ¬ ((fg_pn (A.ts town) (some person, s, 0) (9 - S.1) (S.1, (S.2.1.1, 0, 0, 0), S.2.2)).2.1.1 person).testBit fact = true := hka
                show fg_wp _ _ _ _ _ _ _ _ _ (μe, fg_rho R, 304)
                refine fg_aloadn (fg_ft (pc := 137) tb_Mo_stay 74 rfl) rfl ?_
                refine fg_iconst (fg_ft (pc := 138) tb_Mo_stay 75 rfl) ic_m1 ?_
                refine fg_putI (fg_ft (pc := 139) tb_Mo_stay 76 rfl) ff_Mo_32 ly_287 rfl (fg_lt ly_287 (by decide)) (fg_nokI _) (fun _ _ h => by cases h; rfl) ?_
                show fg_wp _ _ _ _ _ _ _ _ _ (fg_u2 μe 287 17 (-1), fg_rho R, 304)
                have hgz : fg_agW ν (fg_u2 μe 287 17 (-1)) := ⟨fun a a1 a2 a3 a4 j => (fg_u2ne a1).trans ((hge.1 a a1 a2 a3 a4 j).trans ((fg_u2ne a1).trans ((fg_u2ne a1).trans (hga.1 a a1 a2 a3 a4 j)))), fg_u2eq.trans (hag.2.1.trans hSk.2.2.2.2.2.2.1).symm, (fg_u2ns (by decide)).trans ((hge.2 19 (by decide) (by decide) (by decide)).trans ((fg_u2ns (by decide)).trans ((fg_u2ns (by decide)).trans (hga.2 19 (by decide) (by decide) (by decide)))))⟩
                have hlz : ∀ q, q < A.ts town 2 → (fg_u2 μe 287 17 (-1)) 294 q = nI (lv q) := fun q hq => (fg_u2ne (by decide)).trans (hSe.2.2.2.1 q hq)
                refine fg_aloadn (fg_ft (pc := 142) tb_Mo_stay 77 rfl) rfl ?_
                refine fg_iload (fg_ft (pc := 143) tb_Mo_stay 78 rfl) rfl ?_
                refine fg_iload (fg_ft (pc := 145) tb_Mo_stay 79 rfl) rfl ?_
                refine fg_callV (fg_ft (pc := 147) tb_Mo_stay 80 rfl) cf_Mo_212 (fg_isOf ly_287 rfl (fg_lt ly_287 (by decide))) (as := [.int (nI person), .int (nI fact)]) (st := []) rfl rfl (Nat.le_of_ble_eq_true rfl) (Nat.le_refl _) (Nat.le_refl _) (ev_Mo_knows (Mv := (fg_pn (A.ts town) (some person, s, 0) (9 - S.1) (S.1, (S.2.1.1, 0, 0, 0), S.2.2)).2.1.1) (T := (A.ts town)) (fun q9 hq9 => ((fg_u2ne (f := μe) (a := 287) (k := 17) (b := 292) (j := q9) (x := (-1)) (by decide)).trans (hSe.2.1 q9 hq9))) (p := person) (f := fact) (by omega) (by omega) (fg_km hok hze (by omega)) ?_)
                refine fg_ifB_ne (tgt := 157) (fg_ft (pc := 150) tb_Mo_stay 81 rfl) (by decide) (fun c150 => ?_) (fun c150 => ?_)
                · refine fg_iincN (fg_ft (pc := 157) tb_Mo_stay 84 rfl) rfl ic_1 rfl ?_
                  refine fg_goto (tgt := 73) (fg_ft (pc := 160) tb_Mo_stay 85 rfl) (by decide) ?_
                  exact ih (s + 1) none _ (by omega) (by omega) (fg_mn_0 hI (fun hh => by first | exact c87 (fg_df0.mpr hh.1) | exact hka2.mp hh.2 c150)) (fg_agW_tr hag hgz) hlz
                · refine fg_iload (fg_ft (pc := 153) tb_Mo_stay 82 rfl) rfl ?_
                  refine fg_istore (fg_ft (pc := 155) tb_Mo_stay 83 rfl) (Nat.le_of_ble_eq_true rfl) ?_
                  refine fg_iincN (fg_ft (pc := 157) tb_Mo_stay 84 rfl) rfl ic_1 rfl ?_
                  refine fg_goto (tgt := 73) (fg_ft (pc := 160) tb_Mo_stay 85 rfl) (by decide) ?_
                  exact ih (s + 1) (some s) _ (by omega) (by omega) (fg_mn_1 hI ⟨fg_df0.mp c87, hka2.mpr c150⟩) (fg_agW_tr hag hgz) hlz
          | some p =>
            show fg_wp E yy_Mo_stay (d + 12) 304 304 Q 73 [.ref 287, .int (nI town), .int (nI day), .int (nI n), .int (nI person), .int (nI fact), .int (nI (610 + 152 * town)), .int (nI (S.1)), .int (nI (fg_sth (A.ts town) S person)), .int (nI p), .int (nI s)] [] (ν, fg_rho R, 304)
            have hps := hI.1
            have hpc1 := fg_pc_le p
            have hpc2 := fg_pc_le s
            refine fg_iload (fg_ft (pc := 73) tb_Mo_stay 44 rfl) rfl ?_
            refine fg_iload (fg_ft (pc := 75) tb_Mo_stay 45 rfl) rfl ?_
            refine fg_icmp_gtN (tgt := 163) (fg_ft (pc := 77) tb_Mo_stay 46 rfl) (by decide) (by omega) (by omega) (fun c77 => ?_) (fun c77 => ?_)
            · refine fg_iload (fg_ft (pc := 163) tb_Mo_stay 86 rfl) rfl ?_
              exact fg_iret (fg_ft (pc := 165) tb_Mo_stay 87 rfl) rfl rfl (fg_q (hQ ν (fg_agR_tr (fg_agR_A ha1) (fg_agR_tr (fg_agR_K hk1) (fg_agR_W hag)))) (by unfold an_stay; rw [fg_g1_some y4 y5] <;> (rw [if_pos c23, fg_mn_end hI (fun q hq => by have := fg_le_le hq.1; omega)]; rfl)))
            · refine fg_iload (fg_ft (pc := 80) tb_Mo_stay 47 rfl) rfl ?_
              refine fg_iload (fg_ft (pc := 82) tb_Mo_stay 48 rfl) rfl ?_
              refine fg_iconst (fg_ft (pc := 84) tb_Mo_stay 49 rfl) ic_m1 ?_
              refine fg_ixor (fg_ft (pc := 85) tb_Mo_stay 50 rfl) ?_
              refine fg_iandD (fg_ft (pc := 86) tb_Mo_stay 51 rfl) ?_
              refine fg_if_neN (tgt := 157) (fg_ft (pc := 87) tb_Mo_stay 52 rfl) (by decide) (fg_df_le31 (by omega)) (fun c87 => ?_) (fun c87 => ?_)
              · refine fg_iincN (fg_ft (pc := 157) tb_Mo_stay 84 rfl) rfl ic_1 rfl ?_
                refine fg_goto (tgt := 73) (fg_ft (pc := 160) tb_Mo_stay 85 rfl) (by decide) ?_
                exact ih (s + 1) (some p) _ (by omega) (by omega) (by first | exact fg_mn_ge hI (by omega) | exact fg_mn_0 hI (fun hh => by first | exact c87 (fg_df0.mpr hh.1) | exact hka2.mp hh.2 c150)) hag h294
              · refine fg_iload (fg_ft (pc := 90) tb_Mo_stay 53 rfl) rfl ?_
                refine fg_if_ltN (tgt := 111) (fg_ft (pc := 92) tb_Mo_stay 54 rfl) (by decide) (by omega) ?_
                refine fg_iload (fg_ft (pc := 95) tb_Mo_stay 55 rfl) rfl ?_
                refine fg_callS (fg_ft (pc := 97) tb_Mo_stay 56 rfl) cf_Mo_185 (as := [.int (nI s)]) (st := []) rfl rfl (Nat.le_of_ble_eq_true rfl) (Nat.le_refl _) (Nat.le_refl _) (ev_Mo_many (s := s) (by omega) ?_)
                refine fg_iload (fg_ft (pc := 100) tb_Mo_stay 57 rfl) rfl ?_
                refine fg_callS (fg_ft (pc := 102) tb_Mo_stay 58 rfl) cf_Mo_185 (as := [.int (nI p)]) (st := [.int (nI (fg_pc s))]) rfl rfl (Nat.le_of_ble_eq_true rfl) (Nat.le_refl _) (Nat.le_refl _) (ev_Mo_many (s := p) (by omega) ?_)
                refine fg_icmp_ltN (tgt := 111) (fg_ft (pc := 105) tb_Mo_stay 59 rfl) (by decide) (by omega) (by omega) (fun c105 => ?_) (fun c105 => ?_)
                · refine fg_aloadn (fg_ft (pc := 111) tb_Mo_stay 61 rfl) rfl ?_
                  refine fg_iload (fg_ft (pc := 112) tb_Mo_stay 62 rfl) rfl ?_
                  refine fg_iload (fg_ft (pc := 114) tb_Mo_stay 63 rfl) rfl ?_
                  refine fg_callV (fg_ft (pc := 116) tb_Mo_stay 64 rfl) cf_Mo_291 (fg_isOf ly_287 rfl (fg_lt ly_287 (by decide))) (as := [.int (nI (610 + 152 * town)), .int (nI (S.1))]) (st := []) rfl rfl (Nat.le_of_ble_eq_true rfl) (Nat.le_refl _) (Nat.le_refl _) (ev_Mo_asItWas (lv := lv) hMn hok (h := S.1) (M := S.2.1.1) (hv := S.2.2) (fun q9 hq9 => (hag.1 300 (by decide) (by decide) (by decide) (by decide) _).trans (h300 q9 hq9)) (fun q9 hq9 => (hag.1 301 (by decide) (by decide) (by decide) (by decide) _).trans (h301 q9 hq9)) h294 ?_)
                  intro μa hga a1 a2 a3 a4
                  have b1 : μa 287 17 = -1 := (hga.2 17 (by decide) (by decide) (by decide)).trans (hag.2.1.trans hSk.2.2.2.2.2.2.1)
                  have b2 : μa 287 19 = nI 0 := (hga.2 19 (by decide) (by decide) (by decide)).trans (hag.2.2.trans hSk.2.2.2.2.2.2.2.2)
                  show fg_wp _ _ _ _ _ _ _ _ _ (μa, fg_rho R, 304)
                  refine fg_aloadn (fg_ft (pc := 119) tb_Mo_stay 65 rfl) rfl ?_
                  refine fg_iload (fg_ft (pc := 120) tb_Mo_stay 66 rfl) rfl ?_
                  refine fg_putI (fg_ft (pc := 122) tb_Mo_stay 67 rfl) ff_Mo_32 ly_287 rfl (fg_lt ly_287 (by decide)) (fg_nokI _) (fun _ _ h => by cases h; rfl) ?_
                  show fg_wp _ _ _ _ _ _ _ _ _ (fg_u2 μa 287 17 (nI person), fg_rho R, 304)
                  refine fg_aloadn (fg_ft (pc := 125) tb_Mo_stay 68 rfl) rfl ?_
                  refine fg_iload (fg_ft (pc := 126) tb_Mo_stay 69 rfl) rfl ?_
                  refine fg_putI (fg_ft (pc := 128) tb_Mo_stay 70 rfl) ff_Mo_215 ly_287 rfl (fg_lt ly_287 (by decide)) (fg_nokI _) (fun _ _ h => by cases h; rfl) ?_
                  show fg_wp _ _ _ _ _ _ _ _ _ (fg_u2 (fg_u2 μa 287 17 (nI person)) 287 18 (nI s), fg_rho R, 304)
                  have hMb : fg_MT ((fg_u2 (fg_u2 μa 287 17 (nI person)) 287 18 (nI s)) 288) (610 + 152 * town) (A.ts town) := hMn.ag (fun j => (fg_u2ne (by decide)).trans ((fg_u2ne (by decide)).trans (hga.1 288 (by decide) (by decide) (by decide) (by decide) j)))
                  have hCb : fg_MC (fg_u2 (fg_u2 μa 287 17 (nI person)) 287 18 (nI s)) (A.ts town) := hCn.ag (fun j => (fg_u2ne (by decide)).trans ((fg_u2ne (by decide)).trans (hga.1 291 (by decide) (by decide) (by decide) (by decide) j)))
                  have hSb : fg_MS (fg_u2 (fg_u2 μa 287 17 (nI person)) 287 18 (nI s)) (A.ts town) (S.1, (S.2.1.1, 0, 0, 0), S.2.2) lv (some person, s, 0) (μa 287 16) (μa 287 20) := ⟨(fg_u2ns (by decide)).trans ((fg_u2ns (by decide)).trans a1), fun q9 hq9 => (fg_u2ne (by decide)).trans ((fg_u2ne (by decide)).trans (a2 q9 hq9)), fun q9 hq9 => (fg_u2ne (by decide)).trans ((fg_u2ne (by decide)).trans (a3 q9 hq9)), fun q9 hq9 => (fg_u2ne (by decide)).trans ((fg_u2ne (by decide)).trans (a4 q9 hq9)), ((fg_u2ns (by decide)).trans ((fg_u2ns (by decide)).trans (fg_ad0 _).symm)), ((fg_u2ns (by decide)).trans ((fg_u2ns (by decide)).trans (fg_or0 _).symm)), ⟨(fg_u2ns (by decide)).trans fg_u2eq, Or.inr fg_u2eq, (fg_u2ns (by decide)).trans ((fg_u2ns (by decide)).trans b2)⟩⟩
                  refine fg_aloadn (fg_ft (pc := 131) tb_Mo_stay 71 rfl) rfl ?_
                  refine fg_iload (fg_ft (pc := 132) tb_Mo_stay 72 rfl) rfl ?_
                  refine fg_callV (fg_ft (pc := 134) tb_Mo_stay 73 rfl) cf_Mo_255 (fg_isOf ly_287 rfl (fg_lt ly_287 (by decide))) (as := [.int (nI (610 + 152 * town))]) (st := []) rfl rfl (Nat.le_of_ble_eq_true rfl) (Nat.le_refl _) (Nat.le_refl _) (ev_Mo_toEvening hMb hok hCb (h := S.1) (Z := (S.2.1.1, 0, 0, 0)) (hv := S.2.2) (lv := lv) (o := (some person, s, 0)) (n0 := μa 287 16) (y := μa 287 20) hSb hz (fun q9 hq9 => by cases hq9; omega) (by show s < 2 ^ 31; omega) (Nat.two_pow_pos 31) ?_)
                  intro μe hge hSe
                  have hSe : fg_MS μe (A.ts town) (fg_pn (A.ts town) (some person, s, 0) (9 - S.1) (S.1, (S.2.1.1, 0, 0, 0), S.2.2)) lv (some person, s, 0) (μa 287 16) (μa 287 20) := hSe
                  have hze : fg_zok (A.ts town) (fg_pn (A.ts town) (some person, s, 0) (9 - S.1) (S.1, (S.2.1.1, 0, 0, 0), S.2.2)).1 (fg_pn (A.ts town) (some person, s, 0) (9 - S.1) (S.1, (S.2.1.1, 0, 0, 0), S.2.2)).2.1 (fg_pn (A.ts town) (some person, s, 0) (9 - S.1) (S.1, (S.2.1.1, 0, 0, 0), S.2.2)).2.2 := fg_pn_ok hok (o := (some person, s, 0)) (9 - S.1) (S.1, (S.2.1.1, 0, 0, 0), S.2.2) hz
                  have hka := fg_kA_pn hok (S := S) hz (how := 0) (p := person) (k := fact) (set := s) y5
                  have hka2 : fg_kA (A.ts town) S 0 person fact s ↔ ¬ ((fg_pn (A.ts town) (some person, s, 0) (9 - S.1) (S.1, (S.2.1.1, 0, 0, 0), S.2.2)).2.1.1 person).testBit fact = true := hka
                  show fg_wp _ _ _ _ _ _ _ _ _ (μe, fg_rho R, 304)
                  refine fg_aloadn (fg_ft (pc := 137) tb_Mo_stay 74 rfl) rfl ?_
                  refine fg_iconst (fg_ft (pc := 138) tb_Mo_stay 75 rfl) ic_m1 ?_
                  refine fg_putI (fg_ft (pc := 139) tb_Mo_stay 76 rfl) ff_Mo_32 ly_287 rfl (fg_lt ly_287 (by decide)) (fg_nokI _) (fun _ _ h => by cases h; rfl) ?_
                  show fg_wp _ _ _ _ _ _ _ _ _ (fg_u2 μe 287 17 (-1), fg_rho R, 304)
                  have hgz : fg_agW ν (fg_u2 μe 287 17 (-1)) := ⟨fun a a1 a2 a3 a4 j => (fg_u2ne a1).trans ((hge.1 a a1 a2 a3 a4 j).trans ((fg_u2ne a1).trans ((fg_u2ne a1).trans (hga.1 a a1 a2 a3 a4 j)))), fg_u2eq.trans (hag.2.1.trans hSk.2.2.2.2.2.2.1).symm, (fg_u2ns (by decide)).trans ((hge.2 19 (by decide) (by decide) (by decide)).trans ((fg_u2ns (by decide)).trans ((fg_u2ns (by decide)).trans (hga.2 19 (by decide) (by decide) (by decide)))))⟩
                  have hlz : ∀ q, q < A.ts town 2 → (fg_u2 μe 287 17 (-1)) 294 q = nI (lv q) := fun q hq => (fg_u2ne (by decide)).trans (hSe.2.2.2.1 q hq)
                  refine fg_aloadn (fg_ft (pc := 142) tb_Mo_stay 77 rfl) rfl ?_
                  refine fg_iload (fg_ft (pc := 143) tb_Mo_stay 78 rfl) rfl ?_
                  refine fg_iload (fg_ft (pc := 145) tb_Mo_stay 79 rfl) rfl ?_
                  refine fg_callV (fg_ft (pc := 147) tb_Mo_stay 80 rfl) cf_Mo_212 (fg_isOf ly_287 rfl (fg_lt ly_287 (by decide))) (as := [.int (nI person), .int (nI fact)]) (st := []) rfl rfl (Nat.le_of_ble_eq_true rfl) (Nat.le_refl _) (Nat.le_refl _) (ev_Mo_knows (Mv := (fg_pn (A.ts town) (some person, s, 0) (9 - S.1) (S.1, (S.2.1.1, 0, 0, 0), S.2.2)).2.1.1) (T := (A.ts town)) (fun q9 hq9 => ((fg_u2ne (f := μe) (a := 287) (k := 17) (b := 292) (j := q9) (x := (-1)) (by decide)).trans (hSe.2.1 q9 hq9))) (p := person) (f := fact) (by omega) (by omega) (fg_km hok hze (by omega)) ?_)
                  refine fg_ifB_ne (tgt := 157) (fg_ft (pc := 150) tb_Mo_stay 81 rfl) (by decide) (fun c150 => ?_) (fun c150 => ?_)
                  · refine fg_iincN (fg_ft (pc := 157) tb_Mo_stay 84 rfl) rfl ic_1 rfl ?_
                    refine fg_goto (tgt := 73) (fg_ft (pc := 160) tb_Mo_stay 85 rfl) (by decide) ?_
                    exact ih (s + 1) (some p) _ (by omega) (by omega) (by first | exact fg_mn_ge hI (by omega) | exact fg_mn_0 hI (fun hh => by first | exact c87 (fg_df0.mpr hh.1) | exact hka2.mp hh.2 c150)) (fg_agW_tr hag hgz) hlz
                  · refine fg_iload (fg_ft (pc := 153) tb_Mo_stay 82 rfl) rfl ?_
                    refine fg_istore (fg_ft (pc := 155) tb_Mo_stay 83 rfl) (Nat.le_of_ble_eq_true rfl) ?_
                    refine fg_iincN (fg_ft (pc := 157) tb_Mo_stay 84 rfl) rfl ic_1 rfl ?_
                    refine fg_goto (tgt := 73) (fg_ft (pc := 160) tb_Mo_stay 85 rfl) (by decide) ?_
                    exact ih (s + 1) (some s) _ (by omega) (by omega) (fg_mn_2 hI (by omega) ⟨fg_df0.mp c87, hka2.mpr c150⟩) (fg_agW_tr hag hgz) hlz
                · refine fg_goto (tgt := 157) (fg_ft (pc := 108) tb_Mo_stay 60 rfl) (by decide) ?_
                  refine fg_iincN (fg_ft (pc := 157) tb_Mo_stay 84 rfl) rfl ic_1 rfl ?_
                  refine fg_goto (tgt := 73) (fg_ft (pc := 160) tb_Mo_stay 85 rfl) (by decide) ?_
                  exact ih (s + 1) (some p) _ (by omega) (by omega) (by first | exact fg_mn_ge hI (by omega) | exact fg_mn_0 hI (fun hh => by first | exact c87 (fg_df0.mpr hh.1) | exact hka2.mp hh.2 c150)) hag h294
      exact loop ((fg_sth (A.ts town) S person) + 1 + 1) 0 none μk (by omega) (by omega) (fun q hq => absurd hq (Nat.not_lt_zero _)) (fg_agW_rf _) hSk.2.2.2.1
    · refine fg_iconst (fg_ft (pc := 26) tb_Mo_stay 14 rfl) ic_m1 ?_
      exact fg_iret (fg_ft (pc := 27) tb_Mo_stay 15 rfl) rfl rfl (fg_q (hQ _ (fg_agR_A ha1)) (by unfold an_stay; rw [fg_g1_some y4 y5] <;> ((repeat (first | rw [if_pos (by assumption)] | rw [if_neg (by assumption)] | rw [if_pos (by omega)] | rw [if_neg (by omega)] | rw [if_pos (by constructor <;> assumption)] | rw [if_neg (by intro hh; exact absurd hh.1 (by assumption))] | rw [if_neg (by intro hh; exact absurd hh.2 (by assumption))])); (try rfl))))
theorem ev_Mo_shut {E : fg_E} {d : Nat} {μ : Nat → Nat → Int32} {R : fg_T4} {Q : Option Value → fg_M → Prop} {A : fg_Tl} (hL : fg_ML (μ 288) A) (hw : fg_wA A) (h17 : μ 287 17 = -1) (h19 : μ 287 19 = nI 0) {town day n person fact : Nat} (htown : town < 2 ^ 32) (hday : day < 2 ^ 32) (hn : n < 2 ^ 32) (hperson : person < 2 ^ 32) (hfact : fact < 2 ^ 32) (hQ : ∀ μ' : Nat → Nat → Int32, fg_agR μ μ' → Q (some (.int (an_shut A town day n person fact))) (μ', fg_rho R, 304)) : fg_Ev E yy_Mo_shut (d + 12) [.ref 287, .int (nI town), .int (nI day), .int (nI n), .int (nI person), .int (nI fact)] (μ, fg_rho R, 304) 304 Q := by
  have ht2 := hw.2.1
  have hd3 := hw.2.2.1
  refine fg_intro (by decide +kernel) (Nat.le_of_ble_eq_true rfl) (fg_okAs rfl) (Nat.le_refl _) ?_
  refine fg_aloadn (fg_ft (pc := 0) tb_Mo_shut 0 rfl) rfl ?_
  refine fg_iloadn (fg_ft (pc := 1) tb_Mo_shut 1 rfl) rfl ?_
  refine fg_iloadn (fg_ft (pc := 2) tb_Mo_shut 2 rfl) rfl ?_
  refine fg_iloadn (fg_ft (pc := 3) tb_Mo_shut 3 rfl) rfl ?_
  refine fg_iload (fg_ft (pc := 4) tb_Mo_shut 4 rfl) rfl ?_
  refine fg_callV (fg_ft (pc := 6) tb_Mo_shut 5 rfl) cf_Mo_258 (fg_isOf ly_287 rfl (fg_lt ly_287 (by decide))) (as := [.int (nI town), .int (nI day), .int (nI n), .int (nI person)]) (st := []) rfl rfl (Nat.le_of_ble_eq_true rfl) (Nat.le_refl _) (Nat.le_refl _) (ev_Mo_isOne hL hw h17 h19 htown hday hn hperson (fun n4 μ1 ha1 => ?_) (fun S lv y4 y5 μ1 n1 y1 ha1 hC1 hS1 => ?_))
  · refine fg_if_eq (tgt := 26) (fg_ft (pc := 9) tb_Mo_shut 6 rfl) (by decide) (fun _ => ?_) (fun h => absurd h (by decide))
    refine fg_iconst (fg_ft (pc := 26) tb_Mo_shut 14 rfl) ic_m1 ?_
    exact fg_iret (fg_ft (pc := 27) tb_Mo_shut 15 rfl) rfl rfl (fg_q (hQ _ (fg_agR_A ha1)) (by unfold an_shut; rw [fg_g1_none n4] <;> ((repeat (first | rw [if_pos (by assumption)] | rw [if_neg (by assumption)] | rw [if_pos (by omega)] | rw [if_neg (by omega)] | rw [if_pos (by constructor <;> assumption)] | rw [if_neg (by intro hh; exact absurd hh.1 (by assumption))] | rw [if_neg (by intro hh; exact absurd hh.2 (by assumption))])); (try rfl))))
  · have ytc := fg_fnd_t y4
    have hok := hw.2.2.2.1 town ytc
    have hM1 := (hL.2.2.1 town ytc).ag ha1.m
    have hz : fg_zok (A.ts town) S.1 (S.2.1.1, 0, 0, 0) S.2.2 := fg_zok.news (fg_fnd_okW hw y4)
    have hv0 := hM1.1
    have hb0 := hok.1
    have hb1 := hok.2.1
    have hp := hok.p
    have hz9 := hz.1
    have hm2 := hz.2.1 person y5
    have hm0 : S.2.1.1 person < 2 ^ A.ts town 0 := hm2.1
    have hmc : fg_clsd (A.ts town) (S.2.1.1 person) := hm2.2
    have hm10 : S.2.1.1 person < 1024 := by omega
    refine fg_if_eq (tgt := 26) (fg_ft (pc := 9) tb_Mo_shut 6 rfl) (by decide) (fun h => absurd h (by decide)) (fun _ => ?_)
    refine fg_aloadn (fg_ft (pc := 12) tb_Mo_shut 7 rfl) rfl ?_
    refine fg_iconst (fg_ft (pc := 13) tb_Mo_shut 8 rfl) ic_0 ?_
    refine fg_iloadn (fg_ft (pc := 14) tb_Mo_shut 9 rfl) rfl ?_
    refine fg_callS (fg_ft (pc := 15) tb_Mo_shut 10 rfl) cf_Mo_166 (as := [.int (nI 0), .int (nI town)]) (st := [.ref 287]) rfl rfl (Nat.le_of_ble_eq_true rfl) (Nat.le_refl _) (Nat.le_refl _) (ev_Mo_placeOf0 (k := town) ?_)
    refine fg_iload (fg_ft (pc := 18) tb_Mo_shut 11 rfl) rfl ?_
    refine fg_callV (fg_ft (pc := 20) tb_Mo_shut 12 rfl) cf_Mo_233 (fg_isOf ly_287 rfl (fg_lt ly_287 (by decide))) (as := [.int (nI (610 + 152 * town)), .int (nI fact)]) (st := []) rfl rfl (Nat.le_of_ble_eq_true rfl) (Nat.le_refl _) (Nat.le_refl _) (ev_Mo_isFact hM1 hok (k := fact) (hfact) ?_)
    refine fg_ifB_ne (tgt := 28) (fg_ft (pc := 23) tb_Mo_shut 13 rfl) (by decide) (fun c23 => ?_) (fun c23 => ?_)
    · refine fg_iconst (fg_ft (pc := 28) tb_Mo_shut 16 rfl) ic_0 ?_
      refine fg_iloadn (fg_ft (pc := 29) tb_Mo_shut 17 rfl) rfl ?_
      refine fg_callS (fg_ft (pc := 30) tb_Mo_shut 18 rfl) cf_Mo_166 (as := [.int (nI 0), .int (nI town)]) (st := []) rfl rfl (Nat.le_of_ble_eq_true rfl) (Nat.le_refl _) (Nat.le_refl _) (ev_Mo_placeOf0 (k := town) ?_)
      refine fg_istore (fg_ft (pc := 33) tb_Mo_shut 19 rfl) (Nat.le_of_ble_eq_true rfl) ?_
      refine fg_aloadn (fg_ft (pc := 35) tb_Mo_shut 20 rfl) rfl ?_
      refine fg_getV (v := (nI (S.1))) (fg_ft (pc := 36) tb_Mo_shut 21 rfl) ff_Mo_200 ly_287 rfl (fg_lt ly_287 (by decide)) hS1.1 ?_
      refine fg_istore (fg_ft (pc := 39) tb_Mo_shut 22 rfl) (Nat.le_of_ble_eq_true rfl) ?_
      have hz9 := hz.1
      refine fg_aloadn (fg_ft (pc := 41) tb_Mo_shut 23 rfl) rfl ?_
      refine fg_iload (fg_ft (pc := 42) tb_Mo_shut 24 rfl) rfl ?_
      refine fg_callV (fg_ft (pc := 44) tb_Mo_shut 25 rfl) cf_Mo_288 (fg_isOf ly_287 rfl (fg_lt ly_287 (by decide))) (as := [.int (nI (610 + 152 * town))]) (st := []) rfl rfl (Nat.le_of_ble_eq_true rfl) (Nat.le_refl _) (Nat.le_refl _) (ev_Mo_keepsState hM1 hok (h := S.1) (Z := (S.2.1.1, 0, 0, 0)) (hv := S.2.2) hS1 hz ?_)
      intro μk hk1 h300 h301
      have hMk := hM1.ag (hk1 288 (by decide) (by decide))
      have hCk := hC1.ag (hk1 291 (by decide) (by decide))
      have hSk := hS1.agK hk1
      show fg_wp _ _ _ _ _ _ _ _ _ (μk, fg_rho R, 304)
      refine fg_iconst (fg_ft (pc := 47) tb_Mo_shut 26 rfl) ic_0 ?_
      refine fg_istore (fg_ft (pc := 48) tb_Mo_shut 27 rfl) (Nat.le_of_ble_eq_true rfl) ?_
      refine fg_iconst (fg_ft (pc := 50) tb_Mo_shut 28 rfl) ic_0 ?_
      refine fg_istore (fg_ft (pc := 51) tb_Mo_shut 29 rfl) (Nat.le_of_ble_eq_true rfl) ?_
      have build : ∀ (m i : Nat), A.ts town 4 - i < m → i ≤ A.ts town 4 → fg_wp E yy_Mo_shut (d + 12) 304 304 Q 53 [.ref 287, .int (nI town), .int (nI day), .int (nI n), .int (nI person), .int (nI fact), .int (nI (610 + 152 * town)), .int (nI (S.1)), .int (nI (fg_mtc (A.ts town) S.1 i)), .int (nI i), .retAddr 0] [] (μk, fg_rho R, 304) := by
        intro m
        induction m with
        | zero => intro i h; exact absurd h (Nat.not_lt_zero _)
        | succ m ih =>
          intro i hm hi
          have hmi : i < A.ts town 4 → A.ts town (81 + 4 * i) < 2 ^ 31 := fun hh => by have := hok.2.2.2.2.2.1 i hh; omega
          refine fg_iload (fg_ft (pc := 53) tb_Mo_shut 30 rfl) rfl ?_
          refine fg_aloadn (fg_ft (pc := 55) tb_Mo_shut 31 rfl) rfl ?_
          refine fg_getR (fg_ft (pc := 56) tb_Mo_shut 32 rfl) ff_Mo_7 ly_287 rfl (fg_lt ly_287 (by decide)) (rh_287_0 R) ?_
          refine fg_iload (fg_ft (pc := 59) tb_Mo_shut 33 rfl) rfl ?_
          refine fg_iconst (fg_ft (pc := 61) tb_Mo_shut 34 rfl) ic_4 ?_
          refine fg_iaddN (fg_ft (pc := 62) tb_Mo_shut 35 rfl) ?_
          refine fg_ialdV (v := (nI ((A.ts town) 4))) (fg_ft (pc := 63) tb_Mo_shut 36 rfl) ly_288 (fg_lt ly_288 (by decide)) (by omega) (fg_MTat hMk (i := (610 + 152 * town) + 4) (k := 4) (by omega) (by omega)) ?_
          refine fg_icmp_geN (tgt := 108) (fg_ft (pc := 64) tb_Mo_shut 37 rfl) (by decide) (by omega) (by omega) (fun c64 => ?_) (fun c64 => ?_)
          · refine fg_iconst (fg_ft (pc := 108) tb_Mo_shut 62 rfl) ic_m1 ?_
            refine fg_istore (fg_ft (pc := 109) tb_Mo_shut 63 rfl) (Nat.le_of_ble_eq_true rfl) ?_
            refine fg_iconst (fg_ft (pc := 111) tb_Mo_shut 64 rfl) ic_0 ?_
            refine fg_istore (fg_ft (pc := 112) tb_Mo_shut 65 rfl) (Nat.le_of_ble_eq_true rfl) ?_
            obtain rfl : i = A.ts town 4 := by omega
            have hpool : fg_mtc (A.ts town) S.1 (A.ts town 4) < 4096 := Nat.lt_of_lt_of_le (fg_mtc_lt _) (fg_p12 (by omega))
            have loop : ∀ (m s : Nat) (r : Option Nat) (ν : Nat → Nat → Int32), (fg_mtc (A.ts town) S.1 (A.ts town 4) + 1) - s < m → s ≤ fg_mtc (A.ts town) S.1 (A.ts town 4) + 1 → fg_mn (fun s => fg_le s (fg_mtc (A.ts town) S.1 (A.ts town 4)) ∧ fg_kA (A.ts town) S 1 person fact s) s r → fg_agW μk ν → (∀ q, q < A.ts town 2 → ν 294 q = nI (lv q)) → fg_wp E yy_Mo_shut (d + 12) 304 304 Q 114 [.ref 287, .int (nI town), .int (nI day), .int (nI n), .int (nI person), .int (nI fact), .int (nI (610 + 152 * town)), .int (nI (S.1)), .int (nI (fg_mtc (A.ts town) S.1 (A.ts town 4))), .int (fg_o r), .int (nI s)] [] (ν, fg_rho R, 304) := by
              intro m
              induction m with
              | zero => intro s r ν  h; exact absurd h (Nat.not_lt_zero _)
              | succ m ih =>
                intro s r ν  hm hs hI hag h294
                have hMn := hMk.agW hag
                have hCn := hCk.agW hag
                cases r with
                | none =>
                  show fg_wp E yy_Mo_shut (d + 12) 304 304 Q 114 [.ref 287, .int (nI town), .int (nI day), .int (nI n), .int (nI person), .int (nI fact), .int (nI (610 + 152 * town)), .int (nI (S.1)), .int (nI (fg_mtc (A.ts town) S.1 (A.ts town 4))), .int (-1), .int (nI s)] [] (ν, fg_rho R, 304)
                  refine fg_iload (fg_ft (pc := 114) tb_Mo_shut 66 rfl) rfl ?_
                  refine fg_iload (fg_ft (pc := 116) tb_Mo_shut 67 rfl) rfl ?_
                  refine fg_icmp_gtN (tgt := 198) (fg_ft (pc := 118) tb_Mo_shut 68 rfl) (by decide) (by omega) (by omega) (fun c118 => ?_) (fun c118 => ?_)
                  · refine fg_iload (fg_ft (pc := 198) tb_Mo_shut 105 rfl) rfl ?_
                    exact fg_iret (fg_ft (pc := 200) tb_Mo_shut 106 rfl) rfl rfl (fg_q (hQ ν (fg_agR_tr (fg_agR_A ha1) (fg_agR_tr (fg_agR_K hk1) (fg_agR_W hag)))) (by unfold an_shut; rw [fg_g1_some y4 y5] <;> (rw [if_pos c23, fg_mn_end hI (fun q hq => by have := fg_le_le hq.1; omega)]; rfl)))
                  · refine fg_iload (fg_ft (pc := 121) tb_Mo_shut 69 rfl) rfl ?_
                    refine fg_iload (fg_ft (pc := 123) tb_Mo_shut 70 rfl) rfl ?_
                    refine fg_iconst (fg_ft (pc := 125) tb_Mo_shut 71 rfl) ic_m1 ?_
                    refine fg_ixor (fg_ft (pc := 126) tb_Mo_shut 72 rfl) ?_
                    refine fg_iandD (fg_ft (pc := 127) tb_Mo_shut 73 rfl) ?_
                    refine fg_if_neN (tgt := 192) (fg_ft (pc := 128) tb_Mo_shut 74 rfl) (by decide) (fg_df_le31 (by omega)) (fun c128 => ?_) (fun c128 => ?_)
                    · refine fg_iincN (fg_ft (pc := 192) tb_Mo_shut 103 rfl) rfl ic_1 rfl ?_
                      refine fg_goto (tgt := 114) (fg_ft (pc := 195) tb_Mo_shut 104 rfl) (by decide) ?_
                      exact ih (s + 1) none _ (by omega) (by omega) (fg_mn_0 hI (fun hh => by first | exact c128 (fg_df0.mpr hh.1) | exact hka2.mp hh.2 c185)) hag h294
                    · refine fg_iload (fg_ft (pc := 131) tb_Mo_shut 75 rfl) rfl ?_
                      refine fg_if_lt (tgt := 152) (fg_ft (pc := 133) tb_Mo_shut 76 rfl) (by decide) (fun c133 => ?_) (fun c133 => (absurd (by decide) c133))
                      refine fg_aloadn (fg_ft (pc := 152) tb_Mo_shut 83 rfl) rfl ?_
                      refine fg_iload (fg_ft (pc := 153) tb_Mo_shut 84 rfl) rfl ?_
                      refine fg_iload (fg_ft (pc := 155) tb_Mo_shut 85 rfl) rfl ?_
                      refine fg_callV (fg_ft (pc := 157) tb_Mo_shut 86 rfl) cf_Mo_291 (fg_isOf ly_287 rfl (fg_lt ly_287 (by decide))) (as := [.int (nI (610 + 152 * town)), .int (nI (S.1))]) (st := []) rfl rfl (Nat.le_of_ble_eq_true rfl) (Nat.le_refl _) (Nat.le_refl _) (ev_Mo_asItWas (lv := lv) hMn hok (h := S.1) (M := S.2.1.1) (hv := S.2.2) (fun q9 hq9 => (hag.1 300 (by decide) (by decide) (by decide) (by decide) _).trans (h300 q9 hq9)) (fun q9 hq9 => (hag.1 301 (by decide) (by decide) (by decide) (by decide) _).trans (h301 q9 hq9)) h294 ?_)
                      intro μa hga a1 a2 a3 a4
                      have b1 : μa 287 17 = -1 := (hga.2 17 (by decide) (by decide) (by decide)).trans (hag.2.1.trans hSk.2.2.2.2.2.2.1)
                      have b2 : μa 287 19 = nI 0 := (hga.2 19 (by decide) (by decide) (by decide)).trans (hag.2.2.trans hSk.2.2.2.2.2.2.2.2)
                      show fg_wp _ _ _ _ _ _ _ _ _ (μa, fg_rho R, 304)
                      refine fg_aloadn (fg_ft (pc := 160) tb_Mo_shut 87 rfl) rfl ?_
                      refine fg_iload (fg_ft (pc := 161) tb_Mo_shut 88 rfl) rfl ?_
                      refine fg_putI (fg_ft (pc := 163) tb_Mo_shut 89 rfl) ff_Mo_221 ly_287 rfl (fg_lt ly_287 (by decide)) (fg_nokI _) (fun _ _ h => by cases h; rfl) ?_
                      show fg_wp _ _ _ _ _ _ _ _ _ (fg_u2 μa 287 19 (nI s), fg_rho R, 304)
                      have hMb : fg_MT ((fg_u2 μa 287 19 (nI s)) 288) (610 + 152 * town) (A.ts town) := hMn.ag (fun j => (fg_u2ne (by decide)).trans (hga.1 288 (by decide) (by decide) (by decide) (by decide) j))
                      have hCb : fg_MC (fg_u2 μa 287 19 (nI s)) (A.ts town) := hCn.ag (fun j => (fg_u2ne (by decide)).trans (hga.1 291 (by decide) (by decide) (by decide) (by decide) j))
                      have hSb : fg_MS (fg_u2 μa 287 19 (nI s)) (A.ts town) (S.1, (S.2.1.1, 0, 0, 0), S.2.2) lv (none, 0, s) (μa 287 16) (μa 287 20) := ⟨(fg_u2ns (by decide)).trans a1, fun q9 hq9 => (fg_u2ne (by decide)).trans (a2 q9 hq9), fun q9 hq9 => (fg_u2ne (by decide)).trans (a3 q9 hq9), fun q9 hq9 => (fg_u2ne (by decide)).trans (a4 q9 hq9), ((fg_u2ns (by decide)).trans (fg_ad0 _).symm), ((fg_u2ns (by decide)).trans (fg_or0 _).symm), ⟨(fg_u2ns (by decide)).trans b1, Or.inl rfl, fg_u2eq⟩⟩
                      refine fg_aloadn (fg_ft (pc := 166) tb_Mo_shut 90 rfl) rfl ?_
                      refine fg_iload (fg_ft (pc := 167) tb_Mo_shut 91 rfl) rfl ?_
                      refine fg_callV (fg_ft (pc := 169) tb_Mo_shut 92 rfl) cf_Mo_255 (fg_isOf ly_287 rfl (fg_lt ly_287 (by decide))) (as := [.int (nI (610 + 152 * town))]) (st := []) rfl rfl (Nat.le_of_ble_eq_true rfl) (Nat.le_refl _) (Nat.le_refl _) (ev_Mo_toEvening hMb hok hCb (h := S.1) (Z := (S.2.1.1, 0, 0, 0)) (hv := S.2.2) (lv := lv) (o := (none, 0, s)) (n0 := μa 287 16) (y := μa 287 20) hSb hz (fun q9 hq9 => by cases hq9) (Nat.two_pow_pos 31) (by show s < 2 ^ 31; omega) ?_)
                      intro μe hge hSe
                      have hSe : fg_MS μe (A.ts town) (fg_pn (A.ts town) (none, 0, s) (9 - S.1) (S.1, (S.2.1.1, 0, 0, 0), S.2.2)) lv (none, 0, s) (μa 287 16) (μa 287 20) := hSe
                      have hze : fg_zok (A.ts town) (fg_pn (A.ts town) (none, 0, s) (9 - S.1) (S.1, (S.2.1.1, 0, 0, 0), S.2.2)).1 (fg_pn (A.ts town) (none, 0, s) (9 - S.1) (S.1, (S.2.1.1, 0, 0, 0), S.2.2)).2.1 (fg_pn (A.ts town) (none, 0, s) (9 - S.1) (S.1, (S.2.1.1, 0, 0, 0), S.2.2)).2.2 := fg_pn_ok hok (o := (none, 0, s)) (9 - S.1) (S.1, (S.2.1.1, 0, 0, 0), S.2.2) hz
                      have hka := fg_kA_pn hok (S := S) hz (how := 1) (p := person) (k := fact) (set := s) y5
                      have hka2 : fg_kA (A.ts town) S 1 person fact s ↔ ¬ ((fg_pn (A.ts town) (none, 0, s) (9 - S.1) (S.1, (S.2.1.1, 0, 0, 0), S.2.2)).2.1.1 person).testBit fact = true := hka
                      show fg_wp _ _ _ _ _ _ _ _ _ (μe, fg_rho R, 304)
                      refine fg_aloadn (fg_ft (pc := 172) tb_Mo_shut 93 rfl) rfl ?_
                      refine fg_iconst (fg_ft (pc := 173) tb_Mo_shut 94 rfl) ic_0 ?_
                      refine fg_putI (fg_ft (pc := 174) tb_Mo_shut 95 rfl) ff_Mo_221 ly_287 rfl (fg_lt ly_287 (by decide)) (fg_nokI _) (fun _ _ h => by cases h; rfl) ?_
                      show fg_wp _ _ _ _ _ _ _ _ _ (fg_u2 μe 287 19 (nI 0), fg_rho R, 304)
                      have hgz : fg_agW ν (fg_u2 μe 287 19 (nI 0)) := ⟨fun a a1 a2 a3 a4 j => (fg_u2ne a1).trans ((hge.1 a a1 a2 a3 a4 j).trans ((fg_u2ne a1).trans (hga.1 a a1 a2 a3 a4 j))), (fg_u2ns (by decide)).trans ((hge.2 17 (by decide) (by decide) (by decide)).trans ((fg_u2ns (by decide)).trans (hga.2 17 (by decide) (by decide) (by decide)))), fg_u2eq.trans (hag.2.2.trans hSk.2.2.2.2.2.2.2.2).symm⟩
                      have hlz : ∀ q, q < A.ts town 2 → (fg_u2 μe 287 19 (nI 0)) 294 q = nI (lv q) := fun q hq => (fg_u2ne (by decide)).trans (hSe.2.2.2.1 q hq)
                      refine fg_aloadn (fg_ft (pc := 177) tb_Mo_shut 96 rfl) rfl ?_
                      refine fg_iload (fg_ft (pc := 178) tb_Mo_shut 97 rfl) rfl ?_
                      refine fg_iload (fg_ft (pc := 180) tb_Mo_shut 98 rfl) rfl ?_
                      refine fg_callV (fg_ft (pc := 182) tb_Mo_shut 99 rfl) cf_Mo_212 (fg_isOf ly_287 rfl (fg_lt ly_287 (by decide))) (as := [.int (nI person), .int (nI fact)]) (st := []) rfl rfl (Nat.le_of_ble_eq_true rfl) (Nat.le_refl _) (Nat.le_refl _) (ev_Mo_knows (Mv := (fg_pn (A.ts town) (none, 0, s) (9 - S.1) (S.1, (S.2.1.1, 0, 0, 0), S.2.2)).2.1.1) (T := (A.ts town)) (fun q9 hq9 => ((fg_u2ne (f := μe) (a := 287) (k := 19) (b := 292) (j := q9) (x := (nI 0)) (by decide)).trans (hSe.2.1 q9 hq9))) (p := person) (f := fact) (by omega) (by omega) (fg_km hok hze (by omega)) ?_)
                      refine fg_ifB_ne (tgt := 192) (fg_ft (pc := 185) tb_Mo_shut 100 rfl) (by decide) (fun c185 => ?_) (fun c185 => ?_)
                      · refine fg_iincN (fg_ft (pc := 192) tb_Mo_shut 103 rfl) rfl ic_1 rfl ?_
                        refine fg_goto (tgt := 114) (fg_ft (pc := 195) tb_Mo_shut 104 rfl) (by decide) ?_
                        exact ih (s + 1) none _ (by omega) (by omega) (fg_mn_0 hI (fun hh => by first | exact c128 (fg_df0.mpr hh.1) | exact hka2.mp hh.2 c185)) (fg_agW_tr hag hgz) hlz
                      · refine fg_iload (fg_ft (pc := 188) tb_Mo_shut 101 rfl) rfl ?_
                        refine fg_istore (fg_ft (pc := 190) tb_Mo_shut 102 rfl) (Nat.le_of_ble_eq_true rfl) ?_
                        refine fg_iincN (fg_ft (pc := 192) tb_Mo_shut 103 rfl) rfl ic_1 rfl ?_
                        refine fg_goto (tgt := 114) (fg_ft (pc := 195) tb_Mo_shut 104 rfl) (by decide) ?_
                        exact ih (s + 1) (some s) _ (by omega) (by omega) (fg_mn_1 hI ⟨fg_df0.mp c128, hka2.mpr c185⟩) (fg_agW_tr hag hgz) hlz
                | some p =>
                  show fg_wp E yy_Mo_shut (d + 12) 304 304 Q 114 [.ref 287, .int (nI town), .int (nI day), .int (nI n), .int (nI person), .int (nI fact), .int (nI (610 + 152 * town)), .int (nI (S.1)), .int (nI (fg_mtc (A.ts town) S.1 (A.ts town 4))), .int (nI p), .int (nI s)] [] (ν, fg_rho R, 304)
                  have hps := hI.1
                  have hpc1 := fg_pc_le p
                  have hpc2 := fg_pc_le s
                  refine fg_iload (fg_ft (pc := 114) tb_Mo_shut 66 rfl) rfl ?_
                  refine fg_iload (fg_ft (pc := 116) tb_Mo_shut 67 rfl) rfl ?_
                  refine fg_icmp_gtN (tgt := 198) (fg_ft (pc := 118) tb_Mo_shut 68 rfl) (by decide) (by omega) (by omega) (fun c118 => ?_) (fun c118 => ?_)
                  · refine fg_iload (fg_ft (pc := 198) tb_Mo_shut 105 rfl) rfl ?_
                    exact fg_iret (fg_ft (pc := 200) tb_Mo_shut 106 rfl) rfl rfl (fg_q (hQ ν (fg_agR_tr (fg_agR_A ha1) (fg_agR_tr (fg_agR_K hk1) (fg_agR_W hag)))) (by unfold an_shut; rw [fg_g1_some y4 y5] <;> (rw [if_pos c23, fg_mn_end hI (fun q hq => by have := fg_le_le hq.1; omega)]; rfl)))
                  · refine fg_iload (fg_ft (pc := 121) tb_Mo_shut 69 rfl) rfl ?_
                    refine fg_iload (fg_ft (pc := 123) tb_Mo_shut 70 rfl) rfl ?_
                    refine fg_iconst (fg_ft (pc := 125) tb_Mo_shut 71 rfl) ic_m1 ?_
                    refine fg_ixor (fg_ft (pc := 126) tb_Mo_shut 72 rfl) ?_
                    refine fg_iandD (fg_ft (pc := 127) tb_Mo_shut 73 rfl) ?_
                    refine fg_if_neN (tgt := 192) (fg_ft (pc := 128) tb_Mo_shut 74 rfl) (by decide) (fg_df_le31 (by omega)) (fun c128 => ?_) (fun c128 => ?_)
                    · refine fg_iincN (fg_ft (pc := 192) tb_Mo_shut 103 rfl) rfl ic_1 rfl ?_
                      refine fg_goto (tgt := 114) (fg_ft (pc := 195) tb_Mo_shut 104 rfl) (by decide) ?_
                      exact ih (s + 1) (some p) _ (by omega) (by omega) (by first | exact fg_mn_ge hI (by omega) | exact fg_mn_0 hI (fun hh => by first | exact c128 (fg_df0.mpr hh.1) | exact hka2.mp hh.2 c185)) hag h294
                    · refine fg_iload (fg_ft (pc := 131) tb_Mo_shut 75 rfl) rfl ?_
                      refine fg_if_ltN (tgt := 152) (fg_ft (pc := 133) tb_Mo_shut 76 rfl) (by decide) (by omega) ?_
                      refine fg_iload (fg_ft (pc := 136) tb_Mo_shut 77 rfl) rfl ?_
                      refine fg_callS (fg_ft (pc := 138) tb_Mo_shut 78 rfl) cf_Mo_333 (as := [.int (nI s)]) (st := []) rfl rfl (Nat.le_of_ble_eq_true rfl) (Nat.le_refl _) (Nat.le_refl _) (ev_Mo_size12 (m := s) (by omega) ?_)
                      refine fg_iload (fg_ft (pc := 141) tb_Mo_shut 79 rfl) rfl ?_
                      refine fg_callS (fg_ft (pc := 143) tb_Mo_shut 80 rfl) cf_Mo_333 (as := [.int (nI p)]) (st := [.int (nI (fg_pc s))]) rfl rfl (Nat.le_of_ble_eq_true rfl) (Nat.le_refl _) (Nat.le_refl _) (ev_Mo_size12 (m := p) (by omega) ?_)
                      refine fg_icmp_ltN (tgt := 152) (fg_ft (pc := 146) tb_Mo_shut 81 rfl) (by decide) (by omega) (by omega) (fun c146 => ?_) (fun c146 => ?_)
                      · refine fg_aloadn (fg_ft (pc := 152) tb_Mo_shut 83 rfl) rfl ?_
                        refine fg_iload (fg_ft (pc := 153) tb_Mo_shut 84 rfl) rfl ?_
                        refine fg_iload (fg_ft (pc := 155) tb_Mo_shut 85 rfl) rfl ?_
                        refine fg_callV (fg_ft (pc := 157) tb_Mo_shut 86 rfl) cf_Mo_291 (fg_isOf ly_287 rfl (fg_lt ly_287 (by decide))) (as := [.int (nI (610 + 152 * town)), .int (nI (S.1))]) (st := []) rfl rfl (Nat.le_of_ble_eq_true rfl) (Nat.le_refl _) (Nat.le_refl _) (ev_Mo_asItWas (lv := lv) hMn hok (h := S.1) (M := S.2.1.1) (hv := S.2.2) (fun q9 hq9 => (hag.1 300 (by decide) (by decide) (by decide) (by decide) _).trans (h300 q9 hq9)) (fun q9 hq9 => (hag.1 301 (by decide) (by decide) (by decide) (by decide) _).trans (h301 q9 hq9)) h294 ?_)
                        intro μa hga a1 a2 a3 a4
                        have b1 : μa 287 17 = -1 := (hga.2 17 (by decide) (by decide) (by decide)).trans (hag.2.1.trans hSk.2.2.2.2.2.2.1)
                        have b2 : μa 287 19 = nI 0 := (hga.2 19 (by decide) (by decide) (by decide)).trans (hag.2.2.trans hSk.2.2.2.2.2.2.2.2)
                        show fg_wp _ _ _ _ _ _ _ _ _ (μa, fg_rho R, 304)
                        refine fg_aloadn (fg_ft (pc := 160) tb_Mo_shut 87 rfl) rfl ?_
                        refine fg_iload (fg_ft (pc := 161) tb_Mo_shut 88 rfl) rfl ?_
                        refine fg_putI (fg_ft (pc := 163) tb_Mo_shut 89 rfl) ff_Mo_221 ly_287 rfl (fg_lt ly_287 (by decide)) (fg_nokI _) (fun _ _ h => by cases h; rfl) ?_
                        show fg_wp _ _ _ _ _ _ _ _ _ (fg_u2 μa 287 19 (nI s), fg_rho R, 304)
                        have hMb : fg_MT ((fg_u2 μa 287 19 (nI s)) 288) (610 + 152 * town) (A.ts town) := hMn.ag (fun j => (fg_u2ne (by decide)).trans (hga.1 288 (by decide) (by decide) (by decide) (by decide) j))
                        have hCb : fg_MC (fg_u2 μa 287 19 (nI s)) (A.ts town) := hCn.ag (fun j => (fg_u2ne (by decide)).trans (hga.1 291 (by decide) (by decide) (by decide) (by decide) j))
                        have hSb : fg_MS (fg_u2 μa 287 19 (nI s)) (A.ts town) (S.1, (S.2.1.1, 0, 0, 0), S.2.2) lv (none, 0, s) (μa 287 16) (μa 287 20) := ⟨(fg_u2ns (by decide)).trans a1, fun q9 hq9 => (fg_u2ne (by decide)).trans (a2 q9 hq9), fun q9 hq9 => (fg_u2ne (by decide)).trans (a3 q9 hq9), fun q9 hq9 => (fg_u2ne (by decide)).trans (a4 q9 hq9), ((fg_u2ns (by decide)).trans (fg_ad0 _).symm), ((fg_u2ns (by decide)).trans (fg_or0 _).symm), ⟨(fg_u2ns (by decide)).trans b1, Or.inl rfl, fg_u2eq⟩⟩
                        refine fg_aloadn (fg_ft (pc := 166) tb_Mo_shut 90 rfl) rfl ?_
                        refine fg_iload (fg_ft (pc := 167) tb_Mo_shut 91 rfl) rfl ?_
                        refine fg_callV (fg_ft (pc := 169) tb_Mo_shut 92 rfl) cf_Mo_255 (fg_isOf ly_287 rfl (fg_lt ly_287 (by decide))) (as := [.int (nI (610 + 152 * town))]) (st := []) rfl rfl (Nat.le_of_ble_eq_true rfl) (Nat.le_refl _) (Nat.le_refl _) (ev_Mo_toEvening hMb hok hCb (h := S.1) (Z := (S.2.1.1, 0, 0, 0)) (hv := S.2.2) (lv := lv) (o := (none, 0, s)) (n0 := μa 287 16) (y := μa 287 20) hSb hz (fun q9 hq9 => by cases hq9) (Nat.two_pow_pos 31) (by show s < 2 ^ 31; omega) ?_)
                        intro μe hge hSe
                        have hSe : fg_MS μe (A.ts town) (fg_pn (A.ts town) (none, 0, s) (9 - S.1) (S.1, (S.2.1.1, 0, 0, 0), S.2.2)) lv (none, 0, s) (μa 287 16) (μa 287 20) := hSe
                        have hze : fg_zok (A.ts town) (fg_pn (A.ts town) (none, 0, s) (9 - S.1) (S.1, (S.2.1.1, 0, 0, 0), S.2.2)).1 (fg_pn (A.ts town) (none, 0, s) (9 - S.1) (S.1, (S.2.1.1, 0, 0, 0), S.2.2)).2.1 (fg_pn (A.ts town) (none, 0, s) (9 - S.1) (S.1, (S.2.1.1, 0, 0, 0), S.2.2)).2.2 := fg_pn_ok hok (o := (none, 0, s)) (9 - S.1) (S.1, (S.2.1.1, 0, 0, 0), S.2.2) hz
                        have hka := fg_kA_pn hok (S := S) hz (how := 1) (p := person) (k := fact) (set := s) y5
                        have hka2 : fg_kA (A.ts town) S 1 person fact s ↔ ¬ ((fg_pn (A.ts town) (none, 0, s) (9 - S.1) (S.1, (S.2.1.1, 0, 0, 0), S.2.2)).2.1.1 person).testBit fact = true := hka
                        show fg_wp _ _ _ _ _ _ _ _ _ (μe, fg_rho R, 304)
                        refine fg_aloadn (fg_ft (pc := 172) tb_Mo_shut 93 rfl) rfl ?_
                        refine fg_iconst (fg_ft (pc := 173) tb_Mo_shut 94 rfl) ic_0 ?_
                        refine fg_putI (fg_ft (pc := 174) tb_Mo_shut 95 rfl) ff_Mo_221 ly_287 rfl (fg_lt ly_287 (by decide)) (fg_nokI _) (fun _ _ h => by cases h; rfl) ?_
                        show fg_wp _ _ _ _ _ _ _ _ _ (fg_u2 μe 287 19 (nI 0), fg_rho R, 304)
                        have hgz : fg_agW ν (fg_u2 μe 287 19 (nI 0)) := ⟨fun a a1 a2 a3 a4 j => (fg_u2ne a1).trans ((hge.1 a a1 a2 a3 a4 j).trans ((fg_u2ne a1).trans (hga.1 a a1 a2 a3 a4 j))), (fg_u2ns (by decide)).trans ((hge.2 17 (by decide) (by decide) (by decide)).trans ((fg_u2ns (by decide)).trans (hga.2 17 (by decide) (by decide) (by decide)))), fg_u2eq.trans (hag.2.2.trans hSk.2.2.2.2.2.2.2.2).symm⟩
                        have hlz : ∀ q, q < A.ts town 2 → (fg_u2 μe 287 19 (nI 0)) 294 q = nI (lv q) := fun q hq => (fg_u2ne (by decide)).trans (hSe.2.2.2.1 q hq)
                        refine fg_aloadn (fg_ft (pc := 177) tb_Mo_shut 96 rfl) rfl ?_
                        refine fg_iload (fg_ft (pc := 178) tb_Mo_shut 97 rfl) rfl ?_
                        refine fg_iload (fg_ft (pc := 180) tb_Mo_shut 98 rfl) rfl ?_
                        refine fg_callV (fg_ft (pc := 182) tb_Mo_shut 99 rfl) cf_Mo_212 (fg_isOf ly_287 rfl (fg_lt ly_287 (by decide))) (as := [.int (nI person), .int (nI fact)]) (st := []) rfl rfl (Nat.le_of_ble_eq_true rfl) (Nat.le_refl _) (Nat.le_refl _) (ev_Mo_knows (Mv := (fg_pn (A.ts town) (none, 0, s) (9 - S.1) (S.1, (S.2.1.1, 0, 0, 0), S.2.2)).2.1.1) (T := (A.ts town)) (fun q9 hq9 => ((fg_u2ne (f := μe) (a := 287) (k := 19) (b := 292) (j := q9) (x := (nI 0)) (by decide)).trans (hSe.2.1 q9 hq9))) (p := person) (f := fact) (by omega) (by omega) (fg_km hok hze (by omega)) ?_)
                        refine fg_ifB_ne (tgt := 192) (fg_ft (pc := 185) tb_Mo_shut 100 rfl) (by decide) (fun c185 => ?_) (fun c185 => ?_)
                        · refine fg_iincN (fg_ft (pc := 192) tb_Mo_shut 103 rfl) rfl ic_1 rfl ?_
                          refine fg_goto (tgt := 114) (fg_ft (pc := 195) tb_Mo_shut 104 rfl) (by decide) ?_
                          exact ih (s + 1) (some p) _ (by omega) (by omega) (by first | exact fg_mn_ge hI (by omega) | exact fg_mn_0 hI (fun hh => by first | exact c128 (fg_df0.mpr hh.1) | exact hka2.mp hh.2 c185)) (fg_agW_tr hag hgz) hlz
                        · refine fg_iload (fg_ft (pc := 188) tb_Mo_shut 101 rfl) rfl ?_
                          refine fg_istore (fg_ft (pc := 190) tb_Mo_shut 102 rfl) (Nat.le_of_ble_eq_true rfl) ?_
                          refine fg_iincN (fg_ft (pc := 192) tb_Mo_shut 103 rfl) rfl ic_1 rfl ?_
                          refine fg_goto (tgt := 114) (fg_ft (pc := 195) tb_Mo_shut 104 rfl) (by decide) ?_
                          exact ih (s + 1) (some s) _ (by omega) (by omega) (fg_mn_2 hI (by omega) ⟨fg_df0.mp c128, hka2.mpr c185⟩) (fg_agW_tr hag hgz) hlz
                      · refine fg_goto (tgt := 192) (fg_ft (pc := 149) tb_Mo_shut 82 rfl) (by decide) ?_
                        refine fg_iincN (fg_ft (pc := 192) tb_Mo_shut 103 rfl) rfl ic_1 rfl ?_
                        refine fg_goto (tgt := 114) (fg_ft (pc := 195) tb_Mo_shut 104 rfl) (by decide) ?_
                        exact ih (s + 1) (some p) _ (by omega) (by omega) (by first | exact fg_mn_ge hI (by omega) | exact fg_mn_0 hI (fun hh => by first | exact c128 (fg_df0.mpr hh.1) | exact hka2.mp hh.2 c185)) hag h294
            exact loop ((fg_mtc (A.ts town) S.1 (A.ts town 4)) + 1 + 1) 0 none μk (by omega) (by omega) (fun q hq => absurd hq (Nat.not_lt_zero _)) (fg_agW_rf _) hSk.2.2.2.1
          · refine fg_iload (fg_ft (pc := 67) tb_Mo_shut 38 rfl) rfl ?_
            refine fg_aloadn (fg_ft (pc := 69) tb_Mo_shut 39 rfl) rfl ?_
            refine fg_getR (fg_ft (pc := 70) tb_Mo_shut 40 rfl) ff_Mo_7 ly_287 rfl (fg_lt ly_287 (by decide)) (rh_287_0 R) ?_
            refine fg_iload (fg_ft (pc := 73) tb_Mo_shut 41 rfl) rfl ?_
            refine fg_bipush (fg_ft (pc := 75) tb_Mo_shut 42 rfl) ib_79 ?_
            refine fg_iaddN (fg_ft (pc := 77) tb_Mo_shut 43 rfl) ?_
            refine fg_iconst (fg_ft (pc := 78) tb_Mo_shut 44 rfl) ic_4 ?_
            refine fg_iload (fg_ft (pc := 79) tb_Mo_shut 45 rfl) rfl ?_
            refine fg_imulN (fg_ft (pc := 81) tb_Mo_shut 46 rfl) ?_
            refine fg_iaddN (fg_ft (pc := 82) tb_Mo_shut 47 rfl) ?_
            refine fg_iconst (fg_ft (pc := 83) tb_Mo_shut 48 rfl) ic_2 ?_
            refine fg_iaddN (fg_ft (pc := 84) tb_Mo_shut 49 rfl) ?_
            refine fg_ialdV (v := (nI ((A.ts town) (81 + 4 * i)))) (fg_ft (pc := 85) tb_Mo_shut 50 rfl) ly_288 (fg_lt ly_288 (by decide)) (by omega) (fg_MTat hMk (i := (((610 + 152 * town) + 79) + (4 * i)) + 2) (k := 81 + 4 * i) (by omega) (by omega)) ?_
            refine fg_iload (fg_ft (pc := 86) tb_Mo_shut 51 rfl) rfl ?_
            refine fg_icmp_leN (tgt := 98) (fg_ft (pc := 88) tb_Mo_shut 52 rfl) (by decide) (by omega) (by omega) (fun c88 => ?_) (fun c88 => ?_)
            · refine fg_iconst (fg_ft (pc := 98) tb_Mo_shut 57 rfl) ic_0 ?_
              refine fg_iorN (fg_ft (pc := 99) tb_Mo_shut 58 rfl) ?_
              refine fg_istore (fg_ft (pc := 100) tb_Mo_shut 59 rfl) (Nat.le_of_ble_eq_true rfl) ?_
              refine fg_iincN (fg_ft (pc := 102) tb_Mo_shut 60 rfl) rfl ic_1 rfl ?_
              refine fg_goto (tgt := 53) (fg_ft (pc := 105) tb_Mo_shut 61 rfl) (by decide) ?_
              have q9 := ih (i + 1) (by omega) (by omega)
              first
                | (rw [show fg_mtc (A.ts town) S.1 (i + 1) = fg_mtc (A.ts town) S.1 i ||| (if S.1 < A.ts town (81 + 4 * i) then 2 ^ i else 0) from rfl, if_neg (by omega)] at q9; exact q9)
                | (rw [show fg_mtc (A.ts town) S.1 (i + 1) = fg_mtc (A.ts town) S.1 i ||| (if S.1 < A.ts town (81 + 4 * i) then 2 ^ i else 0) from rfl, if_pos (by omega)] at q9; exact q9)
            · refine fg_iconst (fg_ft (pc := 91) tb_Mo_shut 53 rfl) ic_1 ?_
              refine fg_iload (fg_ft (pc := 92) tb_Mo_shut 54 rfl) rfl ?_
              refine fg_ishl1 (fg_ft (pc := 94) tb_Mo_shut 55 rfl) (by omega) ?_
              refine fg_goto (tgt := 99) (fg_ft (pc := 95) tb_Mo_shut 56 rfl) (by decide) ?_
              refine fg_iorN (fg_ft (pc := 99) tb_Mo_shut 58 rfl) ?_
              refine fg_istore (fg_ft (pc := 100) tb_Mo_shut 59 rfl) (Nat.le_of_ble_eq_true rfl) ?_
              refine fg_iincN (fg_ft (pc := 102) tb_Mo_shut 60 rfl) rfl ic_1 rfl ?_
              refine fg_goto (tgt := 53) (fg_ft (pc := 105) tb_Mo_shut 61 rfl) (by decide) ?_
              have q9 := ih (i + 1) (by omega) (by omega)
              first
                | (rw [show fg_mtc (A.ts town) S.1 (i + 1) = fg_mtc (A.ts town) S.1 i ||| (if S.1 < A.ts town (81 + 4 * i) then 2 ^ i else 0) from rfl, if_neg (by omega)] at q9; exact q9)
                | (rw [show fg_mtc (A.ts town) S.1 (i + 1) = fg_mtc (A.ts town) S.1 i ||| (if S.1 < A.ts town (81 + 4 * i) then 2 ^ i else 0) from rfl, if_pos (by omega)] at q9; exact q9)
      exact build (A.ts town 4 + 1) 0 (by omega) (by omega)
    · refine fg_iconst (fg_ft (pc := 26) tb_Mo_shut 14 rfl) ic_m1 ?_
      exact fg_iret (fg_ft (pc := 27) tb_Mo_shut 15 rfl) rfl rfl (fg_q (hQ _ (fg_agR_A ha1)) (by unfold an_shut; rw [fg_g1_some y4 y5] <;> ((repeat (first | rw [if_pos (by assumption)] | rw [if_neg (by assumption)] | rw [if_pos (by omega)] | rw [if_neg (by omega)] | rw [if_pos (by constructor <;> assumption)] | rw [if_neg (by intro hh; exact absurd hh.1 (by assumption))] | rw [if_neg (by intro hh; exact absurd hh.2 (by assumption))])); (try rfl))))
